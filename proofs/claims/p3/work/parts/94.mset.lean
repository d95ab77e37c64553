theorem odd_part (x : Nat) : 0 < x → ∃ i k : Nat, x = 2 ^ i * (2 * k + 1) := by
  induction x using Nat.strongRecOn with
  | _ x ih =>
    intro hx
    by_cases h : x % 2 = 1
    · exact ⟨0, x / 2, by omega⟩
    · obtain ⟨i, k, e⟩ := ih (x / 2) (by omega) (by omega)
      refine ⟨i + 1, k, ?_⟩
      rw [Nat.pow_succ, Nat.mul_assoc, Nat.mul_comm 2, ← Nat.mul_assoc, ← e]
      omega
theorem tb_mul (i m : Nat) : (2 ^ i * m).testBit i = decide (m % 2 = 1) := by
  rw [Nat.testBit_two_pow_mul]
  simp [Nat.testBit_zero]
def Hb (x p : Int) : Prop := ∃ i : Nat, x.toNat.testBit i = true ∧ p.toNat.testBit i = true
def Hb2 (x p : Int) : Prop := 0 < x → Hb x p
theorem iv_inj {x y : Int} (h : iv x = iv y) (hx : -2147483648 ≤ x ∧ x ≤ 2147483647) (hy : -2147483648 ≤ y ∧ y ≤ 2147483647) : x = y := (iv_eq hx hy).mp h
theorem iv_negN {a : Nat} (h0 : 0 < a) (h1 : a < 2 ^ 32) : iv (-(a : Int)) = iv ((2 ^ 32 - a : Nat) : Int) := by
  have e : ((2 ^ 32 - a : Nat) : Int) = -(a : Int) + 4294967296 := by omega
  rw [e, ← iv_add]
  have z : iv 4294967296 = 0 := by decide
  rw [z]; simp
theorem Hb_low {x z : Int} (h0 : 0 ≤ x ∧ x ≤ 65535) (hz : iv x &&& iv (-x) = iv z) (h1 : 0 ≤ z ∧ z ≤ x) : Hb2 x z := by
  intro hx
  obtain ⟨a, rfl⟩ := Int.eq_ofNat_of_zero_le h0.1
  obtain ⟨c, rfl⟩ := Int.eq_ofNat_of_zero_le h1.1
  rw [iv_negN (by omega) (by omega), iv_and (by omega) (by omega)] at hz
  have h3 : a &&& (2 ^ 32 - a) ≤ a := Nat.and_le_left
  have e := iv_inj hz (by omega) (by omega)
  have e2 : a &&& (2 ^ 32 - a) = c := by omega
  obtain ⟨i, k, ea⟩ := odd_part a (by omega)
  have hi : i < 32 := by
    rcases Nat.lt_or_ge i 32 with h | h
    · exact h
    · have h5 : 2 ^ 32 ≤ 2 ^ i := Nat.pow_le_pow_right (by omega) h
      have h6 : 2 ^ i * 1 ≤ 2 ^ i * (2 * k + 1) := Nat.mul_le_mul_left _ (by omega)
      omega
  have t1 : a.testBit i = true := by rw [ea, tb_mul]; exact decide_eq_true (by omega)
  have e3 : 2 ^ 32 - a = 2 ^ i * (2 ^ (32 - i) - (2 * k + 1)) := by
    rw [Nat.mul_sub, ← Nat.pow_add, ← ea]
    congr 2
    omega
  have h7 : 2 * k + 1 ≤ 2 ^ (32 - i) := by
    rcases Nat.lt_or_ge (2 ^ (32 - i)) (2 * k + 1) with h | h
    · have h8 : 2 ^ i * 2 ^ (32 - i) ≤ 2 ^ i * (2 * k + 1) := Nat.mul_le_mul_left _ (by omega)
      rw [← Nat.pow_add, ← ea, show i + (32 - i) = 32 by omega] at h8
      omega
    · exact h
  have h9 : 2 ^ (32 - i) % 2 = 0 := by
    obtain ⟨j, hj⟩ : ∃ j, 32 - i = j + 1 := ⟨31 - i, by omega⟩
    rw [hj, Nat.pow_succ]; omega
  have t2 : (2 ^ 32 - a).testBit i = true := by rw [e3, tb_mul]; exact decide_eq_true (by omega)
  refine ⟨i, t1, ?_⟩
  show (c : Nat).testBit i = true
  rw [← e2, Nat.testBit_and, t1, t2]; rfl
theorem or_nat {p q z : Int} (hz : iv p ||| iv q = iv z) (h0 : 0 ≤ p ∧ p ≤ 65535) (h1 : 0 ≤ q ∧ q ≤ 65535) (h2 : 0 ≤ z ∧ z ≤ 65535) : z.toNat = p.toNat ||| q.toNat := by
  obtain ⟨a, rfl⟩ := Int.eq_ofNat_of_zero_le h0.1
  obtain ⟨b, rfl⟩ := Int.eq_ofNat_of_zero_le h1.1
  obtain ⟨c, rfl⟩ := Int.eq_ofNat_of_zero_le h2.1
  rw [iv_or (by omega) (by omega)] at hz
  have h3 : a ||| b < 2 ^ 16 := Nat.or_lt_two_pow (by omega) (by omega)
  have e := iv_inj hz (by omega) (by omega)
  show c = a ||| b
  omega
theorem Hb_or {x p q z : Int} (h : Hb2 x p) (hz : iv p ||| iv q = iv z) (h0 : 0 ≤ p ∧ p ≤ 65535) (h1 : 0 ≤ q ∧ q ≤ 65535) (h2 : 0 ≤ z ∧ z ≤ 65535) : Hb2 x z := by
  intro hx
  obtain ⟨i, t1, t2⟩ := h hx
  exact ⟨i, t1, by rw [or_nat hz h0 h1 h2, Nat.testBit_or, t2]; rfl⟩
theorem Hb_less {x p z : Int} (h : Hb2 x p) (hz : iv x &&& iv (-p - 1) = iv z) (h0 : 0 ≤ x ∧ x ≤ 65535) (h1 : 0 ≤ p ∧ p ≤ 65535) (h2 : 0 ≤ z ∧ z ≤ x) (hx : 0 < x) : z < x := by
  obtain ⟨i, t1, t2⟩ := h hx
  obtain ⟨a, rfl⟩ := Int.eq_ofNat_of_zero_le h0.1
  obtain ⟨b, rfl⟩ := Int.eq_ofNat_of_zero_le h1.1
  obtain ⟨c, rfl⟩ := Int.eq_ofNat_of_zero_le h2.1
  have e1 : -(b : Int) - 1 = -((b + 1 : Nat) : Int) := by omega
  rw [e1, iv_negN (by omega) (by omega), iv_and (by omega) (by omega)] at hz
  have h3 : a &&& (2 ^ 32 - (b + 1)) ≤ a := Nat.and_le_left
  have e := iv_inj hz (by omega) (by omega)
  have e2 : a &&& (2 ^ 32 - (b + 1)) = c := by omega
  have hb : b < 2 ^ 32 := by omega
  have h4 : c.testBit i = false := by
    rw [← e2, Nat.testBit_and, Nat.testBit_two_pow_sub_succ hb]
    have t2' : b.testBit i = true := t2
    rw [t2']; simp
  have h5 : c ≠ a := by
    intro e9
    have t1' : a.testBit i = true := t1
    rw [← e9, h4] at t1'
    cases t1'
  omega
def Hs (x r : Int) : Prop := 0 < x.toNat >>> r.toNat
theorem Hs_0 {x : Int} (h : 0 < x) : Hs x 0 := by
  show 0 < x.toNat >>> 0
  rw [Nat.shiftRight_zero]; omega
theorem shr_e {x r : Int} (h0 : 0 ≤ x ∧ x ≤ 2147483647) (h1 : 0 ≤ r ∧ r < 32) : iv x >>> (iv r &&& 31) = iv ((x.toNat >>> r.toNat : Nat) : Int) := by
  obtain ⟨a, rfl⟩ := Int.eq_ofNat_of_zero_le h0.1
  obtain ⟨b, rfl⟩ := Int.eq_ofNat_of_zero_le h1.1
  exact iv_shr (by omega) (by omega)
theorem and1_e (a : Nat) (h : a < 2 ^ 31) : iv (a : Int) &&& iv 1 = iv ((a : Int) % 2) := by
  have h1 : iv 1 = iv ((1 : Nat) : Int) := rfl
  rw [h1, iv_and (by omega) (by omega)]
  have e : a &&& 1 = a % 2 := Nat.and_two_pow_sub_one_eq_mod a 1
  rw [e]
  congr 1
theorem shr_le (a k : Nat) : a >>> k ≤ a := by rw [Nat.shiftRight_eq_div_pow]; exact Nat.div_le_self _ _
theorem Hs_step {x r : Int} (h : Hs x r) (h0 : 0 ≤ r) (h1 : ((x.toNat >>> r.toNat : Nat) : Int) % 2 = 0) : Hs x (r + 1) := by
  have e : (r + 1).toNat = r.toNat + 1 := by omega
  show 0 < x.toNat >>> (r + 1).toNat
  rw [e, Nat.shiftRight_succ]
  have h2 : 0 < x.toNat >>> r.toNat := h
  omega
theorem Hs_le {x r : Int} (h : Hs x r) (h0 : 0 ≤ r) (h1 : 0 ≤ x ∧ x ≤ 65535) : r ≤ 15 := by
  rcases Nat.lt_or_ge r.toNat 16 with h2 | h2
  · omega
  · have h3 : x.toNat >>> r.toNat = 0 := by
      rw [Nat.shiftRight_eq_div_pow]
      apply Nat.div_eq_of_lt
      have h4 : 2 ^ 16 ≤ 2 ^ r.toNat := Nat.pow_le_pow_right (by omega) h2
      omega
    have h5 : 0 < x.toNat >>> r.toNat := h
    omega
def Cv (w a b : Int) : Prop := ∀ i : Nat, w.toNat.testBit i = true → a.toNat.testBit i = true ∨ b.toNat.testBit i = true
theorem Cv_m1 (a b : Int) : Cv (-1) a b := by
  intro i h
  have h2 : (0 : Nat).testBit i = true := h
  simp at h2
theorem le_of_tb {a b : Nat} (h : ∀ i, a.testBit i = true → b.testBit i = true) : a ≤ b := by
  have e : a &&& b = a := by
    apply Nat.eq_of_testBit_eq
    intro i
    rw [Nat.testBit_and]
    cases h1 : a.testBit i
    · rfl
    · rw [h i h1]; rfl
  rw [← e]; exact Nat.and_le_right
theorem Cv_le {w a b z : Int} (h : Cv w a b) (hz : iv a ||| iv b = iv z) (h0 : 0 ≤ a ∧ a ≤ 65535) (h1 : 0 ≤ b ∧ b ≤ 65535) (h2 : 0 ≤ z ∧ z ≤ 65535) (hw : -1 ≤ w) : w ≤ z := by
  have e := or_nat hz h0 h1 h2
  have h3 : w.toNat ≤ z.toNat := le_of_tb (fun i hi => by
    rw [e, Nat.testBit_or]
    rcases h i hi with q | q <;> rw [q] <;> simp)
  omega
theorem Cv_or {a b z : Int} (hz : iv a ||| iv b = iv z) (h0 : 0 ≤ a ∧ a ≤ 65535) (h1 : 0 ≤ b ∧ b ≤ 65535) (h2 : 0 ≤ z ∧ z ≤ 65535) : Cv z a b := by
  intro i hi
  rw [or_nat hz h0 h1 h2, Nat.testBit_or] at hi
  simpa using hi
theorem Cv_b {w a b q z : Int} (h : Cv w a b) (hz : iv b ||| iv q = iv z) (h0 : 0 ≤ b ∧ b ≤ 65535) (h1 : 0 ≤ q ∧ q ≤ 65535) (h2 : 0 ≤ z ∧ z ≤ 65535) : Cv w a z := by
  intro i hi
  rcases h i hi with t | t
  · exact Or.inl t
  · right; rw [or_nat hz h0 h1 h2, Nat.testBit_or, t]; rfl
theorem Cv_a {w a b q z : Int} (h : Cv w a b) (hz : iv a ||| iv q = iv z) (h0 : 0 ≤ a ∧ a ≤ 65535) (h1 : 0 ≤ q ∧ q ≤ 65535) (h2 : 0 ≤ z ∧ z ≤ 65535) : Cv w z b := by
  intro i hi
  rcases h i hi with t | t
  · left; rw [or_nat hz h0 h1 h2, Nat.testBit_or, t]; rfl
  · exact Or.inr t
set_option maxHeartbeats 4000000 in
set_option maxRecDepth 100000 in
theorem t_X12_together {D : va_G} {cI cJ cZ cT : ClassId} {lo b L : Nat} {xs : Nat → Int32} {hp : MH} {n d : Nat} {Γ : TG} {y : Nat} {rf cnt nm : Int32} {x1 : Int} (hd0 : 0 ≤ d) (hO : rd Γ y (tO 11 (mdF y rf cnt nm))) (hA_beside : rd Γ (y + 24) (tI cI 16 (rg 0 65535))) (ht : Tw Γ hp) (hx1 : 0 ≤ x1 ∧ x1 ≤ 65535) : Mt (gG D cI cJ cZ cT lo b L xs) mX12_together d 0 0 [.ref y, .int (iv x1)] hp n (pI Γ n (fun r => 0 ≤ r ∧ r ≤ 65535 ∧ Hb2 x1 r)) := by
  refine Mt.of rfl (Nat.le_of_ble_eq_true rfl) ?_
  refine Rn.pick (lv' := [(0, .ref y), (1, .int (iv x1))]) [0, 1] rfl ?_
  refine r_iload_n (pc := 0) dX12_together_0 (i := 1) rfl rfl ?_
  refine r_iload_n (pc := 1) dX12_together_1 (i := 1) rfl rfl ?_
  refine r_ineg (pc := 2) (v := iv (-x1)) dX12_together_2 (iv_neg _) ?_
  obtain ⟨z1, hz1, bz1⟩ := and_l x1 (-x1) (by omega) (by omega)
  refine r_iand (pc := 3) (v := iv z1) dX12_together_3 hz1 ?_
  have hH0 : Hb2 x1 z1 := Hb_low (by omega) hz1 (by omega)
  refine r_istore_n (pc := 4) (lv' := [(2, .int (iv z1)), (0, .ref y), (1, .int (iv x1))]) dX12_together_4 (i := 2) rfl (by decide) rfl ?_
  refine r_iconst (pc := 5) (v := iv 0) dX12_together_5 (by decide) ?_
  refine r_istore_n (pc := 6) (lv' := [(3, .int (iv 0)), (2, .int (iv z1)), (0, .ref y), (1, .int (iv x1))]) dX12_together_6 (i := 3) rfl (by decide) rfl ?_
  have B7 : ∀ k : Nat, ∀ hp7 : MH, Tw Γ hp7 → ∀  (v7_2 : Int) (v7_3 : Int), 0 ≤ v7_2 ∧ v7_2 ≤ 65535 ∧ z1 ≤ v7_2 ∧ 0 ≤ v7_3 ∧ v7_3 ≤ 65535 ∧ v7_3 ≤ v7_2 ∧ Hb2 x1 v7_2 → 65536 - v7_3 ≤ (k : Int) → Rn (gG D cI cJ cZ cT lo b L xs) mX12_together d 7 [(0, .ref y), (1, .int (iv x1)), (2, .int (iv v7_2)), (3, .int (iv v7_3))] [] hp7 n 0 0 (pI Γ n (fun r => 0 ≤ r ∧ r ≤ 65535 ∧ Hb2 x1 r)) := by
    refine lpS _ ?_
    intro k7 ih7 hp7 ht7 v7_2 v7_3 hf7 hm7
    obtain ⟨hf7_0, hf7_1, hf7_2, hf7_3, hf7_4, hf7_5, ha7_6⟩ := hf7
    refine r_iload_n (pc := 7) dX12_together_7 (i := 3) rfl rfl ?_
    refine r_iload_n (pc := 8) dX12_together_8 (i := 2) rfl rfl ?_
    refine t_icmp_eq (pc := 9) (tgt := 55) dX12_together_9 (by decide) (by omega) (by omega) (fun c9 => ?_) (fun c9 => ?_)
    · refine r_iload_n (pc := 55) dX12_together_55 (i := 2) rfl rfl ?_
      exact r_iret (pc := 56) dX12_together_56 rfl ⟨rfl, ht7, _, rfl, by omega, by omega, by assumption⟩
    · refine r_iload_n (pc := 12) dX12_together_12 (i := 2) rfl rfl ?_
      refine r_istore_n (pc := 13) (lv' := [(3, .int (iv v7_2)), (0, .ref y), (1, .int (iv x1)), (2, .int (iv v7_2))]) dX12_together_13 (i := 3) rfl (by decide) rfl ?_
      refine r_iconst (pc := 14) (v := iv 0) dX12_together_14 (by decide) ?_
      refine r_istore (pc := 15) (lv' := [(4, .int (iv 0)), (3, .int (iv v7_2)), (0, .ref y), (1, .int (iv x1)), (2, .int (iv v7_2))]) dX12_together_15 (by decide) rfl ?_
      have B17 : ∀ k : Nat, ∀ hp17 : MH, Tw Γ hp17 → ∀  (v17_2 : Int) (v17_4 : Int), 0 ≤ v17_2 ∧ v17_2 ≤ 65535 ∧ v7_2 ≤ v17_2 ∧ 0 ≤ v17_4 ∧ v17_4 ≤ 16 ∧ Hb2 x1 v17_2 → 16 - v17_4 ≤ (k : Int) → Rn (gG D cI cJ cZ cT lo b L xs) mX12_together d 17 [(0, .ref y), (1, .int (iv x1)), (2, .int (iv v17_2)), (3, .int (iv v7_2)), (4, .int (iv v17_4))] [] hp17 n 0 0 (pI Γ n (fun r => 0 ≤ r ∧ r ≤ 65535 ∧ Hb2 x1 r)) := by
        refine lpS _ ?_
        intro k17 ih17 hp17 ht17 v17_2 v17_4 hf17 hm17
        obtain ⟨hf17_0, hf17_1, hf17_2, hf17_3, hf17_4, ha17_5⟩ := hf17
        refine r_iload (pc := 17) dX12_together_17 rfl ?_
        refine r_bipush (pc := 19) (v := iv 16) dX12_together_19 (by decide) ?_
        refine t_icmp_ge (pc := 21) (tgt := 52) dX12_together_21 (by decide) (by omega) (by omega) (fun c21 => ?_) (fun c21 => ?_)
        · refine r_goto (pc := 52) (tgt := 7) dX12_together_52 (by decide) ?_
          refine Rn.pick (lv' := [(0, .ref y), (1, .int (iv x1)), (2, .int (iv v17_2)), (3, .int (iv v7_2))]) [0, 1, 2, 3] rfl ?_
          exact ih7 (Int.toNat (65536 - v7_2)) (by omega) _ ht17 v17_2 v7_2 ⟨by omega, by omega, by omega, by omega, by omega, by omega, by assumption⟩ (by omega)
        · refine r_iload_n (pc := 24) dX12_together_24 (i := 3) rfl rfl ?_
          refine r_iload (pc := 25) dX12_together_25 rfl ?_
          obtain ⟨z2, hz2, bz2⟩ := shr_x v7_2 v17_4 (by omega) (by omega)
          refine r_ishr (pc := 27) (v := iv z2) dX12_together_27 hz2 ?_
          refine r_iconst (pc := 28) (v := iv 1) dX12_together_28 (by decide) ?_
          obtain ⟨z3, hz3, bz3⟩ := and_2 z2 1 (by omega) (by omega)
          refine r_iand (pc := 29) (v := iv z3) dX12_together_29 hz3 ?_
          refine r_iconst (pc := 30) (v := iv 1) dX12_together_30 (by decide) ?_
          have B46 : ∀ hp46 : MH, Tw Γ hp46 → ∀  (v46_2 : Int), 0 ≤ v46_2 ∧ v46_2 ≤ 65535 ∧ v17_2 ≤ v46_2 ∧ Hb2 x1 v46_2 → Rn (gG D cI cJ cZ cT lo b L xs) mX12_together d 46 [(0, .ref y), (1, .int (iv x1)), (2, .int (iv v46_2)), (3, .int (iv v7_2)), (4, .int (iv v17_4))] [] hp46 n 0 0 (pI Γ n (fun r => 0 ≤ r ∧ r ≤ 65535 ∧ Hb2 x1 r)) := by
            intro hp46 ht46 v46_2 hf46
            obtain ⟨hf46_0, hf46_1, hf46_2, ha46_3⟩ := hf46
            refine r_iinc (pc := 46) (v := iv (v17_4 + 1)) (lv' := [(4, .int (iv (v17_4 + 1))), (0, .ref y), (1, .int (iv x1)), (2, .int (iv v46_2)), (3, .int (iv v7_2))]) dX12_together_46 rfl (iv_add _ _) (by decide) rfl ?_
            refine r_goto (pc := 49) (tgt := 17) dX12_together_49 (by decide) ?_
            refine Rn.pick (lv' := [(0, .ref y), (1, .int (iv x1)), (2, .int (iv v46_2)), (3, .int (iv v7_2)), (4, .int (iv (v17_4 + 1)))]) [1, 2, 3, 4, 0] rfl ?_
            exact ih17 (Int.toNat (16 - (v17_4 + 1))) (by omega) _ ht46 v46_2 (v17_4 + 1) ⟨by omega, by omega, by omega, by omega, by omega, by assumption⟩ (by omega)
          refine t_icmp_ne (pc := 31) (tgt := 46) dX12_together_31 (by decide) (by omega) (by omega) (fun c31 => ?_) (fun c31 => ?_)
          · refine Rn.pick (lv' := [(0, .ref y), (1, .int (iv x1)), (2, .int (iv v17_2)), (3, .int (iv v7_2)), (4, .int (iv v17_4))]) [0, 1, 2, 3, 4] rfl ?_
            exact B46 _ ht17 v17_2 ⟨by omega, by omega, by omega, by assumption⟩
          · refine r_iload_n (pc := 34) dX12_together_34 (i := 2) rfl rfl ?_
            refine r_aload_n (pc := 35) dX12_together_35 (i := 0) rfl rfl ?_
            refine t_getE (pc := 36) (.ref (y + 24)) ht17 hO fX12_81 dX12_together_36 rfl ?_
            refine r_iload (pc := 39) dX12_together_39 rfl ?_
            refine t_ialdR (pc := 41) (t0 := 0) ht17 hA_beside dX12_together_41 rfl (by decide) (by omega) (fun y4 by4 => ?_)
            refine r_iload_n (pc := 42) dX12_together_42 (i := 1) rfl rfl ?_
            obtain ⟨z5, hz5, bz5⟩ := and_2 y4 x1 (by omega) (by omega)
            refine r_iand (pc := 43) (v := iv z5) dX12_together_43 hz5 ?_
            obtain ⟨z6, hz6, bz6⟩ := or_2 16 v17_2 z5 (by omega) (by omega) (by decide)
            refine r_ior (pc := 44) (v := iv z6) dX12_together_44 hz6 ?_
            have hHz6 : Hb2 x1 z6 := Hb_or (p := v17_2) (by assumption) hz6 (by omega) (by omega) (by omega)
            refine r_istore_n (pc := 45) (lv' := [(2, .int (iv z6)), (0, .ref y), (1, .int (iv x1)), (3, .int (iv v7_2)), (4, .int (iv v17_4))]) dX12_together_45 (i := 2) rfl (by decide) rfl ?_
            refine Rn.pick (lv' := [(0, .ref y), (1, .int (iv x1)), (2, .int (iv z6)), (3, .int (iv v7_2)), (4, .int (iv v17_4))]) [1, 2, 0, 3, 4] rfl ?_
            exact B46 _ ht17 z6 ⟨by omega, by omega, by omega, by assumption⟩
      refine Rn.pick (lv' := [(0, .ref y), (1, .int (iv x1)), (2, .int (iv v7_2)), (3, .int (iv v7_2)), (4, .int (iv 0))]) [2, 3, 4, 1, 0] rfl ?_
      exact B17 (Int.toNat (16 - 0)) _ ht7 v7_2 0 ⟨by omega, by omega, by omega, by omega, by omega, by assumption⟩ (by omega)
  refine Rn.pick (lv' := [(0, .ref y), (1, .int (iv x1)), (2, .int (iv z1)), (3, .int (iv 0))]) [2, 3, 1, 0] rfl ?_
  exact B7 (Int.toNat (65536 - 0)) _ ht z1 0 ⟨by omega, by omega, by omega, by omega, by omega, by omega, by assumption⟩ (by omega)
set_option maxHeartbeats 4000000 in
set_option maxRecDepth 100000 in
theorem t_X12_weakCount {D : va_G} {cI cJ cZ cT : ClassId} {lo b L : Nat} {xs : Nat → Int32} {hp : MH} {n d : Nat} {Γ : TG} {y : Nat} {rf cnt nm : Int32} {x1 : Int} (hd0 : 1 ≤ d) (hO : rd Γ y (tO 11 (mdF y rf cnt nm))) (hA_beside : rd Γ (y + 24) (tI cI 16 (rg 0 65535))) (ht : Tw Γ hp) (hx1 : 0 ≤ x1 ∧ x1 ≤ 16) : Mt (gG D cI cJ cZ cT lo b L xs) mX12_weakCount d 0 0 [.ref y, .int (iv x1)] hp n (pR Γ n (-2147483648) 2147483647) := by
  refine Mt.of rfl (Nat.le_of_ble_eq_true rfl) ?_
  refine Rn.pick (lv' := [(0, .ref y), (1, .int (iv x1))]) [0, 1] rfl ?_
  refine r_iconst (pc := 0) (v := iv 1) dX12_weakCount_0 (by decide) ?_
  refine r_iload_n (pc := 1) dX12_weakCount_1 (i := 1) rfl rfl ?_
  obtain ⟨z1, hz1, bz1⟩ := shl_1 0 16 x1 (by omega) (by omega) (by decide)
  refine r_ishl (pc := 2) (v := iv z1) dX12_weakCount_2 hz1 ?_
  refine r_iconst (pc := 3) (v := iv 1) dX12_weakCount_3 (by decide) ?_
  refine r_isub (pc := 4) (v := iv (z1 - 1)) dX12_weakCount_4 (iv_sub _ _) ?_
  refine r_istore_n (pc := 5) (lv' := [(2, .int (iv (z1 - 1))), (0, .ref y), (1, .int (iv x1))]) dX12_weakCount_5 (i := 2) rfl (by decide) rfl ?_
  refine r_iconst (pc := 6) (v := iv 0) dX12_weakCount_6 (by decide) ?_
  refine r_istore_n (pc := 7) (lv' := [(3, .int (iv 0)), (2, .int (iv (z1 - 1))), (0, .ref y), (1, .int (iv x1))]) dX12_weakCount_7 (i := 3) rfl (by decide) rfl ?_
  have B8 : ∀ k : Nat, ∀ hp8 : MH, Tw Γ hp8 → ∀  (v8_2 : Int) (v8_3 : Int), 0 ≤ v8_2 ∧ v8_2 ≤ 65535 ∧ v8_2 ≤ z1 - 1 ∧ (-2147483648) ≤ v8_3 ∧ v8_3 ≤ 2147483647 → v8_2 ≤ (k : Int) → Rn (gG D cI cJ cZ cT lo b L xs) mX12_weakCount d 8 [(0, .ref y), (2, .int (iv v8_2)), (3, .int (iv v8_3))] [] hp8 n 0 0 (pR Γ n (-2147483648) 2147483647) := by
    refine lpS _ ?_
    intro k8 ih8 hp8 ht8 v8_2 v8_3 hf8 hm8
    refine r_iload_n (pc := 8) dX12_weakCount_8 (i := 2) rfl rfl ?_
    refine t_if_eq (pc := 9) (tgt := 28) dX12_weakCount_9 (by decide) (by omega) (fun c9 => ?_) (fun c9 => ?_)
    · refine r_iload_n (pc := 28) dX12_weakCount_28 (i := 3) rfl rfl ?_
      exact r_iret (pc := 29) dX12_weakCount_29 rfl ⟨rfl, ht8, _, rfl, by omega, by omega⟩
    · refine r_iload_n (pc := 12) dX12_weakCount_12 (i := 2) rfl rfl ?_
      refine r_aload_n (pc := 13) dX12_weakCount_13 (i := 0) rfl rfl ?_
      refine r_iload_n (pc := 14) dX12_weakCount_14 (i := 2) rfl rfl ?_
      refine t_callVI (pc := 15) (as := [.int (iv v8_2)]) (st := [.int (iv v8_2)]) ht8 hO kX12_237 rfl dX12_weakCount_15 (t_X12_together (d := d - 1) (x1 := v8_2) (by omega) hO hA_beside ht8 (by omega)) rfl (by omega) (Nat.le_of_ble_eq_true rfl) rfl (fun hp2 y4 ht3 by4 => ?_)
      obtain ⟨by41, by42, hy4H⟩ := by4
      refine r_iconst (pc := 18) (v := iv (-1)) dX12_weakCount_18 (by decide) ?_
      refine r_ixor (pc := 19) (v := iv (-y4 - 1)) dX12_weakCount_19 (iv_not _) ?_
      obtain ⟨z5, hz5, bz5⟩ := and_l v8_2 (-y4 - 1) (by omega) (by omega)
      refine r_iand (pc := 20) (v := iv z5) dX12_weakCount_20 hz5 ?_
      have hlz5 : z5 < v8_2 := Hb_less (by assumption) hz5 (by omega) (by omega) (by omega) (by omega)
      refine r_istore_n (pc := 21) (lv' := [(2, .int (iv z5)), (0, .ref y), (3, .int (iv v8_3))]) dX12_weakCount_21 (i := 2) rfl (by decide) rfl ?_
      obtain ⟨z6, hz6, bz6⟩ := any_i (iv v8_3 + iv 1)
      refine r_iinc (pc := 22) (v := iv z6) (lv' := [(3, .int (iv z6)), (2, .int (iv z5)), (0, .ref y)]) dX12_weakCount_22 rfl hz6 (by decide) rfl ?_
      refine r_goto (pc := 25) (tgt := 8) dX12_weakCount_25 (by decide) ?_
      refine Rn.pick (lv' := [(0, .ref y), (2, .int (iv z5)), (3, .int (iv z6))]) [2, 1, 0] rfl ?_
      exact ih8 (Int.toNat (z5)) (by omega) _ ht3 z5 z6 ⟨by omega, by omega, by omega, by omega, by omega⟩ (by omega)
  refine Rn.pick (lv' := [(0, .ref y), (2, .int (iv (z1 - 1))), (3, .int (iv 0))]) [2, 1, 0] rfl ?_
  exact B8 (Int.toNat ((z1 - 1))) _ ht (z1 - 1) 0 ⟨by omega, by omega, by omega, by omega, by omega⟩ (by omega)
set_option maxHeartbeats 4000000 in
set_option maxRecDepth 100000 in
theorem t_X12_weakLabels {D : va_G} {cI cJ cZ cT : ClassId} {lo b L : Nat} {xs : Nat → Int32} {hp : MH} {n d : Nat} {Γ : TG} {y : Nat} {rf cnt nm : Int32} {x1 : Int} (hd0 : 1 ≤ d) (hO : rd Γ y (tO 11 (mdF y rf cnt nm))) (hA_beside : rd Γ (y + 24) (tI cI 16 (rg 0 65535))) (hA_label : Γ (y + 31) = some (tI cI 16 (rg 0 65535))) (ht : Tw Γ hp) (hx1 : 0 ≤ x1 ∧ x1 ≤ 16) : Mt (gG D cI cJ cZ cT lo b L xs) mX12_weakLabels d 0 0 [.ref y, .int (iv x1)] hp n (pV Γ n) := by
  refine Mt.of rfl (Nat.le_of_ble_eq_true rfl) ?_
  refine Rn.pick (lv' := [(0, .ref y), (1, .int (iv x1))]) [0, 1] rfl ?_
  refine r_iconst (pc := 0) (v := iv 1) dX12_weakLabels_0 (by decide) ?_
  refine r_iload_n (pc := 1) dX12_weakLabels_1 (i := 1) rfl rfl ?_
  obtain ⟨z1, hz1, bz1⟩ := shl_1 0 16 x1 (by omega) (by omega) (by decide)
  refine r_ishl (pc := 2) (v := iv z1) dX12_weakLabels_2 hz1 ?_
  refine r_iconst (pc := 3) (v := iv 1) dX12_weakLabels_3 (by decide) ?_
  refine r_isub (pc := 4) (v := iv (z1 - 1)) dX12_weakLabels_4 (iv_sub _ _) ?_
  refine r_istore_n (pc := 5) (lv' := [(2, .int (iv (z1 - 1))), (0, .ref y), (1, .int (iv x1))]) dX12_weakLabels_5 (i := 2) rfl (by decide) rfl ?_
  have B6 : ∀ k : Nat, ∀ hp6 : MH, Tw Γ hp6 → ∀  (v6_2 : Int), 0 ≤ v6_2 ∧ v6_2 ≤ 65535 ∧ v6_2 ≤ z1 - 1 → v6_2 ≤ (k : Int) → Rn (gG D cI cJ cZ cT lo b L xs) mX12_weakLabels d 6 [(0, .ref y), (1, .int (iv x1)), (2, .int (iv v6_2))] [] hp6 n 0 0 (pV Γ n) := by
    refine lpS _ ?_
    intro k6 ih6 hp6 ht6 v6_2 hf6 hm6
    refine r_iload_n (pc := 6) dX12_weakLabels_6 (i := 2) rfl rfl ?_
    refine t_if_eq (pc := 7) (tgt := 68) dX12_weakLabels_7 (by decide) (by omega) (fun c7 => ?_) (fun c7 => ?_)
    · exact r_vret (pc := 68) dX12_weakLabels_68 rfl ⟨rfl, ht6, rfl⟩
    · refine r_aload_n (pc := 10) dX12_weakLabels_10 (i := 0) rfl rfl ?_
      refine r_iload_n (pc := 11) dX12_weakLabels_11 (i := 2) rfl rfl ?_
      refine t_callVI (pc := 12) (as := [.int (iv v6_2)]) (st := []) ht6 hO kX12_237 rfl dX12_weakLabels_12 (t_X12_together (d := d - 1) (x1 := v6_2) (by omega) hO hA_beside ht6 (by omega)) rfl (by omega) (Nat.le_of_ble_eq_true rfl) rfl (fun hp2 y4 ht3 by4 => ?_)
      obtain ⟨by41, by42, hy4H⟩ := by4
      refine r_istore_n (pc := 15) (lv' := [(3, .int (iv y4)), (0, .ref y), (1, .int (iv x1)), (2, .int (iv v6_2))]) dX12_weakLabels_15 (i := 3) rfl (by decide) rfl ?_
      refine r_iconst (pc := 16) (v := iv 0) dX12_weakLabels_16 (by decide) ?_
      refine r_istore (pc := 17) (lv' := [(4, .int (iv 0)), (3, .int (iv y4)), (0, .ref y), (1, .int (iv x1)), (2, .int (iv v6_2))]) dX12_weakLabels_17 (by decide) rfl ?_
      have B19 : ∀ k : Nat, ∀ hp19 : MH, Tw Γ hp19 → ∀  (v19_4 : Int), 0 ≤ v19_4 ∧ v19_4 ≤ 16 ∧ Hb2 v6_2 y4 → 16 - v19_4 ≤ (k : Int) → Rn (gG D cI cJ cZ cT lo b L xs) mX12_weakLabels d 19 [(0, .ref y), (1, .int (iv x1)), (2, .int (iv v6_2)), (3, .int (iv y4)), (4, .int (iv v19_4))] [] hp19 n 0 0 (pV Γ n) := by
        refine lpS _ ?_
        intro k19 ih19 hp19 ht19 v19_4 hf19 hm19
        obtain ⟨hf19_0, hf19_1, ha19_2⟩ := hf19
        refine r_iload (pc := 19) dX12_weakLabels_19 rfl ?_
        refine r_iload_n (pc := 21) dX12_weakLabels_21 (i := 1) rfl rfl ?_
        refine t_icmp_ge (pc := 22) (tgt := 59) dX12_weakLabels_22 (by decide) (by omega) (by omega) (fun c22 => ?_) (fun c22 => ?_)
        · refine r_iload_n (pc := 59) dX12_weakLabels_59 (i := 2) rfl rfl ?_
          refine r_iload_n (pc := 60) dX12_weakLabels_60 (i := 3) rfl rfl ?_
          refine r_iconst (pc := 61) (v := iv (-1)) dX12_weakLabels_61 (by decide) ?_
          refine r_ixor (pc := 62) (v := iv (-y4 - 1)) dX12_weakLabels_62 (iv_not _) ?_
          obtain ⟨z5, hz5, bz5⟩ := and_l v6_2 (-y4 - 1) (by omega) (by omega)
          refine r_iand (pc := 63) (v := iv z5) dX12_weakLabels_63 hz5 ?_
          have hlz5 : z5 < v6_2 := Hb_less (by assumption) hz5 (by omega) (by omega) (by omega) (by omega)
          refine r_istore_n (pc := 64) (lv' := [(2, .int (iv z5)), (0, .ref y), (1, .int (iv x1)), (3, .int (iv y4)), (4, .int (iv v19_4))]) dX12_weakLabels_64 (i := 2) rfl (by decide) rfl ?_
          refine r_goto (pc := 65) (tgt := 6) dX12_weakLabels_65 (by decide) ?_
          refine Rn.pick (lv' := [(0, .ref y), (1, .int (iv x1)), (2, .int (iv z5))]) [1, 2, 0] rfl ?_
          exact ih6 (Int.toNat (z5)) (by omega) _ ht19 z5 ⟨by omega, by omega, by omega⟩ (by omega)
        · refine r_aload_n (pc := 25) dX12_weakLabels_25 (i := 0) rfl rfl ?_
          refine t_getE (pc := 26) (.ref (y + 31)) ht19 hO fX12_103 dX12_weakLabels_26 rfl ?_
          refine r_iload (pc := 29) dX12_weakLabels_29 rfl ?_
          refine r_iload_n (pc := 31) dX12_weakLabels_31 (i := 3) rfl rfl ?_
          refine r_iload (pc := 32) dX12_weakLabels_32 rfl ?_
          obtain ⟨z6, hz6, bz6⟩ := shr_x y4 v19_4 (by omega) (by omega)
          refine r_ishr (pc := 34) (v := iv z6) dX12_weakLabels_34 hz6 ?_
          refine r_iconst (pc := 35) (v := iv 1) dX12_weakLabels_35 (by decide) ?_
          obtain ⟨z7, hz7, bz7⟩ := and_2 z6 1 (by omega) (by omega)
          refine r_iand (pc := 36) (v := iv z7) dX12_weakLabels_36 hz7 ?_
          refine r_iconst (pc := 37) (v := iv 1) dX12_weakLabels_37 (by decide) ?_
          have B52 : ∀ hp52 : MH, Tw Γ hp52 → ∀  (u52_2 : Int), 0 ≤ u52_2 ∧ u52_2 ≤ 65535 ∧ Hb2 v6_2 y4 → Rn (gG D cI cJ cZ cT lo b L xs) mX12_weakLabels d 52 [(0, .ref y), (1, .int (iv x1)), (2, .int (iv v6_2)), (3, .int (iv y4)), (4, .int (iv v19_4))] [.int (iv u52_2), .int (iv v19_4), .ref (y + 31)] hp52 n 0 0 (pV Γ n) := by
            intro hp52 ht52 u52_2 hf52
            obtain ⟨hf52_0, hf52_1, ha52_2⟩ := hf52
            refine t_iastR (pc := 52) (t0 := 0) ht52 hA_label dX12_weakLabels_52 rfl (by decide) (by decide) (by omega) (by omega) (fun hp8 ht9 => ?_)
            refine r_iinc (pc := 53) (v := iv (v19_4 + 1)) (lv' := [(4, .int (iv (v19_4 + 1))), (0, .ref y), (1, .int (iv x1)), (2, .int (iv v6_2)), (3, .int (iv y4))]) dX12_weakLabels_53 rfl (iv_add _ _) (by decide) rfl ?_
            refine r_goto (pc := 56) (tgt := 19) dX12_weakLabels_56 (by decide) ?_
            refine Rn.pick (lv' := [(0, .ref y), (1, .int (iv x1)), (2, .int (iv v6_2)), (3, .int (iv y4)), (4, .int (iv (v19_4 + 1)))]) [1, 2, 3, 4, 0] rfl ?_
            exact ih19 (Int.toNat (16 - (v19_4 + 1))) (by omega) _ ht9 (v19_4 + 1) ⟨by omega, by omega, by assumption⟩ (by omega)
          refine t_icmp_ne (pc := 38) (tgt := 45) dX12_weakLabels_38 (by decide) (by omega) (by omega) (fun c38 => ?_) (fun c38 => ?_)
          · refine r_aload_n (pc := 45) dX12_weakLabels_45 (i := 0) rfl rfl ?_
            refine t_getE (pc := 46) (.ref (y + 31)) ht19 hO fX12_103 dX12_weakLabels_46 rfl ?_
            refine r_iload (pc := 49) dX12_weakLabels_49 rfl ?_
            refine t_ialdR (pc := 51) (t0 := 0) ht19 (rd_of hA_label) dX12_weakLabels_51 rfl (by decide) (by omega) (fun y10 by10 => ?_)
            refine Rn.pick (lv' := [(0, .ref y), (1, .int (iv x1)), (2, .int (iv v6_2)), (3, .int (iv y4)), (4, .int (iv v19_4))]) [0, 1, 2, 3, 4] rfl ?_
            exact B52 _ ht19 y10 ⟨by omega, by omega, by assumption⟩
          · refine r_iload_n (pc := 41) dX12_weakLabels_41 (i := 3) rfl rfl ?_
            refine r_goto (pc := 42) (tgt := 52) dX12_weakLabels_42 (by decide) ?_
            refine Rn.pick (lv' := [(0, .ref y), (1, .int (iv x1)), (2, .int (iv v6_2)), (3, .int (iv y4)), (4, .int (iv v19_4))]) [0, 1, 2, 3, 4] rfl ?_
            exact B52 _ ht19 y4 ⟨by omega, by omega, by assumption⟩
      refine Rn.pick (lv' := [(0, .ref y), (1, .int (iv x1)), (2, .int (iv v6_2)), (3, .int (iv y4)), (4, .int (iv 0))]) [2, 3, 4, 1, 0] rfl ?_
      exact B19 (Int.toNat (16 - 0)) _ ht3 0 ⟨by omega, by omega, by assumption⟩ (by omega)
  refine Rn.pick (lv' := [(0, .ref y), (1, .int (iv x1)), (2, .int (iv (z1 - 1)))]) [1, 2, 0] rfl ?_
  exact B6 (Int.toNat ((z1 - 1))) _ ht (z1 - 1) ⟨by omega, by omega, by omega⟩ (by omega)
set_option maxHeartbeats 4000000 in
set_option maxRecDepth 100000 in
theorem t_X12_bridgesOf {D : va_G} {cI cJ cZ cT : ClassId} {lo b L : Nat} {xs : Nat → Int32} {hp : MH} {n d : Nat} {Γ : TG} {y : Nat} {rf cnt nm : Int32} {x1 : Int} (hd0 : 2 ≤ d) (hO : rd Γ y (tO 11 (mdF y rf cnt nm))) (hA_sizes : rd Γ (y + 2) (tI cI 121 (rg 0 16))) (hA_many : rd Γ (y + 4) (tI cI 121 (rg 0 60))) (hA_from : rd Γ (y + 5) (tI cI 7260 (rg 0 15))) (hA_to : rd Γ (y + 6) (tI cI 7260 (rg 0 15))) (hA_beside : Γ (y + 24) = some (tI cI 16 (rg 0 65535))) (hA_bridge : Γ (y + 32) = some (tI cZ 60 (rg 0 1))) (ht : Tw Γ hp) (hx1 : 0 ≤ x1 ∧ x1 ≤ 120) : Mt (gG D cI cJ cZ cT lo b L xs) mX12_bridgesOf d 0 0 [.ref y, .int (iv x1)] hp n (pR Γ n 0 60) := by
  refine Mt.of rfl (Nat.le_of_ble_eq_true rfl) ?_
  refine Rn.pick (lv' := [(0, .ref y), (1, .int (iv x1))]) [0, 1] rfl ?_
  refine r_aload_n (pc := 0) dX12_bridgesOf_0 (i := 0) rfl rfl ?_
  refine t_getE (pc := 1) (.ref (y + 2)) ht hO fX12_13 dX12_bridgesOf_1 rfl ?_
  refine r_iload_n (pc := 4) dX12_bridgesOf_4 (i := 1) rfl rfl ?_
  refine t_ialdR (pc := 5) (t0 := 0) ht hA_sizes dX12_bridgesOf_5 rfl (by decide) (by omega) (fun y1 by1 => ?_)
  refine r_istore_n (pc := 6) (lv' := [(2, .int (iv y1)), (0, .ref y), (1, .int (iv x1))]) dX12_bridgesOf_6 (i := 2) rfl (by decide) rfl ?_
  refine r_aload_n (pc := 7) dX12_bridgesOf_7 (i := 0) rfl rfl ?_
  refine r_iload_n (pc := 8) dX12_bridgesOf_8 (i := 1) rfl rfl ?_
  refine r_iconst (pc := 9) (v := iv (-1)) dX12_bridgesOf_9 (by decide) ?_
  refine t_callVV (pc := 10) (as := [.int (iv x1), .int (iv (-1))]) (st := []) ht hO kX12_234 rfl dX12_bridgesOf_10 (t_X12_joinsOf (d := d - 1) (x1 := x1) (x2 := (-1)) (by omega) hO hA_many hA_from hA_to hA_beside ht (by omega) (by omega)) rfl (by omega) (Nat.le_of_ble_eq_true rfl) rfl (fun hp2 ht3 => ?_)
  refine r_aload_n (pc := 13) dX12_bridgesOf_13 (i := 0) rfl rfl ?_
  refine r_iload_n (pc := 14) dX12_bridgesOf_14 (i := 2) rfl rfl ?_
  refine t_callVR (pc := 15) (as := [.int (iv y1)]) (st := []) ht3 hO kX12_304 rfl dX12_bridgesOf_15 (t_X12_weakCount (d := d - 1) (x1 := y1) (by omega) hO (rd_of hA_beside) ht3 (by omega)) rfl (by omega) (Nat.le_of_ble_eq_true rfl) rfl (fun hp5 y7 ht6 by7 => ?_)
  refine r_istore_n (pc := 18) (lv' := [(3, .int (iv y7)), (2, .int (iv y1)), (0, .ref y), (1, .int (iv x1))]) dX12_bridgesOf_18 (i := 3) rfl (by decide) rfl ?_
  refine r_iconst (pc := 19) (v := iv 0) dX12_bridgesOf_19 (by decide) ?_
  refine r_istore (pc := 20) (lv' := [(4, .int (iv 0)), (3, .int (iv y7)), (2, .int (iv y1)), (0, .ref y), (1, .int (iv x1))]) dX12_bridgesOf_20 (by decide) rfl ?_
  refine r_iconst (pc := 22) (v := iv 0) dX12_bridgesOf_22 (by decide) ?_
  refine r_istore (pc := 23) (lv' := [(5, .int (iv 0)), (4, .int (iv 0)), (3, .int (iv y7)), (2, .int (iv y1)), (0, .ref y), (1, .int (iv x1))]) dX12_bridgesOf_23 (by decide) rfl ?_
  have B25 : ∀ k : Nat, ∀ hp25 : MH, Tw Γ hp25 → ∀  (v25_4 : Int) (v25_5 : Int), 0 ≤ v25_4 ∧ v25_4 ≤ 60 ∧ 0 ≤ v25_5 ∧ v25_5 ≤ 60 ∧ v25_4 ≤ v25_5 → 60 - v25_5 ≤ (k : Int) → Rn (gG D cI cJ cZ cT lo b L xs) mX12_bridgesOf d 25 [(0, .ref y), (1, .int (iv x1)), (2, .int (iv y1)), (3, .int (iv y7)), (4, .int (iv v25_4)), (5, .int (iv v25_5))] [] hp25 n 0 0 (pR Γ n 0 60) := by
    refine lpS _ ?_
    intro k25 ih25 hp25 ht25 v25_4 v25_5 hf25 hm25
    refine r_iload (pc := 25) dX12_bridgesOf_25 rfl ?_
    refine r_aload_n (pc := 27) dX12_bridgesOf_27 (i := 0) rfl rfl ?_
    refine t_getE (pc := 28) (.ref (y + 4)) ht25 hO fX12_20 dX12_bridgesOf_28 rfl ?_
    refine r_iload_n (pc := 31) dX12_bridgesOf_31 (i := 1) rfl rfl ?_
    refine t_ialdR (pc := 32) (t0 := 0) ht25 hA_many dX12_bridgesOf_32 rfl (by decide) (by omega) (fun y8 by8 => ?_)
    refine t_icmp_ge (pc := 33) (tgt := 90) dX12_bridgesOf_33 (by decide) (by omega) (by omega) (fun c33 => ?_) (fun c33 => ?_)
    · refine r_iload (pc := 90) dX12_bridgesOf_90 rfl ?_
      exact r_iret (pc := 92) dX12_bridgesOf_92 rfl ⟨rfl, ht25, _, rfl, by omega, by omega⟩
    · refine r_aload_n (pc := 36) dX12_bridgesOf_36 (i := 0) rfl rfl ?_
      refine r_iload_n (pc := 37) dX12_bridgesOf_37 (i := 1) rfl rfl ?_
      refine r_iload (pc := 38) dX12_bridgesOf_38 rfl ?_
      refine t_callVV (pc := 40) (as := [.int (iv x1), .int (iv v25_5)]) (st := []) ht25 hO kX12_234 rfl dX12_bridgesOf_40 (t_X12_joinsOf (d := d - 1) (x1 := x1) (x2 := v25_5) (by omega) hO hA_many hA_from hA_to hA_beside ht25 (by omega) (by omega)) rfl (by omega) (Nat.le_of_ble_eq_true rfl) rfl (fun hp9 ht10 => ?_)
      refine r_aload_n (pc := 43) dX12_bridgesOf_43 (i := 0) rfl rfl ?_
      refine t_getE (pc := 44) (.ref (y + 32)) ht10 hO fX12_106 dX12_bridgesOf_44 rfl ?_
      refine r_iload (pc := 47) dX12_bridgesOf_47 rfl ?_
      refine r_aload_n (pc := 49) dX12_bridgesOf_49 (i := 0) rfl rfl ?_
      refine r_iload_n (pc := 50) dX12_bridgesOf_50 (i := 2) rfl rfl ?_
      refine t_callVR (pc := 51) (as := [.int (iv y1)]) (st := [.int (iv v25_5), .ref (y + 32)]) ht10 hO kX12_304 rfl dX12_bridgesOf_51 (t_X12_weakCount (d := d - 1) (x1 := y1) (by omega) hO (rd_of hA_beside) ht10 (by omega)) rfl (by omega) (Nat.le_of_ble_eq_true rfl) rfl (fun hp12 y14 ht13 by14 => ?_)
      refine r_iload_n (pc := 54) dX12_bridgesOf_54 (i := 3) rfl rfl ?_
      have B63 : ∀ hp63 : MH, Tw Γ hp63 → ∀  (u63_2 : Int), 0 ≤ u63_2 ∧ u63_2 ≤ 1 → Rn (gG D cI cJ cZ cT lo b L xs) mX12_bridgesOf d 63 [(0, .ref y), (1, .int (iv x1)), (2, .int (iv y1)), (3, .int (iv y7)), (4, .int (iv v25_4)), (5, .int (iv v25_5))] [.int (iv u63_2), .int (iv v25_5), .ref (y + 32)] hp63 n 0 0 (pR Γ n 0 60) := by
        intro hp63 ht63 u63_2 hf63
        refine t_zastR (pc := 63) (t0 := 2) ht63 hA_bridge dX12_bridgesOf_63 rfl (by decide) (by omega) (by omega) (fun hp15 ht16 => ?_)
        refine r_iload (pc := 64) dX12_bridgesOf_64 rfl ?_
        refine r_aload_n (pc := 66) dX12_bridgesOf_66 (i := 0) rfl rfl ?_
        refine t_getE (pc := 67) (.ref (y + 32)) ht16 hO fX12_106 dX12_bridgesOf_67 rfl ?_
        refine r_iload (pc := 70) dX12_bridgesOf_70 rfl ?_
        refine t_zaldR (pc := 72) (t0 := 2) ht16 (rd_of hA_bridge) dX12_bridgesOf_72 rfl (by decide) (by omega) (fun y17 by17 => ?_)
        have B81 : ∀ hp81 : MH, Tw Γ hp81 → ∀  (u81_1 : Int), 0 ≤ u81_1 ∧ u81_1 ≤ 1 → Rn (gG D cI cJ cZ cT lo b L xs) mX12_bridgesOf d 81 [(0, .ref y), (1, .int (iv x1)), (2, .int (iv y1)), (3, .int (iv y7)), (5, .int (iv v25_5))] [.int (iv u81_1), .int (iv v25_4)] hp81 n 0 0 (pR Γ n 0 60) := by
          intro hp81 ht81 u81_1 hf81
          refine r_iadd (pc := 81) (v := iv (v25_4 + u81_1)) dX12_bridgesOf_81 (iv_add _ _) ?_
          refine r_istore (pc := 82) (lv' := [(4, .int (iv (v25_4 + u81_1))), (0, .ref y), (1, .int (iv x1)), (2, .int (iv y1)), (3, .int (iv y7)), (5, .int (iv v25_5))]) dX12_bridgesOf_82 (by decide) rfl ?_
          refine r_iinc (pc := 84) (v := iv (v25_5 + 1)) (lv' := [(5, .int (iv (v25_5 + 1))), (4, .int (iv (v25_4 + u81_1))), (0, .ref y), (1, .int (iv x1)), (2, .int (iv y1)), (3, .int (iv y7))]) dX12_bridgesOf_84 rfl (iv_add _ _) (by decide) rfl ?_
          refine r_goto (pc := 87) (tgt := 25) dX12_bridgesOf_87 (by decide) ?_
          refine Rn.pick (lv' := [(0, .ref y), (1, .int (iv x1)), (2, .int (iv y1)), (3, .int (iv y7)), (4, .int (iv (v25_4 + u81_1))), (5, .int (iv (v25_5 + 1)))]) [2, 3, 4, 5, 1, 0] rfl ?_
          exact ih25 (Int.toNat (60 - (v25_5 + 1))) (by omega) _ ht81 (v25_4 + u81_1) (v25_5 + 1) ⟨by omega, by omega, by omega, by omega, by omega⟩ (by omega)
        refine t_if_eq (pc := 73) (tgt := 80) dX12_bridgesOf_73 (by decide) (by omega) (fun c73 => ?_) (fun c73 => ?_)
        · refine r_iconst (pc := 80) (v := iv 0) dX12_bridgesOf_80 (by decide) ?_
          refine Rn.pick (lv' := [(0, .ref y), (1, .int (iv x1)), (2, .int (iv y1)), (3, .int (iv y7)), (5, .int (iv v25_5))]) [0, 1, 2, 3, 5] rfl ?_
          exact B81 _ ht16 0 ⟨by omega, by omega⟩
        · refine r_iconst (pc := 76) (v := iv 1) dX12_bridgesOf_76 (by decide) ?_
          refine r_goto (pc := 77) (tgt := 81) dX12_bridgesOf_77 (by decide) ?_
          refine Rn.pick (lv' := [(0, .ref y), (1, .int (iv x1)), (2, .int (iv y1)), (3, .int (iv y7)), (5, .int (iv v25_5))]) [0, 1, 2, 3, 5] rfl ?_
          exact B81 _ ht16 1 ⟨by omega, by omega⟩
      refine t_icmp_le (pc := 55) (tgt := 62) dX12_bridgesOf_55 (by decide) (by omega) (by omega) (fun c55 => ?_) (fun c55 => ?_)
      · refine r_iconst (pc := 62) (v := iv 0) dX12_bridgesOf_62 (by decide) ?_
        refine Rn.pick (lv' := [(0, .ref y), (1, .int (iv x1)), (2, .int (iv y1)), (3, .int (iv y7)), (4, .int (iv v25_4)), (5, .int (iv v25_5))]) [0, 1, 2, 3, 4, 5] rfl ?_
        exact B63 _ ht13 0 ⟨by omega, by omega⟩
      · refine r_iconst (pc := 58) (v := iv 1) dX12_bridgesOf_58 (by decide) ?_
        refine r_goto (pc := 59) (tgt := 63) dX12_bridgesOf_59 (by decide) ?_
        refine Rn.pick (lv' := [(0, .ref y), (1, .int (iv x1)), (2, .int (iv y1)), (3, .int (iv y7)), (4, .int (iv v25_4)), (5, .int (iv v25_5))]) [0, 1, 2, 3, 4, 5] rfl ?_
        exact B63 _ ht13 1 ⟨by omega, by omega⟩
  refine Rn.pick (lv' := [(0, .ref y), (1, .int (iv x1)), (2, .int (iv y1)), (3, .int (iv y7)), (4, .int (iv 0)), (5, .int (iv 0))]) [4, 5, 3, 2, 1, 0] rfl ?_
  exact B25 (Int.toNat (60 - 0)) _ ht6 0 0 ⟨by omega, by omega, by omega, by omega, by omega⟩ (by omega)
set_option maxHeartbeats 4000000 in
set_option maxRecDepth 100000 in
theorem t_X12_blocks {D : va_G} {cI cJ cZ cT : ClassId} {lo b L : Nat} {xs : Nat → Int32} {hp : MH} {n d : Nat} {Γ : TG} {y : Nat} {rf cnt nm : Int32} {x1 : Int} (hd0 : 2 ≤ d) (hO : rd Γ y (tO 11 (mdF y rf cnt nm))) (hA_sizes : rd Γ (y + 2) (tI cI 121 (rg 0 16))) (hA_many : rd Γ (y + 4) (tI cI 121 (rg 0 60))) (hA_from : rd Γ (y + 5) (tI cI 7260 (rg 0 15))) (hA_to : rd Γ (y + 6) (tI cI 7260 (rg 0 15))) (hA_column : Γ (y + 21) = some (tJ cJ 16 anyJ)) (hA_beside : Γ (y + 24) = some (tI cI 16 (rg 0 65535))) (hA_solid : Γ (y + 25) = some (tI cZ 65536 (rg 0 1))) (hA_below : Γ (y + 26) = some (tI cZ 65536 (rg 0 1))) (ht : Tw Γ hp) (hx1 : 0 ≤ x1 ∧ x1 ≤ 120) : Mt (gG D cI cJ cZ cT lo b L xs) mX12_blocks d 0 0 [.ref y, .int (iv x1)] hp n (pV Γ n) := by
  refine Mt.of rfl (Nat.le_of_ble_eq_true rfl) ?_
  refine Rn.pick (lv' := [(0, .ref y), (1, .int (iv x1))]) [0, 1] rfl ?_
  refine r_aload_n (pc := 0) dX12_blocks_0 (i := 0) rfl rfl ?_
  refine t_getE (pc := 1) (.ref (y + 2)) ht hO fX12_13 dX12_blocks_1 rfl ?_
  refine r_iload_n (pc := 4) dX12_blocks_4 (i := 1) rfl rfl ?_
  refine t_ialdR (pc := 5) (t0 := 0) ht hA_sizes dX12_blocks_5 rfl (by decide) (by omega) (fun y1 by1 => ?_)
  refine r_istore_n (pc := 6) (lv' := [(2, .int (iv y1)), (0, .ref y), (1, .int (iv x1))]) dX12_blocks_6 (i := 2) rfl (by decide) rfl ?_
  refine r_aload_n (pc := 7) dX12_blocks_7 (i := 0) rfl rfl ?_
  refine r_iload_n (pc := 8) dX12_blocks_8 (i := 1) rfl rfl ?_
  refine r_iconst (pc := 9) (v := iv (-1)) dX12_blocks_9 (by decide) ?_
  refine t_callVV (pc := 10) (as := [.int (iv x1), .int (iv (-1))]) (st := []) ht hO kX12_234 rfl dX12_blocks_10 (t_X12_joinsOf (d := d - 1) (x1 := x1) (x2 := (-1)) (by omega) hO hA_many hA_from hA_to hA_beside ht (by omega) (by omega)) rfl (by omega) (Nat.le_of_ble_eq_true rfl) rfl (fun hp2 ht3 => ?_)
  refine r_iconst (pc := 13) (v := iv 0) dX12_blocks_13 (by decide) ?_
  refine r_istore_n (pc := 14) (lv' := [(3, .int (iv 0)), (2, .int (iv y1)), (0, .ref y), (1, .int (iv x1))]) dX12_blocks_14 (i := 3) rfl (by decide) rfl ?_
  have B15 : ∀ k : Nat, ∀ hp15 : MH, Tw Γ hp15 → ∀  (v15_3 : Int), 0 ≤ v15_3 ∧ v15_3 ≤ 65536 → 65536 - v15_3 ≤ (k : Int) → Rn (gG D cI cJ cZ cT lo b L xs) mX12_blocks d 15 [(0, .ref y), (2, .int (iv y1)), (3, .int (iv v15_3))] [] hp15 n 0 0 (pV Γ n) := by
    refine lpS _ ?_
    intro k15 ih15 hp15 ht15 v15_3 hf15 hm15
    refine r_iload_n (pc := 15) dX12_blocks_15 (i := 3) rfl rfl ?_
    refine r_iconst (pc := 16) (v := iv 1) dX12_blocks_16 (by decide) ?_
    refine r_iload_n (pc := 17) dX12_blocks_17 (i := 2) rfl rfl ?_
    obtain ⟨z5, hz5, bz5⟩ := shl_1 0 16 y1 (by omega) (by omega) (by decide)
    refine r_ishl (pc := 18) (v := iv z5) dX12_blocks_18 hz5 ?_
    refine t_icmp_ge (pc := 19) (tgt := 114) dX12_blocks_19 (by decide) (by omega) (by omega) (fun c19 => ?_) (fun c19 => ?_)
    · refine r_iconst (pc := 114) (v := iv 1) dX12_blocks_114 (by decide) ?_
      refine r_iload_n (pc := 115) dX12_blocks_115 (i := 2) rfl rfl ?_
      obtain ⟨z6, hz6, bz6⟩ := shl_1 0 16 y1 (by omega) (by omega) (by decide)
      refine r_ishl (pc := 116) (v := iv z6) dX12_blocks_116 hz6 ?_
      refine r_iconst (pc := 117) (v := iv 1) dX12_blocks_117 (by decide) ?_
      refine r_isub (pc := 118) (v := iv (z6 - 1)) dX12_blocks_118 (iv_sub _ _) ?_
      refine r_istore_n (pc := 119) (lv' := [(3, .int (iv (z6 - 1))), (0, .ref y), (2, .int (iv y1))]) dX12_blocks_119 (i := 3) rfl (by decide) rfl ?_
      have B120 : ∀ k : Nat, ∀ hp120 : MH, Tw Γ hp120 → ∀  (v120_3 : Int), 0 ≤ v120_3 ∧ v120_3 ≤ 65535 ∧ v120_3 ≤ z6 - 1 → v120_3 - 0 ≤ (k : Int) → Rn (gG D cI cJ cZ cT lo b L xs) mX12_blocks d 120 [(0, .ref y), (2, .int (iv y1)), (3, .int (iv v120_3))] [] hp120 n 0 0 (pV Γ n) := by
        refine lpS _ ?_
        intro k120 ih120 hp120 ht120 v120_3 hf120 hm120
        refine r_iload_n (pc := 120) dX12_blocks_120 (i := 3) rfl rfl ?_
        refine t_if_le (pc := 121) (tgt := 248) dX12_blocks_121 (by decide) (by omega) (fun c121 => ?_) (fun c121 => ?_)
        · exact r_vret (pc := 248) dX12_blocks_248 rfl ⟨rfl, ht120, rfl⟩
        · refine r_iconst (pc := 124) (v := iv 0) dX12_blocks_124 (by decide) ?_
          refine r_istore (pc := 125) (lv' := [(4, .int (iv 0)), (0, .ref y), (2, .int (iv y1)), (3, .int (iv v120_3))]) dX12_blocks_125 (by decide) rfl ?_
          refine r_iconst (pc := 127) (v := iv 0) dX12_blocks_127 (by decide) ?_
          refine r_istore (pc := 128) (lv' := [(5, .int (iv 0)), (4, .int (iv 0)), (0, .ref y), (2, .int (iv y1)), (3, .int (iv v120_3))]) dX12_blocks_128 (by decide) rfl ?_
          have B130 : ∀ k : Nat, ∀ hp130 : MH, Tw Γ hp130 → ∀  (v130_4 : Int) (v130_5 : Int), 0 ≤ v130_4 ∧ v130_4 ≤ 1 ∧ 0 ≤ v130_5 ∧ v130_5 ≤ 16 → 16 - v130_5 ≤ (k : Int) → Rn (gG D cI cJ cZ cT lo b L xs) mX12_blocks d 130 [(0, .ref y), (2, .int (iv y1)), (3, .int (iv v120_3)), (4, .int (iv v130_4)), (5, .int (iv v130_5))] [] hp130 n 0 0 (pV Γ n) := by
            refine lpS _ ?_
            intro k130 ih130 hp130 ht130 v130_4 v130_5 hf130 hm130
            refine r_iload (pc := 130) dX12_blocks_130 rfl ?_
            refine r_iload_n (pc := 132) dX12_blocks_132 (i := 2) rfl rfl ?_
            refine t_icmp_ge (pc := 133) (tgt := 188) dX12_blocks_133 (by decide) (by omega) (by omega) (fun c133 => ?_) (fun c133 => ?_)
            · refine r_aload_n (pc := 188) dX12_blocks_188 (i := 0) rfl rfl ?_
              refine t_getE (pc := 189) (.ref (y + 26)) ht130 hO fX12_88 dX12_blocks_189 rfl ?_
              refine r_iload_n (pc := 192) dX12_blocks_192 (i := 3) rfl rfl ?_
              refine r_iload (pc := 193) dX12_blocks_193 rfl ?_
              refine t_zastR (pc := 195) (t0 := 2) ht130 hA_below dX12_blocks_195 rfl (by decide) (by omega) (by omega) (fun hp7 ht8 => ?_)
              refine r_iconst (pc := 196) (v := iv 0) dX12_blocks_196 (by decide) ?_
              refine r_istore (pc := 197) (lv' := [(5, .int (iv 0)), (0, .ref y), (2, .int (iv y1)), (3, .int (iv v120_3)), (4, .int (iv v130_4))]) dX12_blocks_197 (by decide) rfl ?_
              have B199 : ∀ k : Nat, ∀ hp199 : MH, Tw Γ hp199 → ∀  (v199_5 : Int), 0 ≤ v199_5 ∧ v199_5 ≤ 16 → 16 - v199_5 ≤ (k : Int) → Rn (gG D cI cJ cZ cT lo b L xs) mX12_blocks d 199 [(0, .ref y), (2, .int (iv y1)), (3, .int (iv v120_3)), (4, .int (iv v130_4)), (5, .int (iv v199_5))] [] hp199 n 0 0 (pV Γ n) := by
                refine lpS _ ?_
                intro k199 ih199 hp199 ht199 v199_5 hf199 hm199
                refine r_iload (pc := 199) dX12_blocks_199 rfl ?_
                refine r_iload_n (pc := 201) dX12_blocks_201 (i := 2) rfl rfl ?_
                have B242 : ∀ hp242 : MH, Tw Γ hp242 → True → Rn (gG D cI cJ cZ cT lo b L xs) mX12_blocks d 242 [(0, .ref y), (2, .int (iv y1)), (3, .int (iv v120_3))] [] hp242 n 0 0 (pV Γ n) := by
                  intro hp242 ht242 hf242
                  refine r_iinc (pc := 242) (v := iv (v120_3 - 1)) (lv' := [(3, .int (iv (v120_3 - 1))), (0, .ref y), (2, .int (iv y1))]) dX12_blocks_242 rfl ((iv_add _ _).trans (congrArg iv (show v120_3 + (-1) = v120_3 - 1 by omega))) (by decide) rfl ?_
                  refine r_goto (pc := 245) (tgt := 120) dX12_blocks_245 (by decide) ?_
                  refine Rn.pick (lv' := [(0, .ref y), (2, .int (iv y1)), (3, .int (iv (v120_3 - 1)))]) [1, 2, 0] rfl ?_
                  exact ih120 (Int.toNat ((v120_3 - 1) - 0)) (by omega) _ ht242 (v120_3 - 1) ⟨by omega, by omega, by omega⟩ (by omega)
                refine t_icmp_ge (pc := 202) (tgt := 242) dX12_blocks_202 (by decide) (by omega) (by omega) (fun c202 => ?_) (fun c202 => ?_)
                · refine Rn.pick (lv' := [(0, .ref y), (2, .int (iv y1)), (3, .int (iv v120_3))]) [0, 1, 2] rfl ?_
                  exact B242 _ ht199 trivial
                · refine r_aload_n (pc := 205) dX12_blocks_205 (i := 0) rfl rfl ?_
                  refine t_getE (pc := 206) (.ref (y + 25)) ht199 hO fX12_85 dX12_blocks_206 rfl ?_
                  refine r_iload_n (pc := 209) dX12_blocks_209 (i := 3) rfl rfl ?_
                  refine t_zaldR (pc := 210) (t0 := 2) ht199 (rd_of hA_solid) dX12_blocks_210 rfl (by decide) (by omega) (fun y9 by9 => ?_)
                  refine t_if_eq (pc := 211) (tgt := 242) dX12_blocks_211 (by decide) (by omega) (fun c211 => ?_) (fun c211 => ?_)
                  · refine Rn.pick (lv' := [(0, .ref y), (2, .int (iv y1)), (3, .int (iv v120_3))]) [0, 1, 2] rfl ?_
                    exact B242 _ ht199 trivial
                  · refine r_iload (pc := 214) dX12_blocks_214 rfl ?_
                    refine t_if_ne (pc := 216) (tgt := 242) dX12_blocks_216 (by decide) (by omega) (fun c216 => ?_) (fun c216 => ?_)
                    · refine Rn.pick (lv' := [(0, .ref y), (2, .int (iv y1)), (3, .int (iv v120_3))]) [0, 1, 2] rfl ?_
                      exact B242 _ ht199 trivial
                    · refine r_aload_n (pc := 219) dX12_blocks_219 (i := 0) rfl rfl ?_
                      refine t_getE (pc := 220) (.ref (y + 21)) ht199 hO fX12_72 dX12_blocks_220 rfl ?_
                      refine r_iload (pc := 223) dX12_blocks_223 rfl ?_
                      refine r_dup2_11 (pc := 225) dX12_blocks_225 rfl rfl ?_
                      refine t_lald (pc := 226) (t0 := 1) ht199 (rd_of hA_column) dX12_blocks_226 rfl (by decide) (by omega) (fun w10 _ => ?_)
                      refine r_iload_n (pc := 227) dX12_blocks_227 (i := 3) rfl rfl ?_
                      refine r_iload (pc := 228) dX12_blocks_228 rfl ?_
                      obtain ⟨z11, hz11, bz11⟩ := shr_x v120_3 v199_5 (by omega) (by omega)
                      refine r_ishr (pc := 230) (v := iv z11) dX12_blocks_230 hz11 ?_
                      refine r_iconst (pc := 231) (v := iv 1) dX12_blocks_231 (by decide) ?_
                      obtain ⟨z12, hz12, bz12⟩ := and_2 z11 1 (by omega) (by omega)
                      refine r_iand (pc := 232) (v := iv z12) dX12_blocks_232 hz12 ?_
                      refine r_i2l (pc := 233) (v := (iv z12).toInt64) dX12_blocks_233 rfl ?_
                      refine r_ladd (pc := 234) (v := w10 + ((iv z12).toInt64)) dX12_blocks_234 rfl ?_
                      refine t_last (pc := 235) (t0 := 1) ht199 hA_column dX12_blocks_235 rfl (by decide) (by omega) trivial (fun hp13 ht14 => ?_)
                      refine r_iinc (pc := 236) (v := iv (v199_5 + 1)) (lv' := [(5, .int (iv (v199_5 + 1))), (0, .ref y), (2, .int (iv y1)), (3, .int (iv v120_3)), (4, .int (iv v130_4))]) dX12_blocks_236 rfl (iv_add _ _) (by decide) rfl ?_
                      refine r_goto (pc := 239) (tgt := 199) dX12_blocks_239 (by decide) ?_
                      refine Rn.pick (lv' := [(0, .ref y), (2, .int (iv y1)), (3, .int (iv v120_3)), (4, .int (iv v130_4)), (5, .int (iv (v199_5 + 1)))]) [1, 2, 3, 4, 0] rfl ?_
                      exact ih199 (Int.toNat (16 - (v199_5 + 1))) (by omega) _ ht14 (v199_5 + 1) ⟨by omega, by omega⟩ (by omega)
              refine Rn.pick (lv' := [(0, .ref y), (2, .int (iv y1)), (3, .int (iv v120_3)), (4, .int (iv v130_4)), (5, .int (iv 0))]) [1, 2, 3, 4, 0] rfl ?_
              exact B199 (Int.toNat (16 - 0)) _ ht8 0 ⟨by omega, by omega⟩ (by omega)
            · refine r_iload_n (pc := 136) dX12_blocks_136 (i := 3) rfl rfl ?_
              refine r_iconst (pc := 137) (v := iv 1) dX12_blocks_137 (by decide) ?_
              refine r_iload (pc := 138) dX12_blocks_138 rfl ?_
              obtain ⟨z15, hz15, bz15⟩ := shl_1 0 15 v130_5 (by omega) (by omega) (by decide)
              refine r_ishl (pc := 140) (v := iv z15) dX12_blocks_140 hz15 ?_
              obtain ⟨z16, hz16, bz16⟩ := or_2 16 v120_3 z15 (by omega) (by omega) (by decide)
              refine r_ior (pc := 141) (v := iv z16) dX12_blocks_141 hz16 ?_
              refine r_istore (pc := 142) (lv' := [(6, .int (iv z16)), (0, .ref y), (2, .int (iv y1)), (3, .int (iv v120_3)), (4, .int (iv v130_4)), (5, .int (iv v130_5))]) dX12_blocks_142 (by decide) rfl ?_
              refine r_iload (pc := 144) dX12_blocks_144 rfl ?_
              have B180 : ∀ hp180 : MH, Tw Γ hp180 → ∀  (u180_0 : Int), 0 ≤ u180_0 ∧ u180_0 ≤ 1 → Rn (gG D cI cJ cZ cT lo b L xs) mX12_blocks d 180 [(0, .ref y), (2, .int (iv y1)), (3, .int (iv v120_3)), (5, .int (iv v130_5))] [.int (iv u180_0)] hp180 n 0 0 (pV Γ n) := by
                intro hp180 ht180 u180_0 hf180
                refine r_istore (pc := 180) (lv' := [(4, .int (iv u180_0)), (0, .ref y), (2, .int (iv y1)), (3, .int (iv v120_3)), (5, .int (iv v130_5))]) dX12_blocks_180 (by decide) rfl ?_
                refine r_iinc (pc := 182) (v := iv (v130_5 + 1)) (lv' := [(5, .int (iv (v130_5 + 1))), (4, .int (iv u180_0)), (0, .ref y), (2, .int (iv y1)), (3, .int (iv v120_3))]) dX12_blocks_182 rfl (iv_add _ _) (by decide) rfl ?_
                refine r_goto (pc := 185) (tgt := 130) dX12_blocks_185 (by decide) ?_
                refine Rn.pick (lv' := [(0, .ref y), (2, .int (iv y1)), (3, .int (iv v120_3)), (4, .int (iv u180_0)), (5, .int (iv (v130_5 + 1)))]) [2, 3, 4, 1, 0] rfl ?_
                exact ih130 (Int.toNat (16 - (v130_5 + 1))) (by omega) _ ht180 u180_0 (v130_5 + 1) ⟨by omega, by omega, by omega, by omega⟩ (by omega)
              have B175 : ∀ hp175 : MH, Tw Γ hp175 → True → Rn (gG D cI cJ cZ cT lo b L xs) mX12_blocks d 175 [(0, .ref y), (2, .int (iv y1)), (3, .int (iv v120_3)), (5, .int (iv v130_5))] [] hp175 n 0 0 (pV Γ n) := by
                intro hp175 ht175 hf175
                refine r_iconst (pc := 175) (v := iv 1) dX12_blocks_175 (by decide) ?_
                refine r_goto (pc := 176) (tgt := 180) dX12_blocks_176 (by decide) ?_
                refine Rn.pick (lv' := [(0, .ref y), (2, .int (iv y1)), (3, .int (iv v120_3)), (5, .int (iv v130_5))]) [0, 1, 2, 3] rfl ?_
                exact B180 _ ht175 1 ⟨by omega, by omega⟩
              refine t_if_ne (pc := 146) (tgt := 175) dX12_blocks_146 (by decide) (by omega) (fun c146 => ?_) (fun c146 => ?_)
              · refine Rn.pick (lv' := [(0, .ref y), (2, .int (iv y1)), (3, .int (iv v120_3)), (5, .int (iv v130_5))]) [1, 2, 3, 5] rfl ?_
                exact B175 _ ht130 trivial
              · refine r_iload (pc := 149) dX12_blocks_149 rfl ?_
                refine r_iload_n (pc := 151) dX12_blocks_151 (i := 3) rfl rfl ?_
                have B179 : ∀ hp179 : MH, Tw Γ hp179 → True → Rn (gG D cI cJ cZ cT lo b L xs) mX12_blocks d 179 [(0, .ref y), (2, .int (iv y1)), (3, .int (iv v120_3)), (5, .int (iv v130_5))] [] hp179 n 0 0 (pV Γ n) := by
                  intro hp179 ht179 hf179
                  refine r_iconst (pc := 179) (v := iv 0) dX12_blocks_179 (by decide) ?_
                  refine Rn.pick (lv' := [(0, .ref y), (2, .int (iv y1)), (3, .int (iv v120_3)), (5, .int (iv v130_5))]) [0, 1, 2, 3] rfl ?_
                  exact B180 _ ht179 0 ⟨by omega, by omega⟩
                refine t_icmp_eq (pc := 152) (tgt := 179) dX12_blocks_152 (by decide) (by omega) (by omega) (fun c152 => ?_) (fun c152 => ?_)
                · refine Rn.pick (lv' := [(0, .ref y), (2, .int (iv y1)), (3, .int (iv v120_3)), (5, .int (iv v130_5))]) [1, 2, 3, 5] rfl ?_
                  exact B179 _ ht130 trivial
                · refine r_aload_n (pc := 155) dX12_blocks_155 (i := 0) rfl rfl ?_
                  refine t_getE (pc := 156) (.ref (y + 25)) ht130 hO fX12_85 dX12_blocks_156 rfl ?_
                  refine r_iload (pc := 159) dX12_blocks_159 rfl ?_
                  refine t_zaldR (pc := 161) (t0 := 2) ht130 (rd_of hA_solid) dX12_blocks_161 rfl (by decide) (by omega) (fun y17 by17 => ?_)
                  refine t_if_ne (pc := 162) (tgt := 175) dX12_blocks_162 (by decide) (by omega) (fun c162 => ?_) (fun c162 => ?_)
                  · refine Rn.pick (lv' := [(0, .ref y), (2, .int (iv y1)), (3, .int (iv v120_3)), (5, .int (iv v130_5))]) [1, 2, 3, 5] rfl ?_
                    exact B175 _ ht130 trivial
                  · refine r_aload_n (pc := 165) dX12_blocks_165 (i := 0) rfl rfl ?_
                    refine t_getE (pc := 166) (.ref (y + 26)) ht130 hO fX12_88 dX12_blocks_166 rfl ?_
                    refine r_iload (pc := 169) dX12_blocks_169 rfl ?_
                    refine t_zaldR (pc := 171) (t0 := 2) ht130 (rd_of hA_below) dX12_blocks_171 rfl (by decide) (by omega) (fun y18 by18 => ?_)
                    refine t_if_eq (pc := 172) (tgt := 179) dX12_blocks_172 (by decide) (by omega) (fun c172 => ?_) (fun c172 => ?_)
                    · refine Rn.pick (lv' := [(0, .ref y), (2, .int (iv y1)), (3, .int (iv v120_3)), (5, .int (iv v130_5))]) [1, 2, 3, 5] rfl ?_
                      exact B179 _ ht130 trivial
                    · refine Rn.pick (lv' := [(0, .ref y), (2, .int (iv y1)), (3, .int (iv v120_3)), (5, .int (iv v130_5))]) [1, 2, 3, 5] rfl ?_
                      exact B175 _ ht130 trivial
          refine Rn.pick (lv' := [(0, .ref y), (2, .int (iv y1)), (3, .int (iv v120_3)), (4, .int (iv 0)), (5, .int (iv 0))]) [2, 3, 4, 1, 0] rfl ?_
          exact B130 (Int.toNat (16 - 0)) _ ht120 0 0 ⟨by omega, by omega, by omega, by omega⟩ (by omega)
      refine Rn.pick (lv' := [(0, .ref y), (2, .int (iv y1)), (3, .int (iv (z6 - 1)))]) [1, 2, 0] rfl ?_
      exact B120 (Int.toNat ((z6 - 1) - 0)) _ ht15 (z6 - 1) ⟨by omega, by omega, by omega⟩ (by omega)
    · refine r_iload_n (pc := 22) dX12_blocks_22 (i := 3) rfl rfl ?_
      refine t_callSR (pc := 23) (as := [.int (iv v15_3)]) (st := []) kX12_201 dX12_blocks_23 (t_X12_bits (d := d - 1) (x1 := v15_3) (by omega)  ht15 (by omega)) rfl (by omega) (Nat.le_of_ble_eq_true rfl) rfl (fun hp19 y21 ht20 by21 => ?_)
      refine r_iconst (pc := 26) (v := iv 1) dX12_blocks_26 (by decide) ?_
      have B44 : ∀ hp44 : MH, Tw Γ hp44 → ∀  (u44_0 : Int), 0 ≤ u44_0 ∧ u44_0 ≤ 1 → Rn (gG D cI cJ cZ cT lo b L xs) mX12_blocks d 44 [(0, .ref y), (2, .int (iv y1)), (3, .int (iv v15_3))] [.int (iv u44_0)] hp44 n 0 0 (pV Γ n) := by
        intro hp44 ht44 u44_0 hf44
        refine r_istore (pc := 44) (lv' := [(4, .int (iv u44_0)), (0, .ref y), (2, .int (iv y1)), (3, .int (iv v15_3))]) dX12_blocks_44 (by decide) rfl ?_
        refine r_iconst (pc := 46) (v := iv 0) dX12_blocks_46 (by decide) ?_
        refine r_istore (pc := 47) (lv' := [(5, .int (iv 0)), (4, .int (iv u44_0)), (0, .ref y), (2, .int (iv y1)), (3, .int (iv v15_3))]) dX12_blocks_47 (by decide) rfl ?_
        have B49 : ∀ k : Nat, ∀ hp49 : MH, Tw Γ hp49 → ∀  (v49_4 : Int) (v49_5 : Int), 0 ≤ v49_4 ∧ v49_4 ≤ 1 ∧ 0 ≤ v49_5 ∧ v49_5 ≤ 16 → 16 - v49_5 ≤ (k : Int) → Rn (gG D cI cJ cZ cT lo b L xs) mX12_blocks d 49 [(0, .ref y), (2, .int (iv y1)), (3, .int (iv v15_3)), (4, .int (iv v49_4)), (5, .int (iv v49_5))] [] hp49 n 0 0 (pV Γ n) := by
          refine lpS _ ?_
          intro k49 ih49 hp49 ht49 v49_4 v49_5 hf49 hm49
          refine r_iload (pc := 49) dX12_blocks_49 rfl ?_
          refine r_iload_n (pc := 51) dX12_blocks_51 (i := 2) rfl rfl ?_
          have B100 : ∀ hp100 : MH, Tw Γ hp100 → True → Rn (gG D cI cJ cZ cT lo b L xs) mX12_blocks d 100 [(0, .ref y), (2, .int (iv y1)), (3, .int (iv v15_3)), (4, .int (iv v49_4))] [] hp100 n 0 0 (pV Γ n) := by
            intro hp100 ht100 hf100
            refine r_aload_n (pc := 100) dX12_blocks_100 (i := 0) rfl rfl ?_
            refine t_getE (pc := 101) (.ref (y + 25)) ht100 hO fX12_85 dX12_blocks_101 rfl ?_
            refine r_iload_n (pc := 104) dX12_blocks_104 (i := 3) rfl rfl ?_
            refine r_iload (pc := 105) dX12_blocks_105 rfl ?_
            refine t_zastR (pc := 107) (t0 := 2) ht100 hA_solid dX12_blocks_107 rfl (by decide) (by omega) (by omega) (fun hp22 ht23 => ?_)
            refine r_iinc (pc := 108) (v := iv (v15_3 + 1)) (lv' := [(3, .int (iv (v15_3 + 1))), (0, .ref y), (2, .int (iv y1)), (4, .int (iv v49_4))]) dX12_blocks_108 rfl (iv_add _ _) (by decide) rfl ?_
            refine r_goto (pc := 111) (tgt := 15) dX12_blocks_111 (by decide) ?_
            refine Rn.pick (lv' := [(0, .ref y), (2, .int (iv y1)), (3, .int (iv (v15_3 + 1)))]) [1, 2, 0] rfl ?_
            exact ih15 (Int.toNat (65536 - (v15_3 + 1))) (by omega) _ ht23 (v15_3 + 1) ⟨by omega, by omega⟩ (by omega)
          refine t_icmp_ge (pc := 52) (tgt := 100) dX12_blocks_52 (by decide) (by omega) (by omega) (fun c52 => ?_) (fun c52 => ?_)
          · refine Rn.pick (lv' := [(0, .ref y), (2, .int (iv y1)), (3, .int (iv v15_3)), (4, .int (iv v49_4))]) [0, 1, 2, 3] rfl ?_
            exact B100 _ ht49 trivial
          · refine r_iload (pc := 55) dX12_blocks_55 rfl ?_
            refine t_if_eq (pc := 57) (tgt := 100) dX12_blocks_57 (by decide) (by omega) (fun c57 => ?_) (fun c57 => ?_)
            · refine Rn.pick (lv' := [(0, .ref y), (2, .int (iv y1)), (3, .int (iv v15_3)), (4, .int (iv v49_4))]) [0, 1, 2, 3] rfl ?_
              exact B100 _ ht49 trivial
            · refine r_iload_n (pc := 60) dX12_blocks_60 (i := 3) rfl rfl ?_
              refine r_iconst (pc := 61) (v := iv 1) dX12_blocks_61 (by decide) ?_
              refine r_iload (pc := 62) dX12_blocks_62 rfl ?_
              obtain ⟨z24, hz24, bz24⟩ := shl_1 0 15 v49_5 (by omega) (by omega) (by decide)
              refine r_ishl (pc := 64) (v := iv z24) dX12_blocks_64 hz24 ?_
              refine r_iconst (pc := 65) (v := iv (-1)) dX12_blocks_65 (by decide) ?_
              refine r_ixor (pc := 66) (v := iv (-z24 - 1)) dX12_blocks_66 (iv_not _) ?_
              obtain ⟨z25, hz25, bz25⟩ := and_l v15_3 (-z24 - 1) (by omega) (by omega)
              refine r_iand (pc := 67) (v := iv z25) dX12_blocks_67 hz25 ?_
              refine r_istore (pc := 68) (lv' := [(6, .int (iv z25)), (0, .ref y), (2, .int (iv y1)), (3, .int (iv v15_3)), (4, .int (iv v49_4)), (5, .int (iv v49_5))]) dX12_blocks_68 (by decide) rfl ?_
              refine r_iload (pc := 70) dX12_blocks_70 rfl ?_
              refine r_iload_n (pc := 72) dX12_blocks_72 (i := 3) rfl rfl ?_
              have B92 : ∀ hp92 : MH, Tw Γ hp92 → ∀  (u92_0 : Int), 0 ≤ u92_0 ∧ u92_0 ≤ 1 → Rn (gG D cI cJ cZ cT lo b L xs) mX12_blocks d 92 [(0, .ref y), (2, .int (iv y1)), (3, .int (iv v15_3)), (5, .int (iv v49_5))] [.int (iv u92_0)] hp92 n 0 0 (pV Γ n) := by
                intro hp92 ht92 u92_0 hf92
                refine r_istore (pc := 92) (lv' := [(4, .int (iv u92_0)), (0, .ref y), (2, .int (iv y1)), (3, .int (iv v15_3)), (5, .int (iv v49_5))]) dX12_blocks_92 (by decide) rfl ?_
                refine r_iinc (pc := 94) (v := iv (v49_5 + 1)) (lv' := [(5, .int (iv (v49_5 + 1))), (4, .int (iv u92_0)), (0, .ref y), (2, .int (iv y1)), (3, .int (iv v15_3))]) dX12_blocks_94 rfl (iv_add _ _) (by decide) rfl ?_
                refine r_goto (pc := 97) (tgt := 49) dX12_blocks_97 (by decide) ?_
                refine Rn.pick (lv' := [(0, .ref y), (2, .int (iv y1)), (3, .int (iv v15_3)), (4, .int (iv u92_0)), (5, .int (iv (v49_5 + 1)))]) [2, 3, 4, 1, 0] rfl ?_
                exact ih49 (Int.toNat (16 - (v49_5 + 1))) (by omega) _ ht92 u92_0 (v49_5 + 1) ⟨by omega, by omega, by omega, by omega⟩ (by omega)
              have B87 : ∀ hp87 : MH, Tw Γ hp87 → True → Rn (gG D cI cJ cZ cT lo b L xs) mX12_blocks d 87 [(0, .ref y), (2, .int (iv y1)), (3, .int (iv v15_3)), (5, .int (iv v49_5))] [] hp87 n 0 0 (pV Γ n) := by
                intro hp87 ht87 hf87
                refine r_iconst (pc := 87) (v := iv 1) dX12_blocks_87 (by decide) ?_
                refine r_goto (pc := 88) (tgt := 92) dX12_blocks_88 (by decide) ?_
                refine Rn.pick (lv' := [(0, .ref y), (2, .int (iv y1)), (3, .int (iv v15_3)), (5, .int (iv v49_5))]) [0, 1, 2, 3] rfl ?_
                exact B92 _ ht87 1 ⟨by omega, by omega⟩
              refine t_icmp_eq (pc := 73) (tgt := 87) dX12_blocks_73 (by decide) (by omega) (by omega) (fun c73 => ?_) (fun c73 => ?_)
              · refine Rn.pick (lv' := [(0, .ref y), (2, .int (iv y1)), (3, .int (iv v15_3)), (5, .int (iv v49_5))]) [1, 2, 3, 5] rfl ?_
                exact B87 _ ht49 trivial
              · refine r_aload_n (pc := 76) dX12_blocks_76 (i := 0) rfl rfl ?_
                refine r_iload (pc := 77) dX12_blocks_77 rfl ?_
                refine t_callVI (pc := 79) (as := [.int (iv z25)]) (st := []) ht49 hO kX12_237 rfl dX12_blocks_79 (t_X12_together (d := d - 1) (x1 := z25) (by omega) hO (rd_of hA_beside) ht49 (by omega)) rfl (by omega) (Nat.le_of_ble_eq_true rfl) rfl (fun hp26 y28 ht27 by28 => ?_)
                obtain ⟨by281, by282, hy28H⟩ := by28
                refine r_iload (pc := 82) dX12_blocks_82 rfl ?_
                refine t_icmp_ne (pc := 84) (tgt := 91) dX12_blocks_84 (by decide) (by omega) (by omega) (fun c84 => ?_) (fun c84 => ?_)
                · refine r_iconst (pc := 91) (v := iv 0) dX12_blocks_91 (by decide) ?_
                  refine Rn.pick (lv' := [(0, .ref y), (2, .int (iv y1)), (3, .int (iv v15_3)), (5, .int (iv v49_5))]) [1, 2, 3, 5] rfl ?_
                  exact B92 _ ht27 0 ⟨by omega, by omega⟩
                · refine Rn.pick (lv' := [(0, .ref y), (2, .int (iv y1)), (3, .int (iv v15_3)), (5, .int (iv v49_5))]) [1, 2, 3, 5] rfl ?_
                  exact B87 _ ht27 trivial
        refine Rn.pick (lv' := [(0, .ref y), (2, .int (iv y1)), (3, .int (iv v15_3)), (4, .int (iv u44_0)), (5, .int (iv 0))]) [2, 3, 4, 1, 0] rfl ?_
        exact B49 (Int.toNat (16 - 0)) _ ht44 u44_0 0 ⟨by omega, by omega, by omega, by omega⟩ (by omega)
      have B43 : ∀ hp43 : MH, Tw Γ hp43 → True → Rn (gG D cI cJ cZ cT lo b L xs) mX12_blocks d 43 [(0, .ref y), (2, .int (iv y1)), (3, .int (iv v15_3))] [] hp43 n 0 0 (pV Γ n) := by
        intro hp43 ht43 hf43
        refine r_iconst (pc := 43) (v := iv 0) dX12_blocks_43 (by decide) ?_
        refine Rn.pick (lv' := [(0, .ref y), (2, .int (iv y1)), (3, .int (iv v15_3))]) [0, 1, 2] rfl ?_
        exact B44 _ ht43 0 ⟨by omega, by omega⟩
      refine t_icmp_le (pc := 27) (tgt := 43) dX12_blocks_27 (by decide) (by omega) (by omega) (fun c27 => ?_) (fun c27 => ?_)
      · refine Rn.pick (lv' := [(0, .ref y), (2, .int (iv y1)), (3, .int (iv v15_3))]) [0, 1, 2] rfl ?_
        exact B43 _ ht20 trivial
      · refine r_aload_n (pc := 30) dX12_blocks_30 (i := 0) rfl rfl ?_
        refine r_iload_n (pc := 31) dX12_blocks_31 (i := 3) rfl rfl ?_
        refine t_callVI (pc := 32) (as := [.int (iv v15_3)]) (st := []) ht20 hO kX12_237 rfl dX12_blocks_32 (t_X12_together (d := d - 1) (x1 := v15_3) (by omega) hO (rd_of hA_beside) ht20 (by omega)) rfl (by omega) (Nat.le_of_ble_eq_true rfl) rfl (fun hp29 y31 ht30 by31 => ?_)
        obtain ⟨by311, by312, hy31H⟩ := by31
        refine r_iload_n (pc := 35) dX12_blocks_35 (i := 3) rfl rfl ?_
        refine t_icmp_ne (pc := 36) (tgt := 43) dX12_blocks_36 (by decide) (by omega) (by omega) (fun c36 => ?_) (fun c36 => ?_)
        · refine Rn.pick (lv' := [(0, .ref y), (2, .int (iv y1)), (3, .int (iv v15_3))]) [0, 1, 2] rfl ?_
          exact B43 _ ht30 trivial
        · refine r_iconst (pc := 39) (v := iv 1) dX12_blocks_39 (by decide) ?_
          refine r_goto (pc := 40) (tgt := 44) dX12_blocks_40 (by decide) ?_
          refine Rn.pick (lv' := [(0, .ref y), (2, .int (iv y1)), (3, .int (iv v15_3))]) [0, 1, 2] rfl ?_
          exact B44 _ ht30 1 ⟨by omega, by omega⟩
  refine Rn.pick (lv' := [(0, .ref y), (2, .int (iv y1)), (3, .int (iv 0))]) [2, 1, 0] rfl ?_
  exact B15 (Int.toNat (65536 - 0)) _ ht3 0 ⟨by omega, by omega⟩ (by omega)
set_option maxHeartbeats 4000000 in
set_option maxRecDepth 100000 in
theorem t_X12_side {D : va_G} {cI cJ cZ cT : ClassId} {lo b L : Nat} {xs : Nat → Int32} {hp : MH} {n d : Nat} {Γ : TG} {y : Nat} {rf cnt nm : Int32} {x1 x2 : Int} (hd0 : 1 ≤ d) (hO : rd Γ y (tO 11 (mdF y rf cnt nm))) (hA_sizes : rd Γ (y + 2) (tI cI 121 (rg 0 16))) (hA_many : rd Γ (y + 4) (tI cI 121 (rg 0 60))) (hA_from : rd Γ (y + 5) (tI cI 7260 (rg 0 15))) (hA_to : rd Γ (y + 6) (tI cI 7260 (rg 0 15))) (hA_beside : rd Γ (y + 24) (tI cI 16 (rg 0 65535))) (ht : Tw Γ hp) (hx1 : 0 ≤ x1 ∧ x1 ≤ 120) (hx2 : 0 ≤ x2 ∧ x2 ≤ 15) : Mt (gG D cI cJ cZ cT lo b L xs) mX12_side d 0 0 [.ref y, .int (iv x1), .int (iv x2)] hp n (pJ Γ n yes64) := by
  refine Mt.of rfl (Nat.le_of_ble_eq_true rfl) ?_
  refine Rn.pick (lv' := [(0, .ref y), (1, .int (iv x1)), (2, .int (iv x2))]) [0, 1, 2] rfl ?_
  refine r_aload_n (pc := 0) dX12_side_0 (i := 0) rfl rfl ?_
  refine t_getE (pc := 1) (.ref (y + 2)) ht hO fX12_13 dX12_side_1 rfl ?_
  refine r_iload_n (pc := 4) dX12_side_4 (i := 1) rfl rfl ?_
  refine t_ialdR (pc := 5) (t0 := 0) ht hA_sizes dX12_side_5 rfl (by decide) (by omega) (fun y1 by1 => ?_)
  refine r_istore_n (pc := 6) (lv' := [(3, .int (iv y1)), (0, .ref y), (1, .int (iv x1)), (2, .int (iv x2))]) dX12_side_6 (i := 3) rfl (by decide) rfl ?_
  refine r_iconst (pc := 7) (v := iv 0) dX12_side_7 (by decide) ?_
  refine r_istore (pc := 8) (lv' := [(4, .int (iv 0)), (3, .int (iv y1)), (0, .ref y), (1, .int (iv x1)), (2, .int (iv x2))]) dX12_side_8 (by decide) rfl ?_
  have B10 : ∀ k : Nat, ∀ hp10 : MH, Tw Γ hp10 → ∀  (v10_4 : Int), 0 ≤ v10_4 ∧ v10_4 ≤ 60 → 60 - v10_4 ≤ (k : Int) → Rn (gG D cI cJ cZ cT lo b L xs) mX12_side d 10 [(0, .ref y), (1, .int (iv x1)), (2, .int (iv x2)), (3, .int (iv y1)), (4, .int (iv v10_4))] [] hp10 n 0 0 (pJ Γ n yes64) := by
    refine lpS _ ?_
    intro k10 ih10 hp10 ht10 v10_4 hf10 hm10
    refine r_iload (pc := 10) dX12_side_10 rfl ?_
    refine r_aload_n (pc := 12) dX12_side_12 (i := 0) rfl rfl ?_
    refine t_getE (pc := 13) (.ref (y + 4)) ht10 hO fX12_20 dX12_side_13 rfl ?_
    refine r_iload_n (pc := 16) dX12_side_16 (i := 1) rfl rfl ?_
    refine t_ialdR (pc := 17) (t0 := 0) ht10 hA_many dX12_side_17 rfl (by decide) (by omega) (fun y2 by2 => ?_)
    refine t_icmp_ge (pc := 18) (tgt := 56) dX12_side_18 (by decide) (by omega) (by omega) (fun c18 => ?_) (fun c18 => ?_)
    · refine r_iconst (pc := 56) (v := iv 0) dX12_side_56 (by decide) ?_
      refine r_istore (pc := 57) (lv' := [(4, .int (iv 0)), (0, .ref y), (1, .int (iv x1)), (2, .int (iv x2)), (3, .int (iv y1))]) dX12_side_57 (by decide) rfl ?_
      refine r_iconst (pc := 59) (v := iv 1) dX12_side_59 (by decide) ?_
      refine r_iload_n (pc := 60) dX12_side_60 (i := 3) rfl rfl ?_
      obtain ⟨z3, hz3, bz3⟩ := shl_1 0 16 y1 (by omega) (by omega) (by decide)
      refine r_ishl (pc := 61) (v := iv z3) dX12_side_61 hz3 ?_
      refine r_iconst (pc := 62) (v := iv 1) dX12_side_62 (by decide) ?_
      refine r_isub (pc := 63) (v := iv (z3 - 1)) dX12_side_63 (iv_sub _ _) ?_
      refine r_istore (pc := 64) (lv' := [(5, .int (iv (z3 - 1))), (4, .int (iv 0)), (0, .ref y), (1, .int (iv x1)), (2, .int (iv x2)), (3, .int (iv y1))]) dX12_side_64 (by decide) rfl ?_
      have B66 : ∀ k : Nat, ∀ hp66 : MH, Tw Γ hp66 → ∀  (v66_4 : Int) (v66_5 : Int), 0 ≤ v66_4 ∧ v66_4 ≤ 65535 ∧ 0 ≤ v66_5 ∧ v66_5 ≤ 65535 ∧ v66_5 ≤ z3 - 1 → v66_5 ≤ (k : Int) → Rn (gG D cI cJ cZ cT lo b L xs) mX12_side d 66 [(0, .ref y), (2, .int (iv x2)), (3, .int (iv y1)), (4, .int (iv v66_4)), (5, .int (iv v66_5))] [] hp66 n 0 0 (pJ Γ n yes64) := by
        refine lpS _ ?_
        intro k66 ih66 hp66 ht66 v66_4 v66_5 hf66 hm66
        refine r_iload (pc := 66) dX12_side_66 rfl ?_
        refine t_if_eq (pc := 68) (tgt := 228) dX12_side_68 (by decide) (by omega) (fun c68 => ?_) (fun c68 => ?_)
        · refine r_iload (pc := 228) dX12_side_228 rfl ?_
          refine r_iload_n (pc := 230) dX12_side_230 (i := 2) rfl rfl ?_
          obtain ⟨z4, hz4, bz4⟩ := shr_x v66_4 x2 (by omega) (by omega)
          refine r_ishr (pc := 231) (v := iv z4) dX12_side_231 hz4 ?_
          refine r_iconst (pc := 232) (v := iv 1) dX12_side_232 (by decide) ?_
          obtain ⟨z5, hz5, bz5⟩ := and_2 z4 1 (by omega) (by omega)
          refine r_iand (pc := 233) (v := iv z5) dX12_side_233 hz5 ?_
          refine r_i2l (pc := 234) (v := (iv z5).toInt64) dX12_side_234 rfl ?_
          exact r_lret (pc := 235) dX12_side_235 rfl ⟨rfl, ht66, _, rfl, trivial⟩
        · refine r_aload_n (pc := 71) dX12_side_71 (i := 0) rfl rfl ?_
          refine r_iload (pc := 72) dX12_side_72 rfl ?_
          refine t_callVI (pc := 74) (as := [.int (iv v66_5)]) (st := []) ht66 hO kX12_237 rfl dX12_side_74 (t_X12_together (d := d - 1) (x1 := v66_5) (by omega) hO hA_beside ht66 (by omega)) rfl (by omega) (Nat.le_of_ble_eq_true rfl) rfl (fun hp6 y8 ht7 by8 => ?_)
          obtain ⟨by81, by82, hy8H⟩ := by8
          refine r_istore (pc := 77) (lv' := [(6, .int (iv y8)), (0, .ref y), (2, .int (iv x2)), (3, .int (iv y1)), (4, .int (iv v66_4)), (5, .int (iv v66_5))]) dX12_side_77 (by decide) rfl ?_
          refine r_iload (pc := 79) dX12_side_79 rfl ?_
          refine r_iload (pc := 81) dX12_side_81 rfl ?_
          refine r_ineg (pc := 83) (v := iv (-y8)) dX12_side_83 (iv_neg _) ?_
          obtain ⟨z9, hz9, bz9⟩ := and_l y8 (-y8) (by omega) (by omega)
          refine r_iand (pc := 84) (v := iv z9) dX12_side_84 hz9 ?_
          refine r_istore (pc := 85) (lv' := [(7, .int (iv z9)), (6, .int (iv y8)), (0, .ref y), (2, .int (iv x2)), (3, .int (iv y1)), (4, .int (iv v66_4)), (5, .int (iv v66_5))]) dX12_side_85 (by decide) rfl ?_
          refine r_iconst (pc := 87) (v := iv 0) dX12_side_87 (by decide) ?_
          refine r_istore (pc := 88) (lv' := [(8, .int (iv 0)), (7, .int (iv z9)), (6, .int (iv y8)), (0, .ref y), (2, .int (iv x2)), (3, .int (iv y1)), (4, .int (iv v66_4)), (5, .int (iv v66_5))]) dX12_side_88 (by decide) rfl ?_
          refine r_iconst (pc := 90) (v := iv (-1)) dX12_side_90 (by decide) ?_
          refine r_istore (pc := 91) (lv' := [(9, .int (iv (-1))), (8, .int (iv 0)), (7, .int (iv z9)), (6, .int (iv y8)), (0, .ref y), (2, .int (iv x2)), (3, .int (iv y1)), (4, .int (iv v66_4)), (5, .int (iv v66_5))]) dX12_side_91 (by decide) rfl ?_
          have hC0 : Cv (-1) z9 0 := Cv_m1 _ _
          have B93 : ∀ k : Nat, ∀ hp93 : MH, Tw Γ hp93 → ∀  (v93_7 : Int) (v93_8 : Int) (v93_9 : Int), 0 ≤ v93_7 ∧ v93_7 ≤ 65535 ∧ z9 ≤ v93_7 ∧ 0 ≤ v93_8 ∧ v93_8 ≤ 65535 ∧ (-1) ≤ v93_9 ∧ v93_9 ≤ 65535 ∧ Cv v93_9 v93_7 v93_8 ∧ Hb2 v66_5 y8 → 65536 - v93_9 ≤ (k : Int) → Rn (gG D cI cJ cZ cT lo b L xs) mX12_side d 93 [(0, .ref y), (2, .int (iv x2)), (3, .int (iv y1)), (4, .int (iv v66_4)), (5, .int (iv v66_5)), (6, .int (iv y8)), (7, .int (iv v93_7)), (8, .int (iv v93_8)), (9, .int (iv v93_9))] [] hp93 n 0 0 (pJ Γ n yes64) := by
            refine lpS _ ?_
            intro k93 ih93 hp93 ht93 v93_7 v93_8 v93_9 hf93 hm93
            obtain ⟨hf93_0, hf93_1, hf93_2, hf93_3, hf93_4, hf93_5, hf93_6, ha93_7, ha93_8⟩ := hf93
            refine r_iload (pc := 93) dX12_side_93 rfl ?_
            refine r_iload (pc := 95) dX12_side_95 rfl ?_
            refine r_iload (pc := 97) dX12_side_97 rfl ?_
            obtain ⟨z10, hz10, bz10⟩ := or_2 16 v93_7 v93_8 (by omega) (by omega) (by decide)
            refine r_ior (pc := 99) (v := iv z10) dX12_side_99 hz10 ?_
            have hgz10 : v93_9 ≤ z10 := Cv_le (by assumption) hz10 (by omega) (by omega) (by omega) (by omega)
            refine t_icmp_eq (pc := 100) (tgt := 197) dX12_side_100 (by decide) (by omega) (by omega) (fun c100 => ?_) (fun c100 => ?_)
            · refine r_iload (pc := 197) dX12_side_197 rfl ?_
              refine r_iload (pc := 199) dX12_side_199 rfl ?_
              obtain ⟨z11, hz11, bz11⟩ := and_2 v93_7 v93_8 (by omega) (by omega)
              refine r_iand (pc := 201) (v := iv z11) dX12_side_201 hz11 ?_
              refine t_if_eq (pc := 202) (tgt := 209) dX12_side_202 (by decide) (by omega) (fun c202 => ?_) (fun c202 => ?_)
              · refine r_iload (pc := 209) dX12_side_209 rfl ?_
                refine r_iload (pc := 211) dX12_side_211 rfl ?_
                obtain ⟨z12, hz12, bz12⟩ := or_2 16 v66_4 v93_8 (by omega) (by omega) (by decide)
                refine r_ior (pc := 213) (v := iv z12) dX12_side_213 hz12 ?_
                refine r_istore (pc := 214) (lv' := [(4, .int (iv z12)), (0, .ref y), (2, .int (iv x2)), (3, .int (iv y1)), (5, .int (iv v66_5)), (6, .int (iv y8)), (7, .int (iv v93_7)), (8, .int (iv v93_8)), (9, .int (iv v93_9))]) dX12_side_214 (by decide) rfl ?_
                refine r_iload (pc := 216) dX12_side_216 rfl ?_
                refine r_iload (pc := 218) dX12_side_218 rfl ?_
                refine r_iconst (pc := 220) (v := iv (-1)) dX12_side_220 (by decide) ?_
                refine r_ixor (pc := 221) (v := iv (-y8 - 1)) dX12_side_221 (iv_not _) ?_
                obtain ⟨z13, hz13, bz13⟩ := and_l v66_5 (-y8 - 1) (by omega) (by omega)
                refine r_iand (pc := 222) (v := iv z13) dX12_side_222 hz13 ?_
                have hlz13 : z13 < v66_5 := Hb_less (by assumption) hz13 (by omega) (by omega) (by omega) (by omega)
                refine r_istore (pc := 223) (lv' := [(5, .int (iv z13)), (4, .int (iv z12)), (0, .ref y), (2, .int (iv x2)), (3, .int (iv y1)), (6, .int (iv y8)), (7, .int (iv v93_7)), (8, .int (iv v93_8)), (9, .int (iv v93_9))]) dX12_side_223 (by decide) rfl ?_
                refine r_goto (pc := 225) (tgt := 66) dX12_side_225 (by decide) ?_
                refine Rn.pick (lv' := [(0, .ref y), (2, .int (iv x2)), (3, .int (iv y1)), (4, .int (iv z12)), (5, .int (iv z13))]) [2, 3, 4, 1, 0] rfl ?_
                exact ih66 (Int.toNat (z13)) (by omega) _ ht93 z12 z13 ⟨by omega, by omega, by omega, by omega, by omega⟩ (by omega)
              · refine r_ldc2 (pc := 205) (v := (-1)) dX12_side_205 kX12_357 ?_
                exact r_lret (pc := 208) dX12_side_208 rfl ⟨rfl, ht93, _, rfl, trivial⟩
            · refine r_iload (pc := 103) dX12_side_103 rfl ?_
              refine r_iload (pc := 105) dX12_side_105 rfl ?_
              obtain ⟨z14, hz14, bz14⟩ := or_2 16 v93_7 v93_8 (by omega) (by omega) (by decide)
              refine r_ior (pc := 107) (v := iv z14) dX12_side_107 hz14 ?_
              have hez14 : z14 = z10 := iv_inj (hz14.symm.trans hz10) (by omega) (by omega)
              refine r_istore (pc := 108) (lv' := [(9, .int (iv z14)), (0, .ref y), (2, .int (iv x2)), (3, .int (iv y1)), (4, .int (iv v66_4)), (5, .int (iv v66_5)), (6, .int (iv y8)), (7, .int (iv v93_7)), (8, .int (iv v93_8))]) dX12_side_108 (by decide) rfl ?_
              have hcz14 : Cv z14 v93_7 v93_8 := Cv_or hz14 (by omega) (by omega) (by omega)
              refine r_iconst (pc := 110) (v := iv 0) dX12_side_110 (by decide) ?_
              refine r_istore (pc := 111) (lv' := [(10, .int (iv 0)), (9, .int (iv z14)), (0, .ref y), (2, .int (iv x2)), (3, .int (iv y1)), (4, .int (iv v66_4)), (5, .int (iv v66_5)), (6, .int (iv y8)), (7, .int (iv v93_7)), (8, .int (iv v93_8))]) dX12_side_111 (by decide) rfl ?_
              have B113 : ∀ k : Nat, ∀ hp113 : MH, Tw Γ hp113 → ∀  (v113_8 : Int) (v113_10 : Int), 0 ≤ v113_8 ∧ v113_8 ≤ 65535 ∧ v93_8 ≤ v113_8 ∧ 0 ≤ v113_10 ∧ v113_10 ≤ 16 ∧ Cv z14 v93_7 v113_8 ∧ Hb2 v66_5 y8 → 16 - v113_10 ≤ (k : Int) → Rn (gG D cI cJ cZ cT lo b L xs) mX12_side d 113 [(0, .ref y), (2, .int (iv x2)), (3, .int (iv y1)), (4, .int (iv v66_4)), (5, .int (iv v66_5)), (6, .int (iv y8)), (7, .int (iv v93_7)), (8, .int (iv v113_8)), (9, .int (iv z14)), (10, .int (iv v113_10))] [] hp113 n 0 0 (pJ Γ n yes64) := by
                refine lpS _ ?_
                intro k113 ih113 hp113 ht113 v113_8 v113_10 hf113 hm113
                obtain ⟨hf113_0, hf113_1, hf113_2, hf113_3, hf113_4, ha113_5, ha113_6⟩ := hf113
                refine r_iload (pc := 113) dX12_side_113 rfl ?_
                refine r_iload_n (pc := 115) dX12_side_115 (i := 3) rfl rfl ?_
                refine t_icmp_ge (pc := 116) (tgt := 152) dX12_side_116 (by decide) (by omega) (by omega) (fun c116 => ?_) (fun c116 => ?_)
                · refine r_iconst (pc := 152) (v := iv 0) dX12_side_152 (by decide) ?_
                  refine r_istore (pc := 153) (lv' := [(10, .int (iv 0)), (0, .ref y), (2, .int (iv x2)), (3, .int (iv y1)), (4, .int (iv v66_4)), (5, .int (iv v66_5)), (6, .int (iv y8)), (7, .int (iv v93_7)), (8, .int (iv v113_8)), (9, .int (iv z14))]) dX12_side_153 (by decide) rfl ?_
                  have B155 : ∀ k : Nat, ∀ hp155 : MH, Tw Γ hp155 → ∀  (v155_7 : Int) (v155_10 : Int), 0 ≤ v155_7 ∧ v155_7 ≤ 65535 ∧ v93_7 ≤ v155_7 ∧ 0 ≤ v155_10 ∧ v155_10 ≤ 16 ∧ Cv z14 v155_7 v113_8 ∧ Hb2 v66_5 y8 → 16 - v155_10 ≤ (k : Int) → Rn (gG D cI cJ cZ cT lo b L xs) mX12_side d 155 [(0, .ref y), (2, .int (iv x2)), (3, .int (iv y1)), (4, .int (iv v66_4)), (5, .int (iv v66_5)), (6, .int (iv y8)), (7, .int (iv v155_7)), (8, .int (iv v113_8)), (9, .int (iv z14)), (10, .int (iv v155_10))] [] hp155 n 0 0 (pJ Γ n yes64) := by
                    refine lpS _ ?_
                    intro k155 ih155 hp155 ht155 v155_7 v155_10 hf155 hm155
                    obtain ⟨hf155_0, hf155_1, hf155_2, hf155_3, hf155_4, ha155_5, ha155_6⟩ := hf155
                    refine r_iload (pc := 155) dX12_side_155 rfl ?_
                    refine r_iload_n (pc := 157) dX12_side_157 (i := 3) rfl rfl ?_
                    refine t_icmp_ge (pc := 158) (tgt := 194) dX12_side_158 (by decide) (by omega) (by omega) (fun c158 => ?_) (fun c158 => ?_)
                    · refine r_goto (pc := 194) (tgt := 93) dX12_side_194 (by decide) ?_
                      refine Rn.pick (lv' := [(0, .ref y), (2, .int (iv x2)), (3, .int (iv y1)), (4, .int (iv v66_4)), (5, .int (iv v66_5)), (6, .int (iv y8)), (7, .int (iv v155_7)), (8, .int (iv v113_8)), (9, .int (iv z14))]) [0, 1, 2, 3, 4, 5, 6, 7, 8] rfl ?_
                      exact ih93 (Int.toNat (65536 - z14)) (by omega) _ ht155 v155_7 v113_8 z14 ⟨by omega, by omega, by omega, by omega, by omega, by omega, by omega, by assumption, by assumption⟩ (by omega)
                    · refine r_iload (pc := 161) dX12_side_161 rfl ?_
                      refine r_iload (pc := 163) dX12_side_163 rfl ?_
                      refine r_iload (pc := 165) dX12_side_165 rfl ?_
                      obtain ⟨z15, hz15, bz15⟩ := shr_x v113_8 v155_10 (by omega) (by omega)
                      refine r_ishr (pc := 167) (v := iv z15) dX12_side_167 hz15 ?_
                      refine r_iconst (pc := 168) (v := iv 1) dX12_side_168 (by decide) ?_
                      obtain ⟨z16, hz16, bz16⟩ := and_2 z15 1 (by omega) (by omega)
                      refine r_iand (pc := 169) (v := iv z16) dX12_side_169 hz16 ?_
                      refine r_iconst (pc := 170) (v := iv 1) dX12_side_170 (by decide) ?_
                      have B185 : ∀ hp185 : MH, Tw Γ hp185 → ∀  (u185_1 : Int), 0 ≤ u185_1 ∧ u185_1 ≤ 65535 ∧ Cv z14 v155_7 v113_8 ∧ Hb2 v66_5 y8 → Rn (gG D cI cJ cZ cT lo b L xs) mX12_side d 185 [(0, .ref y), (2, .int (iv x2)), (3, .int (iv y1)), (4, .int (iv v66_4)), (5, .int (iv v66_5)), (6, .int (iv y8)), (8, .int (iv v113_8)), (9, .int (iv z14)), (10, .int (iv v155_10))] [.int (iv u185_1), .int (iv v155_7)] hp185 n 0 0 (pJ Γ n yes64) := by
                        intro hp185 ht185 u185_1 hf185
                        obtain ⟨hf185_0, hf185_1, ha185_2, ha185_3⟩ := hf185
                        obtain ⟨z17, hz17, bz17⟩ := or_2 16 v155_7 u185_1 (by omega) (by omega) (by decide)
                        refine r_ior (pc := 185) (v := iv z17) dX12_side_185 hz17 ?_
                        have hcz17 : Cv z14 z17 v113_8 := Cv_a (a := v155_7) (by assumption) hz17 (by omega) (by omega) (by omega)
                        refine r_istore (pc := 186) (lv' := [(7, .int (iv z17)), (0, .ref y), (2, .int (iv x2)), (3, .int (iv y1)), (4, .int (iv v66_4)), (5, .int (iv v66_5)), (6, .int (iv y8)), (8, .int (iv v113_8)), (9, .int (iv z14)), (10, .int (iv v155_10))]) dX12_side_186 (by decide) rfl ?_
                        refine r_iinc (pc := 188) (v := iv (v155_10 + 1)) (lv' := [(10, .int (iv (v155_10 + 1))), (7, .int (iv z17)), (0, .ref y), (2, .int (iv x2)), (3, .int (iv y1)), (4, .int (iv v66_4)), (5, .int (iv v66_5)), (6, .int (iv y8)), (8, .int (iv v113_8)), (9, .int (iv z14))]) dX12_side_188 rfl (iv_add _ _) (by decide) rfl ?_
                        refine r_goto (pc := 191) (tgt := 155) dX12_side_191 (by decide) ?_
                        refine Rn.pick (lv' := [(0, .ref y), (2, .int (iv x2)), (3, .int (iv y1)), (4, .int (iv v66_4)), (5, .int (iv v66_5)), (6, .int (iv y8)), (7, .int (iv z17)), (8, .int (iv v113_8)), (9, .int (iv z14)), (10, .int (iv (v155_10 + 1)))]) [2, 3, 4, 5, 6, 7, 1, 8, 9, 0] rfl ?_
                        exact ih155 (Int.toNat (16 - (v155_10 + 1))) (by omega) _ ht185 z17 (v155_10 + 1) ⟨by omega, by omega, by omega, by omega, by omega, by assumption, by assumption⟩ (by omega)
                      refine t_icmp_ne (pc := 171) (tgt := 184) dX12_side_171 (by decide) (by omega) (by omega) (fun c171 => ?_) (fun c171 => ?_)
                      · refine r_iconst (pc := 184) (v := iv 0) dX12_side_184 (by decide) ?_
                        refine Rn.pick (lv' := [(0, .ref y), (2, .int (iv x2)), (3, .int (iv y1)), (4, .int (iv v66_4)), (5, .int (iv v66_5)), (6, .int (iv y8)), (8, .int (iv v113_8)), (9, .int (iv z14)), (10, .int (iv v155_10))]) [0, 1, 2, 3, 4, 5, 7, 8, 9] rfl ?_
                        exact B185 _ ht155 0 ⟨by omega, by omega, by assumption, by assumption⟩
                      · refine r_aload_n (pc := 174) dX12_side_174 (i := 0) rfl rfl ?_
                        refine t_getE (pc := 175) (.ref (y + 24)) ht155 hO fX12_81 dX12_side_175 rfl ?_
                        refine r_iload (pc := 178) dX12_side_178 rfl ?_
                        refine t_ialdR (pc := 180) (t0 := 0) ht155 hA_beside dX12_side_180 rfl (by decide) (by omega) (fun y18 by18 => ?_)
                        refine r_goto (pc := 181) (tgt := 185) dX12_side_181 (by decide) ?_
                        refine Rn.pick (lv' := [(0, .ref y), (2, .int (iv x2)), (3, .int (iv y1)), (4, .int (iv v66_4)), (5, .int (iv v66_5)), (6, .int (iv y8)), (8, .int (iv v113_8)), (9, .int (iv z14)), (10, .int (iv v155_10))]) [0, 1, 2, 3, 4, 5, 7, 8, 9] rfl ?_
                        exact B185 _ ht155 y18 ⟨by omega, by omega, by assumption, by assumption⟩
                  refine Rn.pick (lv' := [(0, .ref y), (2, .int (iv x2)), (3, .int (iv y1)), (4, .int (iv v66_4)), (5, .int (iv v66_5)), (6, .int (iv y8)), (7, .int (iv v93_7)), (8, .int (iv v113_8)), (9, .int (iv z14)), (10, .int (iv 0))]) [1, 2, 3, 4, 5, 6, 7, 8, 9, 0] rfl ?_
                  exact B155 (Int.toNat (16 - 0)) _ ht113 v93_7 0 ⟨by omega, by omega, by omega, by omega, by omega, by assumption, by assumption⟩ (by omega)
                · refine r_iload (pc := 119) dX12_side_119 rfl ?_
                  refine r_iload (pc := 121) dX12_side_121 rfl ?_
                  refine r_iload (pc := 123) dX12_side_123 rfl ?_
                  obtain ⟨z19, hz19, bz19⟩ := shr_x v93_7 v113_10 (by omega) (by omega)
                  refine r_ishr (pc := 125) (v := iv z19) dX12_side_125 hz19 ?_
                  refine r_iconst (pc := 126) (v := iv 1) dX12_side_126 (by decide) ?_
                  obtain ⟨z20, hz20, bz20⟩ := and_2 z19 1 (by omega) (by omega)
                  refine r_iand (pc := 127) (v := iv z20) dX12_side_127 hz20 ?_
                  refine r_iconst (pc := 128) (v := iv 1) dX12_side_128 (by decide) ?_
                  have B143 : ∀ hp143 : MH, Tw Γ hp143 → ∀  (u143_1 : Int), 0 ≤ u143_1 ∧ u143_1 ≤ 65535 ∧ Cv z14 v93_7 v113_8 ∧ Hb2 v66_5 y8 → Rn (gG D cI cJ cZ cT lo b L xs) mX12_side d 143 [(0, .ref y), (2, .int (iv x2)), (3, .int (iv y1)), (4, .int (iv v66_4)), (5, .int (iv v66_5)), (6, .int (iv y8)), (7, .int (iv v93_7)), (9, .int (iv z14)), (10, .int (iv v113_10))] [.int (iv u143_1), .int (iv v113_8)] hp143 n 0 0 (pJ Γ n yes64) := by
                    intro hp143 ht143 u143_1 hf143
                    obtain ⟨hf143_0, hf143_1, ha143_2, ha143_3⟩ := hf143
                    obtain ⟨z21, hz21, bz21⟩ := or_2 16 v113_8 u143_1 (by omega) (by omega) (by decide)
                    refine r_ior (pc := 143) (v := iv z21) dX12_side_143 hz21 ?_
                    have hcz21 : Cv z14 v93_7 z21 := Cv_b (b := v113_8) (by assumption) hz21 (by omega) (by omega) (by omega)
                    refine r_istore (pc := 144) (lv' := [(8, .int (iv z21)), (0, .ref y), (2, .int (iv x2)), (3, .int (iv y1)), (4, .int (iv v66_4)), (5, .int (iv v66_5)), (6, .int (iv y8)), (7, .int (iv v93_7)), (9, .int (iv z14)), (10, .int (iv v113_10))]) dX12_side_144 (by decide) rfl ?_
                    refine r_iinc (pc := 146) (v := iv (v113_10 + 1)) (lv' := [(10, .int (iv (v113_10 + 1))), (8, .int (iv z21)), (0, .ref y), (2, .int (iv x2)), (3, .int (iv y1)), (4, .int (iv v66_4)), (5, .int (iv v66_5)), (6, .int (iv y8)), (7, .int (iv v93_7)), (9, .int (iv z14))]) dX12_side_146 rfl (iv_add _ _) (by decide) rfl ?_
                    refine r_goto (pc := 149) (tgt := 113) dX12_side_149 (by decide) ?_
                    refine Rn.pick (lv' := [(0, .ref y), (2, .int (iv x2)), (3, .int (iv y1)), (4, .int (iv v66_4)), (5, .int (iv v66_5)), (6, .int (iv y8)), (7, .int (iv v93_7)), (8, .int (iv z21)), (9, .int (iv z14)), (10, .int (iv (v113_10 + 1)))]) [2, 3, 4, 5, 6, 7, 8, 1, 9, 0] rfl ?_
                    exact ih113 (Int.toNat (16 - (v113_10 + 1))) (by omega) _ ht143 z21 (v113_10 + 1) ⟨by omega, by omega, by omega, by omega, by omega, by assumption, by assumption⟩ (by omega)
                  refine t_icmp_ne (pc := 129) (tgt := 142) dX12_side_129 (by decide) (by omega) (by omega) (fun c129 => ?_) (fun c129 => ?_)
                  · refine r_iconst (pc := 142) (v := iv 0) dX12_side_142 (by decide) ?_
                    refine Rn.pick (lv' := [(0, .ref y), (2, .int (iv x2)), (3, .int (iv y1)), (4, .int (iv v66_4)), (5, .int (iv v66_5)), (6, .int (iv y8)), (7, .int (iv v93_7)), (9, .int (iv z14)), (10, .int (iv v113_10))]) [0, 1, 2, 3, 4, 5, 6, 8, 9] rfl ?_
                    exact B143 _ ht113 0 ⟨by omega, by omega, by assumption, by assumption⟩
                  · refine r_aload_n (pc := 132) dX12_side_132 (i := 0) rfl rfl ?_
                    refine t_getE (pc := 133) (.ref (y + 24)) ht113 hO fX12_81 dX12_side_133 rfl ?_
                    refine r_iload (pc := 136) dX12_side_136 rfl ?_
                    refine t_ialdR (pc := 138) (t0 := 0) ht113 hA_beside dX12_side_138 rfl (by decide) (by omega) (fun y22 by22 => ?_)
                    refine r_goto (pc := 139) (tgt := 143) dX12_side_139 (by decide) ?_
                    refine Rn.pick (lv' := [(0, .ref y), (2, .int (iv x2)), (3, .int (iv y1)), (4, .int (iv v66_4)), (5, .int (iv v66_5)), (6, .int (iv y8)), (7, .int (iv v93_7)), (9, .int (iv z14)), (10, .int (iv v113_10))]) [0, 1, 2, 3, 4, 5, 6, 8, 9] rfl ?_
                    exact B143 _ ht113 y22 ⟨by omega, by omega, by assumption, by assumption⟩
              refine Rn.pick (lv' := [(0, .ref y), (2, .int (iv x2)), (3, .int (iv y1)), (4, .int (iv v66_4)), (5, .int (iv v66_5)), (6, .int (iv y8)), (7, .int (iv v93_7)), (8, .int (iv v93_8)), (9, .int (iv z14)), (10, .int (iv 0))]) [2, 3, 4, 5, 6, 7, 8, 9, 1, 0] rfl ?_
              exact B113 (Int.toNat (16 - 0)) _ ht93 v93_8 0 ⟨by omega, by omega, by omega, by omega, by omega, by assumption, by assumption⟩ (by omega)
          refine Rn.pick (lv' := [(0, .ref y), (2, .int (iv x2)), (3, .int (iv y1)), (4, .int (iv v66_4)), (5, .int (iv v66_5)), (6, .int (iv y8)), (7, .int (iv z9)), (8, .int (iv 0)), (9, .int (iv (-1)))]) [4, 5, 6, 7, 8, 3, 2, 1, 0] rfl ?_
          exact B93 (Int.toNat (65536 - (-1))) _ ht7 z9 0 (-1) ⟨by omega, by omega, by omega, by omega, by omega, by omega, by omega, by assumption, by assumption⟩ (by omega)
      refine Rn.pick (lv' := [(0, .ref y), (2, .int (iv x2)), (3, .int (iv y1)), (4, .int (iv 0)), (5, .int (iv (z3 - 1)))]) [2, 4, 5, 1, 0] rfl ?_
      exact B66 (Int.toNat ((z3 - 1))) _ ht10 0 (z3 - 1) ⟨by omega, by omega, by omega, by omega, by omega⟩ (by omega)
    · refine r_aload_n (pc := 21) dX12_side_21 (i := 0) rfl rfl ?_
      refine t_getE (pc := 22) (.ref (y + 5)) ht10 hO fX12_23 dX12_side_22 rfl ?_
      refine r_iload_n (pc := 25) dX12_side_25 (i := 1) rfl rfl ?_
      refine r_iload (pc := 26) dX12_side_26 rfl ?_
      refine t_callSR (pc := 28) (as := [.int (iv x1), .int (iv v10_4)]) (st := [.ref (y + 5)]) kX12_157 dX12_side_28 (t_X12_at1 (d := d - 1) (x1 := x1) (x2 := v10_4) (by omega)  ht10 (by omega) (by omega)) rfl (by omega) (Nat.le_of_ble_eq_true rfl) rfl (fun hp23 y25 ht24 by25 => ?_)
      refine t_ialdR (pc := 31) (t0 := 0) ht24 hA_from dX12_side_31 rfl (by decide) (by omega) (fun y26 by26 => ?_)
      refine r_aload_n (pc := 32) dX12_side_32 (i := 0) rfl rfl ?_
      refine t_getE (pc := 33) (.ref (y + 6)) ht24 hO fX12_26 dX12_side_33 rfl ?_
      refine r_iload_n (pc := 36) dX12_side_36 (i := 1) rfl rfl ?_
      refine r_iload (pc := 37) dX12_side_37 rfl ?_
      refine t_callSR (pc := 39) (as := [.int (iv x1), .int (iv v10_4)]) (st := [.ref (y + 6), .int (iv y26)]) kX12_157 dX12_side_39 (t_X12_at1 (d := d - 1) (x1 := x1) (x2 := v10_4) (by omega)  ht24 (by omega) (by omega)) rfl (by omega) (Nat.le_of_ble_eq_true rfl) rfl (fun hp27 y29 ht28 by29 => ?_)
      refine t_ialdR (pc := 42) (t0 := 0) ht28 hA_to dX12_side_42 rfl (by decide) (by omega) (fun y30 by30 => ?_)
      refine t_icmp_ne (pc := 43) (tgt := 50) dX12_side_43 (by decide) (by omega) (by omega) (fun c43 => ?_) (fun c43 => ?_)
      · refine r_iinc (pc := 50) (v := iv (v10_4 + 1)) (lv' := [(4, .int (iv (v10_4 + 1))), (0, .ref y), (1, .int (iv x1)), (2, .int (iv x2)), (3, .int (iv y1))]) dX12_side_50 rfl (iv_add _ _) (by decide) rfl ?_
        refine r_goto (pc := 53) (tgt := 10) dX12_side_53 (by decide) ?_
        refine Rn.pick (lv' := [(0, .ref y), (1, .int (iv x1)), (2, .int (iv x2)), (3, .int (iv y1)), (4, .int (iv (v10_4 + 1)))]) [1, 2, 3, 4, 0] rfl ?_
        exact ih10 (Int.toNat (60 - (v10_4 + 1))) (by omega) _ ht28 (v10_4 + 1) ⟨by omega, by omega⟩ (by omega)
      · refine r_ldc2 (pc := 46) (v := (-1)) dX12_side_46 kX12_357 ?_
        exact r_lret (pc := 49) dX12_side_49 rfl ⟨rfl, ht28, _, rfl, trivial⟩
  refine Rn.pick (lv' := [(0, .ref y), (1, .int (iv x1)), (2, .int (iv x2)), (3, .int (iv y1)), (4, .int (iv 0))]) [2, 3, 4, 1, 0] rfl ?_
  exact B10 (Int.toNat (60 - 0)) _ ht 0 ⟨by omega, by omega⟩ (by omega)
set_option maxHeartbeats 4000000 in
set_option maxRecDepth 100000 in
theorem t_X12_trees {D : va_G} {cI cJ cZ cT : ClassId} {lo b L : Nat} {xs : Nat → Int32} {hp : MH} {n d : Nat} {Γ : TG} {y : Nat} {rf cnt nm : Int32} {x1 : Int} (hd0 : 1 ≤ d) (hO : rd Γ y (tO 11 (mdF y rf cnt nm))) (hA_sizes : rd Γ (y + 2) (tI cI 121 (rg 0 16))) (hA_many : rd Γ (y + 4) (tI cI 121 (rg 0 60))) (hA_from : rd Γ (y + 5) (tI cI 7260 (rg 0 15))) (hA_to : rd Γ (y + 6) (tI cI 7260 (rg 0 15))) (hA_spans : Γ (y + 36) = some (tJ cJ 65536 anyJ)) (ht : Tw Γ hp) (hx1 : 0 ≤ x1 ∧ x1 ≤ 120) : Mt (gG D cI cJ cZ cT lo b L xs) mX12_trees d 0 0 [.ref y, .int (iv x1)] hp n (pJ Γ n yes64) := by
  refine Mt.of rfl (Nat.le_of_ble_eq_true rfl) ?_
  refine Rn.pick (lv' := [(0, .ref y), (1, .int (iv x1))]) [0, 1] rfl ?_
  refine r_aload_n (pc := 0) dX12_trees_0 (i := 0) rfl rfl ?_
  refine t_getE (pc := 1) (.ref (y + 2)) ht hO fX12_13 dX12_trees_1 rfl ?_
  refine r_iload_n (pc := 4) dX12_trees_4 (i := 1) rfl rfl ?_
  refine t_ialdR (pc := 5) (t0 := 0) ht hA_sizes dX12_trees_5 rfl (by decide) (by omega) (fun y1 by1 => ?_)
  refine r_istore_n (pc := 6) (lv' := [(2, .int (iv y1)), (0, .ref y), (1, .int (iv x1))]) dX12_trees_6 (i := 2) rfl (by decide) rfl ?_
  refine r_aload_n (pc := 7) dX12_trees_7 (i := 0) rfl rfl ?_
  refine t_getE (pc := 8) (.ref (y + 36)) ht hO fX12_118 dX12_trees_8 rfl ?_
  refine r_iconst (pc := 11) (v := iv 0) dX12_trees_11 (by decide) ?_
  refine r_lconst (pc := 12) (v := 0) dX12_trees_12 (by decide) ?_
  refine t_last (pc := 13) (t0 := 1) ht hA_spans dX12_trees_13 rfl (by decide) (by omega) trivial (fun hp2 ht3 => ?_)
  refine r_iconst (pc := 14) (v := iv 1) dX12_trees_14 (by decide) ?_
  refine r_istore_n (pc := 15) (lv' := [(3, .int (iv 1)), (2, .int (iv y1)), (0, .ref y), (1, .int (iv x1))]) dX12_trees_15 (i := 3) rfl (by decide) rfl ?_
  have B16 : ∀ k : Nat, ∀ hp16 : MH, Tw Γ hp16 → ∀  (v16_3 : Int), 1 ≤ v16_3 ∧ v16_3 ≤ 65536 → 65536 - v16_3 ≤ (k : Int) → Rn (gG D cI cJ cZ cT lo b L xs) mX12_trees d 16 [(0, .ref y), (1, .int (iv x1)), (2, .int (iv y1)), (3, .int (iv v16_3))] [] hp16 n 0 0 (pJ Γ n yes64) := by
    refine lpS _ ?_
    intro k16 ih16 hp16 ht16 v16_3 hf16 hm16
    refine r_iload_n (pc := 16) dX12_trees_16 (i := 3) rfl rfl ?_
    refine r_iconst (pc := 17) (v := iv 1) dX12_trees_17 (by decide) ?_
    refine r_iload_n (pc := 18) dX12_trees_18 (i := 2) rfl rfl ?_
    obtain ⟨z4, hz4, bz4⟩ := shl_1 0 16 y1 (by omega) (by omega) (by decide)
    refine r_ishl (pc := 19) (v := iv z4) dX12_trees_19 hz4 ?_
    refine t_icmp_ge (pc := 20) (tgt := 275) dX12_trees_20 (by decide) (by omega) (by omega) (fun c20 => ?_) (fun c20 => ?_)
    · refine r_aload_n (pc := 275) dX12_trees_275 (i := 0) rfl rfl ?_
      refine t_getE (pc := 276) (.ref (y + 36)) ht16 hO fX12_118 dX12_trees_276 rfl ?_
      refine r_iconst (pc := 279) (v := iv 1) dX12_trees_279 (by decide) ?_
      refine r_iload_n (pc := 280) dX12_trees_280 (i := 2) rfl rfl ?_
      obtain ⟨z5, hz5, bz5⟩ := shl_1 0 16 y1 (by omega) (by omega) (by decide)
      refine r_ishl (pc := 281) (v := iv z5) dX12_trees_281 hz5 ?_
      refine r_iconst (pc := 282) (v := iv 1) dX12_trees_282 (by decide) ?_
      refine r_isub (pc := 283) (v := iv (z5 - 1)) dX12_trees_283 (iv_sub _ _) ?_
      refine t_lald (pc := 284) (t0 := 1) ht16 (rd_of hA_spans) dX12_trees_284 rfl (by decide) (by omega) (fun w6 _ => ?_)
      exact r_lret (pc := 285) dX12_trees_285 rfl ⟨rfl, ht16, _, rfl, trivial⟩
    · refine r_iconst (pc := 23) (v := iv 0) dX12_trees_23 (by decide) ?_
      refine r_istore (pc := 24) (lv' := [(4, .int (iv 0)), (0, .ref y), (1, .int (iv x1)), (2, .int (iv y1)), (3, .int (iv v16_3))]) dX12_trees_24 (by decide) rfl ?_
      have hs0 : Hs v16_3 0 := Hs_0 (by omega)
      have B26 : ∀ k : Nat, ∀ hp26 : MH, Tw Γ hp26 → ∀  (v26_4 : Int), 0 ≤ v26_4 ∧ v26_4 ≤ 15 ∧ Hs v16_3 v26_4 → 16 - v26_4 ≤ (k : Int) → Rn (gG D cI cJ cZ cT lo b L xs) mX12_trees d 26 [(0, .ref y), (1, .int (iv x1)), (2, .int (iv y1)), (3, .int (iv v16_3)), (4, .int (iv v26_4))] [] hp26 n 0 0 (pJ Γ n yes64) := by
        refine lpS _ ?_
        intro k26 ih26 hp26 ht26 v26_4 hf26 hm26
        obtain ⟨hf26_0, hf26_1, ha26_2⟩ := hf26
        refine r_iload_n (pc := 26) dX12_trees_26 (i := 3) rfl rfl ?_
        refine r_iload (pc := 27) dX12_trees_27 rfl ?_
        have hq29 := shr_le v16_3.toNat v26_4.toNat
        refine r_ishr (pc := 29) (v := iv ((v16_3.toNat >>> v26_4.toNat : Nat) : Int)) dX12_trees_29 (shr_e (by omega) (by omega)) ?_
        refine r_iconst (pc := 30) (v := iv 1) dX12_trees_30 (by decide) ?_
        refine r_iand (pc := 31) (v := iv (((v16_3.toNat >>> v26_4.toNat : Nat) : Int) % 2)) dX12_trees_31 (and1_e _ (by omega)) ?_
        refine t_if_ne (pc := 32) (tgt := 41) dX12_trees_32 (by decide) (by omega) (fun c32 => ?_) (fun c32 => ?_)
        · refine r_iload_n (pc := 41) dX12_trees_41 (i := 3) rfl rfl ?_
          refine r_iconst (pc := 42) (v := iv 1) dX12_trees_42 (by decide) ?_
          refine r_iload (pc := 43) dX12_trees_43 rfl ?_
          obtain ⟨z7, hz7, bz7⟩ := shl_1 0 15 v26_4 (by omega) (by omega) (by decide)
          refine r_ishl (pc := 45) (v := iv z7) dX12_trees_45 hz7 ?_
          refine r_iconst (pc := 46) (v := iv (-1)) dX12_trees_46 (by decide) ?_
          refine r_ixor (pc := 47) (v := iv (-z7 - 1)) dX12_trees_47 (iv_not _) ?_
          obtain ⟨z8, hz8, bz8⟩ := and_l v16_3 (-z7 - 1) (by omega) (by omega)
          refine r_iand (pc := 48) (v := iv z8) dX12_trees_48 hz8 ?_
          refine r_istore (pc := 49) (lv' := [(5, .int (iv z8)), (0, .ref y), (1, .int (iv x1)), (2, .int (iv y1)), (3, .int (iv v16_3)), (4, .int (iv v26_4))]) dX12_trees_49 (by decide) rfl ?_
          refine r_iload (pc := 51) dX12_trees_51 rfl ?_
          have B61 : ∀ hp61 : MH, Tw Γ hp61 → ∀  (x61_0 : Int64), True → Rn (gG D cI cJ cZ cT lo b L xs) mX12_trees d 61 [(0, .ref y), (1, .int (iv x1)), (2, .int (iv y1)), (3, .int (iv v16_3)), (4, .int (iv v26_4)), (5, .int (iv z8))] [.long x61_0] hp61 n 0 0 (pJ Γ n yes64) := by
            intro hp61 ht61 x61_0 hf61
            refine r_lstore (pc := 61) (lv' := [(6, .long x61_0), (0, .ref y), (1, .int (iv x1)), (2, .int (iv y1)), (3, .int (iv v16_3)), (4, .int (iv v26_4)), (5, .int (iv z8))]) dX12_trees_61 (by decide) rfl ?_
            refine r_iload (pc := 63) dX12_trees_63 rfl ?_
            refine r_iload (pc := 65) dX12_trees_65 rfl ?_
            refine r_ineg (pc := 67) (v := iv (-z8)) dX12_trees_67 (iv_neg _) ?_
            obtain ⟨z9, hz9, bz9⟩ := and_l z8 (-z8) (by omega) (by omega)
            refine r_iand (pc := 68) (v := iv z9) dX12_trees_68 hz9 ?_
            refine r_istore (pc := 69) (lv' := [(8, .int (iv z9)), (6, .long x61_0), (0, .ref y), (1, .int (iv x1)), (2, .int (iv y1)), (3, .int (iv v16_3)), (4, .int (iv v26_4)), (5, .int (iv z8))]) dX12_trees_69 (by decide) rfl ?_
            refine r_iload (pc := 71) dX12_trees_71 rfl ?_
            refine r_istore (pc := 73) (lv' := [(9, .int (iv z8)), (8, .int (iv z9)), (6, .long x61_0), (0, .ref y), (1, .int (iv x1)), (2, .int (iv y1)), (3, .int (iv v16_3)), (4, .int (iv v26_4)), (5, .int (iv z8))]) dX12_trees_73 (by decide) rfl ?_
            have B75 : ∀ k : Nat, ∀ hp75 : MH, Tw Γ hp75 → ∀  (v75_9 : Int) (w75_6 : Int64), 0 ≤ v75_9 ∧ v75_9 ≤ 65535 → v75_9 ≤ (k : Int) → Rn (gG D cI cJ cZ cT lo b L xs) mX12_trees d 75 [(0, .ref y), (1, .int (iv x1)), (2, .int (iv y1)), (3, .int (iv v16_3)), (4, .int (iv v26_4)), (5, .int (iv z8)), (6, .long w75_6), (8, .int (iv z9)), (9, .int (iv v75_9))] [] hp75 n 0 0 (pJ Γ n yes64) := by
              refine lpS _ ?_
              intro k75 ih75 hp75 ht75 v75_9 w75_6 hf75 hm75
              refine r_iload (pc := 75) dX12_trees_75 rfl ?_
              refine t_if_le (pc := 77) (tgt := 261) dX12_trees_77 (by decide) (by omega) (fun c77 => ?_) (fun c77 => ?_)
              · refine r_aload_n (pc := 261) dX12_trees_261 (i := 0) rfl rfl ?_
                refine t_getE (pc := 262) (.ref (y + 36)) ht75 hO fX12_118 dX12_trees_262 rfl ?_
                refine r_iload_n (pc := 265) dX12_trees_265 (i := 3) rfl rfl ?_
                refine r_lload (pc := 266) dX12_trees_266 rfl ?_
                refine t_last (pc := 268) (t0 := 1) ht75 hA_spans dX12_trees_268 rfl (by decide) (by omega) trivial (fun hp10 ht11 => ?_)
                refine r_iinc (pc := 269) (v := iv (v16_3 + 1)) (lv' := [(3, .int (iv (v16_3 + 1))), (0, .ref y), (1, .int (iv x1)), (2, .int (iv y1)), (4, .int (iv v26_4)), (5, .int (iv z8)), (6, .long w75_6), (8, .int (iv z9)), (9, .int (iv v75_9))]) dX12_trees_269 rfl (iv_add _ _) (by decide) rfl ?_
                refine r_goto (pc := 272) (tgt := 16) dX12_trees_272 (by decide) ?_
                refine Rn.pick (lv' := [(0, .ref y), (1, .int (iv x1)), (2, .int (iv y1)), (3, .int (iv (v16_3 + 1)))]) [1, 2, 3, 0] rfl ?_
                exact ih16 (Int.toNat (65536 - (v16_3 + 1))) (by omega) _ ht11 (v16_3 + 1) ⟨by omega, by omega⟩ (by omega)
              · refine r_iload (pc := 80) dX12_trees_80 rfl ?_
                refine r_iload (pc := 82) dX12_trees_82 rfl ?_
                obtain ⟨z12, hz12, bz12⟩ := and_2 v75_9 z9 (by omega) (by omega)
                refine r_iand (pc := 84) (v := iv z12) dX12_trees_84 hz12 ?_
                have B249 : ∀ hp249 : MH, Tw Γ hp249 → ∀  (w249_6 : Int64), True → Rn (gG D cI cJ cZ cT lo b L xs) mX12_trees d 249 [(0, .ref y), (1, .int (iv x1)), (2, .int (iv y1)), (3, .int (iv v16_3)), (4, .int (iv v26_4)), (5, .int (iv z8)), (6, .long w249_6), (8, .int (iv z9)), (9, .int (iv v75_9))] [] hp249 n 0 0 (pJ Γ n yes64) := by
                  intro hp249 ht249 w249_6 hf249
                  refine r_iload (pc := 249) dX12_trees_249 rfl ?_
                  refine r_iconst (pc := 251) (v := iv 1) dX12_trees_251 (by decide) ?_
                  refine r_isub (pc := 252) (v := iv (v75_9 - 1)) dX12_trees_252 (iv_sub _ _) ?_
                  refine r_iload (pc := 253) dX12_trees_253 rfl ?_
                  obtain ⟨z13, hz13, bz13⟩ := and_2 (v75_9 - 1) z8 (by omega) (by omega)
                  refine r_iand (pc := 255) (v := iv z13) dX12_trees_255 hz13 ?_
                  refine r_istore (pc := 256) (lv' := [(9, .int (iv z13)), (0, .ref y), (1, .int (iv x1)), (2, .int (iv y1)), (3, .int (iv v16_3)), (4, .int (iv v26_4)), (5, .int (iv z8)), (6, .long w249_6), (8, .int (iv z9))]) dX12_trees_256 (by decide) rfl ?_
                  refine r_goto (pc := 258) (tgt := 75) dX12_trees_258 (by decide) ?_
                  refine Rn.pick (lv' := [(0, .ref y), (1, .int (iv x1)), (2, .int (iv y1)), (3, .int (iv v16_3)), (4, .int (iv v26_4)), (5, .int (iv z8)), (6, .long w249_6), (8, .int (iv z9)), (9, .int (iv z13))]) [1, 2, 3, 4, 5, 6, 7, 8, 0] rfl ?_
                  exact ih75 (Int.toNat (z13)) (by omega) _ ht249 z13 w249_6 ⟨by omega, by omega⟩ (by omega)
                refine t_if_eq (pc := 85) (tgt := 249) dX12_trees_85 (by decide) (by omega) (fun c85 => ?_) (fun c85 => ?_)
                · refine Rn.pick (lv' := [(0, .ref y), (1, .int (iv x1)), (2, .int (iv y1)), (3, .int (iv v16_3)), (4, .int (iv v26_4)), (5, .int (iv z8)), (6, .long w75_6), (8, .int (iv z9)), (9, .int (iv v75_9))]) [0, 1, 2, 3, 4, 5, 6, 7, 8] rfl ?_
                  exact B249 _ ht75 w75_6 trivial
                · refine r_aload_n (pc := 88) dX12_trees_88 (i := 0) rfl rfl ?_
                  refine t_getE (pc := 89) (.ref (y + 36)) ht75 hO fX12_118 dX12_trees_89 rfl ?_
                  refine r_iload (pc := 92) dX12_trees_92 rfl ?_
                  refine t_lald (pc := 94) (t0 := 1) ht75 (rd_of hA_spans) dX12_trees_94 rfl (by decide) (by omega) (fun w14 _ => ?_)
                  refine r_lconst (pc := 95) (v := 0) dX12_trees_95 (by decide) ?_
                  refine r_lcmp (pc := 96) dX12_trees_96 ?_
                  refine r_if_eq (pc := 97) (tgt := 249) dX12_trees_97 (by decide) (fun c97 => ?_) (fun c97 => ?_)
                  · refine Rn.pick (lv' := [(0, .ref y), (1, .int (iv x1)), (2, .int (iv y1)), (3, .int (iv v16_3)), (4, .int (iv v26_4)), (5, .int (iv z8)), (6, .long w75_6), (8, .int (iv z9)), (9, .int (iv v75_9))]) [0, 1, 2, 3, 4, 5, 6, 7, 8] rfl ?_
                    exact B249 _ ht75 w75_6 trivial
                  · refine r_aload_n (pc := 100) dX12_trees_100 (i := 0) rfl rfl ?_
                    refine t_getE (pc := 101) (.ref (y + 36)) ht75 hO fX12_118 dX12_trees_101 rfl ?_
                    refine r_iload_n (pc := 104) dX12_trees_104 (i := 3) rfl rfl ?_
                    refine r_iload (pc := 105) dX12_trees_105 rfl ?_
                    refine r_iconst (pc := 107) (v := iv (-1)) dX12_trees_107 (by decide) ?_
                    refine r_ixor (pc := 108) (v := iv (-v75_9 - 1)) dX12_trees_108 (iv_not _) ?_
                    obtain ⟨z15, hz15, bz15⟩ := and_l v16_3 (-v75_9 - 1) (by omega) (by omega)
                    refine r_iand (pc := 109) (v := iv z15) dX12_trees_109 hz15 ?_
                    refine t_lald (pc := 110) (t0 := 1) ht75 (rd_of hA_spans) dX12_trees_110 rfl (by decide) (by omega) (fun w16 _ => ?_)
                    refine r_lconst (pc := 111) (v := 0) dX12_trees_111 (by decide) ?_
                    refine r_lcmp (pc := 112) dX12_trees_112 ?_
                    refine r_if_eq (pc := 113) (tgt := 249) dX12_trees_113 (by decide) (fun c113 => ?_) (fun c113 => ?_)
                    · refine Rn.pick (lv' := [(0, .ref y), (1, .int (iv x1)), (2, .int (iv y1)), (3, .int (iv v16_3)), (4, .int (iv v26_4)), (5, .int (iv z8)), (6, .long w75_6), (8, .int (iv z9)), (9, .int (iv v75_9))]) [0, 1, 2, 3, 4, 5, 6, 7, 8] rfl ?_
                      exact B249 _ ht75 w75_6 trivial
                    · refine r_iconst (pc := 116) (v := iv 0) dX12_trees_116 (by decide) ?_
                      refine r_istore (pc := 117) (lv' := [(10, .int (iv 0)), (0, .ref y), (1, .int (iv x1)), (2, .int (iv y1)), (3, .int (iv v16_3)), (4, .int (iv v26_4)), (5, .int (iv z8)), (6, .long w75_6), (8, .int (iv z9)), (9, .int (iv v75_9))]) dX12_trees_117 (by decide) rfl ?_
                      refine r_iconst (pc := 119) (v := iv 0) dX12_trees_119 (by decide) ?_
                      refine r_istore (pc := 120) (lv' := [(11, .int (iv 0)), (10, .int (iv 0)), (0, .ref y), (1, .int (iv x1)), (2, .int (iv y1)), (3, .int (iv v16_3)), (4, .int (iv v26_4)), (5, .int (iv z8)), (6, .long w75_6), (8, .int (iv z9)), (9, .int (iv v75_9))]) dX12_trees_120 (by decide) rfl ?_
                      have B122 : ∀ k : Nat, ∀ hp122 : MH, Tw Γ hp122 → ∀  (v122_10 : Int) (v122_11 : Int), (-2147483648) ≤ v122_10 ∧ v122_10 ≤ 2147483647 ∧ 0 ≤ v122_11 ∧ v122_11 ≤ 60 → 60 - v122_11 ≤ (k : Int) → Rn (gG D cI cJ cZ cT lo b L xs) mX12_trees d 122 [(0, .ref y), (1, .int (iv x1)), (2, .int (iv y1)), (3, .int (iv v16_3)), (4, .int (iv v26_4)), (5, .int (iv z8)), (6, .long w75_6), (8, .int (iv z9)), (9, .int (iv v75_9)), (10, .int (iv v122_10)), (11, .int (iv v122_11))] [] hp122 n 0 0 (pJ Γ n yes64) := by
                        refine lpS _ ?_
                        intro k122 ih122 hp122 ht122 v122_10 v122_11 hf122 hm122
                        refine r_iload (pc := 122) dX12_trees_122 rfl ?_
                        refine r_aload_n (pc := 124) dX12_trees_124 (i := 0) rfl rfl ?_
                        refine t_getE (pc := 125) (.ref (y + 4)) ht122 hO fX12_20 dX12_trees_125 rfl ?_
                        refine r_iload_n (pc := 128) dX12_trees_128 (i := 1) rfl rfl ?_
                        refine t_ialdR (pc := 129) (t0 := 0) ht122 hA_many dX12_trees_129 rfl (by decide) (by omega) (fun y17 by17 => ?_)
                        refine t_icmp_ge (pc := 130) (tgt := 213) dX12_trees_130 (by decide) (by omega) (by omega) (fun c130 => ?_) (fun c130 => ?_)
                        · refine r_lload (pc := 213) dX12_trees_213 rfl ?_
                          refine r_aload_n (pc := 215) dX12_trees_215 (i := 0) rfl rfl ?_
                          refine t_getE (pc := 216) (.ref (y + 36)) ht122 hO fX12_118 dX12_trees_216 rfl ?_
                          refine r_iload (pc := 219) dX12_trees_219 rfl ?_
                          refine t_lald (pc := 221) (t0 := 1) ht122 (rd_of hA_spans) dX12_trees_221 rfl (by decide) (by omega) (fun w18 _ => ?_)
                          refine r_aload_n (pc := 222) dX12_trees_222 (i := 0) rfl rfl ?_
                          refine t_getE (pc := 223) (.ref (y + 36)) ht122 hO fX12_118 dX12_trees_223 rfl ?_
                          refine r_iload_n (pc := 226) dX12_trees_226 (i := 3) rfl rfl ?_
                          refine r_iload (pc := 227) dX12_trees_227 rfl ?_
                          refine r_iconst (pc := 229) (v := iv (-1)) dX12_trees_229 (by decide) ?_
                          refine r_ixor (pc := 230) (v := iv (-v75_9 - 1)) dX12_trees_230 (iv_not _) ?_
                          obtain ⟨z19, hz19, bz19⟩ := and_l v16_3 (-v75_9 - 1) (by omega) (by omega)
                          refine r_iand (pc := 231) (v := iv z19) dX12_trees_231 hz19 ?_
                          refine t_lald (pc := 232) (t0 := 1) ht122 (rd_of hA_spans) dX12_trees_232 rfl (by decide) (by omega) (fun w20 _ => ?_)
                          refine r_lmul (pc := 233) (v := w18 * w20) dX12_trees_233 rfl ?_
                          refine r_ldc2 (pc := 234) (v := 1000000007) dX12_trees_234 kX12_366 ?_
                          refine r_lrem (pc := 237) (v := (w18 * w20) - (w18 * w20) / (1000000007 : Int64) * (1000000007 : Int64)) dX12_trees_237 (by decide) rfl ?_
                          generalize (w18 * w20) - (w18 * w20) / (1000000007 : Int64) * (1000000007 : Int64) = w21
                          refine r_iload (pc := 238) dX12_trees_238 rfl ?_
                          refine r_i2l (pc := 240) (v := (iv v122_10).toInt64) dX12_trees_240 rfl ?_
                          refine r_lmul (pc := 241) (v := w21 * ((iv v122_10).toInt64)) dX12_trees_241 rfl ?_
                          refine r_ladd (pc := 242) (v := w75_6 + (w21 * ((iv v122_10).toInt64))) dX12_trees_242 rfl ?_
                          refine r_ldc2 (pc := 243) (v := 1000000007) dX12_trees_243 kX12_366 ?_
                          refine r_lrem (pc := 246) (v := (w75_6 + (w21 * ((iv v122_10).toInt64))) - (w75_6 + (w21 * ((iv v122_10).toInt64))) / (1000000007 : Int64) * (1000000007 : Int64)) dX12_trees_246 (by decide) rfl ?_
                          generalize (w75_6 + (w21 * ((iv v122_10).toInt64))) - (w75_6 + (w21 * ((iv v122_10).toInt64))) / (1000000007 : Int64) * (1000000007 : Int64) = w22
                          refine r_lstore (pc := 247) (lv' := [(6, .long w22), (0, .ref y), (1, .int (iv x1)), (2, .int (iv y1)), (3, .int (iv v16_3)), (4, .int (iv v26_4)), (5, .int (iv z8)), (8, .int (iv z9)), (9, .int (iv v75_9)), (10, .int (iv v122_10)), (11, .int (iv v122_11))]) dX12_trees_247 (by decide) rfl ?_
                          refine Rn.pick (lv' := [(0, .ref y), (1, .int (iv x1)), (2, .int (iv y1)), (3, .int (iv v16_3)), (4, .int (iv v26_4)), (5, .int (iv z8)), (6, .long w22), (8, .int (iv z9)), (9, .int (iv v75_9))]) [1, 2, 3, 4, 5, 6, 0, 7, 8] rfl ?_
                          exact B249 _ ht122 w22 trivial
                        · refine r_iload_n (pc := 133) dX12_trees_133 (i := 1) rfl rfl ?_
                          refine r_iload (pc := 134) dX12_trees_134 rfl ?_
                          refine t_callSR (pc := 136) (as := [.int (iv x1), .int (iv v122_11)]) (st := []) kX12_157 dX12_trees_136 (t_X12_at1 (d := d - 1) (x1 := x1) (x2 := v122_11) (by omega)  ht122 (by omega) (by omega)) rfl (by omega) (Nat.le_of_ble_eq_true rfl) rfl (fun hp23 y25 ht24 by25 => ?_)
                          refine r_istore (pc := 139) (lv' := [(12, .int (iv y25)), (0, .ref y), (1, .int (iv x1)), (2, .int (iv y1)), (3, .int (iv v16_3)), (4, .int (iv v26_4)), (5, .int (iv z8)), (6, .long w75_6), (8, .int (iv z9)), (9, .int (iv v75_9)), (10, .int (iv v122_10)), (11, .int (iv v122_11))]) dX12_trees_139 (by decide) rfl ?_
                          refine r_iload (pc := 141) dX12_trees_141 rfl ?_
                          refine r_aload_n (pc := 143) dX12_trees_143 (i := 0) rfl rfl ?_
                          refine t_getE (pc := 144) (.ref (y + 5)) ht24 hO fX12_23 dX12_trees_144 rfl ?_
                          refine r_iload (pc := 147) dX12_trees_147 rfl ?_
                          refine t_ialdR (pc := 149) (t0 := 0) ht24 hA_from dX12_trees_149 rfl (by decide) (by omega) (fun y26 by26 => ?_)
                          refine r_iload (pc := 150) dX12_trees_150 rfl ?_
                          have B204 : ∀ hp204 : MH, Tw Γ hp204 → ∀  (u204_1 : Int), 0 ≤ u204_1 ∧ u204_1 ≤ 1 → Rn (gG D cI cJ cZ cT lo b L xs) mX12_trees d 204 [(0, .ref y), (1, .int (iv x1)), (2, .int (iv y1)), (3, .int (iv v16_3)), (4, .int (iv v26_4)), (5, .int (iv z8)), (6, .long w75_6), (8, .int (iv z9)), (9, .int (iv v75_9)), (11, .int (iv v122_11))] [.int (iv u204_1), .int (iv v122_10)] hp204 n 0 0 (pJ Γ n yes64) := by
                            intro hp204 ht204 u204_1 hf204
                            obtain ⟨z27, hz27, bz27⟩ := any_i (iv v122_10 + iv u204_1)
                            refine r_iadd (pc := 204) (v := iv z27) dX12_trees_204 hz27 ?_
                            refine r_istore (pc := 205) (lv' := [(10, .int (iv z27)), (0, .ref y), (1, .int (iv x1)), (2, .int (iv y1)), (3, .int (iv v16_3)), (4, .int (iv v26_4)), (5, .int (iv z8)), (6, .long w75_6), (8, .int (iv z9)), (9, .int (iv v75_9)), (11, .int (iv v122_11))]) dX12_trees_205 (by decide) rfl ?_
                            refine r_iinc (pc := 207) (v := iv (v122_11 + 1)) (lv' := [(11, .int (iv (v122_11 + 1))), (10, .int (iv z27)), (0, .ref y), (1, .int (iv x1)), (2, .int (iv y1)), (3, .int (iv v16_3)), (4, .int (iv v26_4)), (5, .int (iv z8)), (6, .long w75_6), (8, .int (iv z9)), (9, .int (iv v75_9))]) dX12_trees_207 rfl (iv_add _ _) (by decide) rfl ?_
                            refine r_goto (pc := 210) (tgt := 122) dX12_trees_210 (by decide) ?_
                            refine Rn.pick (lv' := [(0, .ref y), (1, .int (iv x1)), (2, .int (iv y1)), (3, .int (iv v16_3)), (4, .int (iv v26_4)), (5, .int (iv z8)), (6, .long w75_6), (8, .int (iv z9)), (9, .int (iv v75_9)), (10, .int (iv z27)), (11, .int (iv (v122_11 + 1)))]) [2, 3, 4, 5, 6, 7, 8, 9, 10, 1, 0] rfl ?_
                            exact ih122 (Int.toNat (60 - (v122_11 + 1))) (by omega) _ ht204 z27 (v122_11 + 1) ⟨by omega, by omega, by omega, by omega⟩ (by omega)
                          have B199 : ∀ hp199 : MH, Tw Γ hp199 → True → Rn (gG D cI cJ cZ cT lo b L xs) mX12_trees d 199 [(0, .ref y), (1, .int (iv x1)), (2, .int (iv y1)), (3, .int (iv v16_3)), (4, .int (iv v26_4)), (5, .int (iv z8)), (6, .long w75_6), (8, .int (iv z9)), (9, .int (iv v75_9)), (11, .int (iv v122_11))] [.int (iv v122_10)] hp199 n 0 0 (pJ Γ n yes64) := by
                            intro hp199 ht199 hf199
                            refine r_iconst (pc := 199) (v := iv 1) dX12_trees_199 (by decide) ?_
                            refine r_goto (pc := 200) (tgt := 204) dX12_trees_200 (by decide) ?_
                            refine Rn.pick (lv' := [(0, .ref y), (1, .int (iv x1)), (2, .int (iv y1)), (3, .int (iv v16_3)), (4, .int (iv v26_4)), (5, .int (iv z8)), (6, .long w75_6), (8, .int (iv z9)), (9, .int (iv v75_9)), (11, .int (iv v122_11))]) [0, 1, 2, 3, 4, 5, 6, 7, 8, 9] rfl ?_
                            exact B204 _ ht199 1 ⟨by omega, by omega⟩
                          have B171 : ∀ hp171 : MH, Tw Γ hp171 → True → Rn (gG D cI cJ cZ cT lo b L xs) mX12_trees d 171 [(0, .ref y), (1, .int (iv x1)), (2, .int (iv y1)), (3, .int (iv v16_3)), (4, .int (iv v26_4)), (5, .int (iv z8)), (6, .long w75_6), (8, .int (iv z9)), (9, .int (iv v75_9)), (11, .int (iv v122_11)), (12, .int (iv y25))] [.int (iv v122_10)] hp171 n 0 0 (pJ Γ n yes64) := by
                            intro hp171 ht171 hf171
                            refine r_aload_n (pc := 171) dX12_trees_171 (i := 0) rfl rfl ?_
                            refine t_getE (pc := 172) (.ref (y + 6)) ht171 hO fX12_26 dX12_trees_172 rfl ?_
                            refine r_iload (pc := 175) dX12_trees_175 rfl ?_
                            refine t_ialdR (pc := 177) (t0 := 0) ht171 hA_to dX12_trees_177 rfl (by decide) (by omega) (fun y28 by28 => ?_)
                            refine r_iload (pc := 178) dX12_trees_178 rfl ?_
                            have B203 : ∀ hp203 : MH, Tw Γ hp203 → True → Rn (gG D cI cJ cZ cT lo b L xs) mX12_trees d 203 [(0, .ref y), (1, .int (iv x1)), (2, .int (iv y1)), (3, .int (iv v16_3)), (4, .int (iv v26_4)), (5, .int (iv z8)), (6, .long w75_6), (8, .int (iv z9)), (9, .int (iv v75_9)), (11, .int (iv v122_11))] [.int (iv v122_10)] hp203 n 0 0 (pJ Γ n yes64) := by
                              intro hp203 ht203 hf203
                              refine r_iconst (pc := 203) (v := iv 0) dX12_trees_203 (by decide) ?_
                              refine Rn.pick (lv' := [(0, .ref y), (1, .int (iv x1)), (2, .int (iv y1)), (3, .int (iv v16_3)), (4, .int (iv v26_4)), (5, .int (iv z8)), (6, .long w75_6), (8, .int (iv z9)), (9, .int (iv v75_9)), (11, .int (iv v122_11))]) [0, 1, 2, 3, 4, 5, 6, 7, 8, 9] rfl ?_
                              exact B204 _ ht203 0 ⟨by omega, by omega⟩
                            refine t_icmp_ne (pc := 180) (tgt := 203) dX12_trees_180 (by decide) (by omega) (by omega) (fun c180 => ?_) (fun c180 => ?_)
                            · refine Rn.pick (lv' := [(0, .ref y), (1, .int (iv x1)), (2, .int (iv y1)), (3, .int (iv v16_3)), (4, .int (iv v26_4)), (5, .int (iv z8)), (6, .long w75_6), (8, .int (iv z9)), (9, .int (iv v75_9)), (11, .int (iv v122_11))]) [0, 1, 2, 3, 4, 5, 6, 7, 8, 9] rfl ?_
                              exact B203 _ ht171 trivial
                            · refine r_iload (pc := 183) dX12_trees_183 rfl ?_
                              refine r_aload_n (pc := 185) dX12_trees_185 (i := 0) rfl rfl ?_
                              refine t_getE (pc := 186) (.ref (y + 5)) ht171 hO fX12_23 dX12_trees_186 rfl ?_
                              refine r_iload (pc := 189) dX12_trees_189 rfl ?_
                              refine t_ialdR (pc := 191) (t0 := 0) ht171 hA_from dX12_trees_191 rfl (by decide) (by omega) (fun y29 by29 => ?_)
                              obtain ⟨z30, hz30, bz30⟩ := shr_x v75_9 y29 (by omega) (by omega)
                              refine r_ishr (pc := 192) (v := iv z30) dX12_trees_192 hz30 ?_
                              refine r_iconst (pc := 193) (v := iv 1) dX12_trees_193 (by decide) ?_
                              obtain ⟨z31, hz31, bz31⟩ := and_2 z30 1 (by omega) (by omega)
                              refine r_iand (pc := 194) (v := iv z31) dX12_trees_194 hz31 ?_
                              refine r_iconst (pc := 195) (v := iv 1) dX12_trees_195 (by decide) ?_
                              refine t_icmp_ne (pc := 196) (tgt := 203) dX12_trees_196 (by decide) (by omega) (by omega) (fun c196 => ?_) (fun c196 => ?_)
                              · refine Rn.pick (lv' := [(0, .ref y), (1, .int (iv x1)), (2, .int (iv y1)), (3, .int (iv v16_3)), (4, .int (iv v26_4)), (5, .int (iv z8)), (6, .long w75_6), (8, .int (iv z9)), (9, .int (iv v75_9)), (11, .int (iv v122_11))]) [0, 1, 2, 3, 4, 5, 6, 7, 8, 9] rfl ?_
                                exact B203 _ ht171 trivial
                              · refine Rn.pick (lv' := [(0, .ref y), (1, .int (iv x1)), (2, .int (iv y1)), (3, .int (iv v16_3)), (4, .int (iv v26_4)), (5, .int (iv z8)), (6, .long w75_6), (8, .int (iv z9)), (9, .int (iv v75_9)), (11, .int (iv v122_11))]) [0, 1, 2, 3, 4, 5, 6, 7, 8, 9] rfl ?_
                                exact B199 _ ht171 trivial
                          refine t_icmp_ne (pc := 152) (tgt := 171) dX12_trees_152 (by decide) (by omega) (by omega) (fun c152 => ?_) (fun c152 => ?_)
                          · refine Rn.pick (lv' := [(0, .ref y), (1, .int (iv x1)), (2, .int (iv y1)), (3, .int (iv v16_3)), (4, .int (iv v26_4)), (5, .int (iv z8)), (6, .long w75_6), (8, .int (iv z9)), (9, .int (iv v75_9)), (11, .int (iv v122_11)), (12, .int (iv y25))]) [1, 2, 3, 4, 5, 6, 7, 8, 9, 11, 0] rfl ?_
                            exact B171 _ ht24 trivial
                          · refine r_iload (pc := 155) dX12_trees_155 rfl ?_
                            refine r_aload_n (pc := 157) dX12_trees_157 (i := 0) rfl rfl ?_
                            refine t_getE (pc := 158) (.ref (y + 6)) ht24 hO fX12_26 dX12_trees_158 rfl ?_
                            refine r_iload (pc := 161) dX12_trees_161 rfl ?_
                            refine t_ialdR (pc := 163) (t0 := 0) ht24 hA_to dX12_trees_163 rfl (by decide) (by omega) (fun y32 by32 => ?_)
                            obtain ⟨z33, hz33, bz33⟩ := shr_x v75_9 y32 (by omega) (by omega)
                            refine r_ishr (pc := 164) (v := iv z33) dX12_trees_164 hz33 ?_
                            refine r_iconst (pc := 165) (v := iv 1) dX12_trees_165 (by decide) ?_
                            obtain ⟨z34, hz34, bz34⟩ := and_2 z33 1 (by omega) (by omega)
                            refine r_iand (pc := 166) (v := iv z34) dX12_trees_166 hz34 ?_
                            refine r_iconst (pc := 167) (v := iv 1) dX12_trees_167 (by decide) ?_
                            refine t_icmp_eq (pc := 168) (tgt := 199) dX12_trees_168 (by decide) (by omega) (by omega) (fun c168 => ?_) (fun c168 => ?_)
                            · refine Rn.pick (lv' := [(0, .ref y), (1, .int (iv x1)), (2, .int (iv y1)), (3, .int (iv v16_3)), (4, .int (iv v26_4)), (5, .int (iv z8)), (6, .long w75_6), (8, .int (iv z9)), (9, .int (iv v75_9)), (11, .int (iv v122_11))]) [1, 2, 3, 4, 5, 6, 7, 8, 9, 11] rfl ?_
                              exact B199 _ ht24 trivial
                            · refine Rn.pick (lv' := [(0, .ref y), (1, .int (iv x1)), (2, .int (iv y1)), (3, .int (iv v16_3)), (4, .int (iv v26_4)), (5, .int (iv z8)), (6, .long w75_6), (8, .int (iv z9)), (9, .int (iv v75_9)), (11, .int (iv v122_11)), (12, .int (iv y25))]) [1, 2, 3, 4, 5, 6, 7, 8, 9, 11, 0] rfl ?_
                              exact B171 _ ht24 trivial
                      refine Rn.pick (lv' := [(0, .ref y), (1, .int (iv x1)), (2, .int (iv y1)), (3, .int (iv v16_3)), (4, .int (iv v26_4)), (5, .int (iv z8)), (6, .long w75_6), (8, .int (iv z9)), (9, .int (iv v75_9)), (10, .int (iv 0)), (11, .int (iv 0))]) [2, 3, 4, 5, 6, 7, 8, 9, 10, 1, 0] rfl ?_
                      exact B122 (Int.toNat (60 - 0)) _ ht75 0 0 ⟨by omega, by omega, by omega, by omega⟩ (by omega)
            refine Rn.pick (lv' := [(0, .ref y), (1, .int (iv x1)), (2, .int (iv y1)), (3, .int (iv v16_3)), (4, .int (iv v26_4)), (5, .int (iv z8)), (6, .long x61_0), (8, .int (iv z9)), (9, .int (iv z8))]) [3, 4, 5, 6, 7, 8, 2, 1, 0] rfl ?_
            exact B75 (Int.toNat (z8)) _ ht61 z8 x61_0 ⟨by omega, by omega⟩ (by omega)
          refine t_if_ne (pc := 53) (tgt := 60) dX12_trees_53 (by decide) (by omega) (fun c53 => ?_) (fun c53 => ?_)
          · refine r_lconst (pc := 60) (v := 0) dX12_trees_60 (by decide) ?_
            refine Rn.pick (lv' := [(0, .ref y), (1, .int (iv x1)), (2, .int (iv y1)), (3, .int (iv v16_3)), (4, .int (iv v26_4)), (5, .int (iv z8))]) [1, 2, 3, 4, 5, 0] rfl ?_
            exact B61 _ ht26 (0 : Int64) trivial
          · refine r_lconst (pc := 56) (v := 1) dX12_trees_56 (by decide) ?_
            refine r_goto (pc := 57) (tgt := 61) dX12_trees_57 (by decide) ?_
            refine Rn.pick (lv' := [(0, .ref y), (1, .int (iv x1)), (2, .int (iv y1)), (3, .int (iv v16_3)), (4, .int (iv v26_4)), (5, .int (iv z8))]) [1, 2, 3, 4, 5, 0] rfl ?_
            exact B61 _ ht26 (1 : Int64) trivial
        · refine r_iinc (pc := 35) (v := iv (v26_4 + 1)) (lv' := [(4, .int (iv (v26_4 + 1))), (0, .ref y), (1, .int (iv x1)), (2, .int (iv y1)), (3, .int (iv v16_3))]) dX12_trees_35 rfl (iv_add _ _) (by decide) rfl ?_
          have hs35 : Hs v16_3 (v26_4 + 1) := Hs_step (by assumption) (by omega) (by omega)
          have hs36 := Hs_le hs35 (by omega) (by omega)
          refine r_goto (pc := 38) (tgt := 26) dX12_trees_38 (by decide) ?_
          refine Rn.pick (lv' := [(0, .ref y), (1, .int (iv x1)), (2, .int (iv y1)), (3, .int (iv v16_3)), (4, .int (iv (v26_4 + 1)))]) [1, 2, 3, 4, 0] rfl ?_
          exact ih26 (Int.toNat (16 - (v26_4 + 1))) (by omega) _ ht26 (v26_4 + 1) ⟨by omega, by omega, by assumption⟩ (by omega)
      refine Rn.pick (lv' := [(0, .ref y), (1, .int (iv x1)), (2, .int (iv y1)), (3, .int (iv v16_3)), (4, .int (iv 0))]) [1, 2, 3, 4, 0] rfl ?_
      exact B26 (Int.toNat (16 - 0)) _ ht16 0 ⟨by omega, by omega, by assumption⟩ (by omega)
  refine Rn.pick (lv' := [(0, .ref y), (1, .int (iv x1)), (2, .int (iv y1)), (3, .int (iv 1))]) [2, 3, 1, 0] rfl ?_
  exact B16 (Int.toNat (65536 - 1)) _ ht3 1 ⟨by omega, by omega⟩ (by omega)
