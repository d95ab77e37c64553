def Me (s : Int) (i : Nat) : Prop := s.toNat.testBit i = true
theorem Me_0 (i : Nat) : ¬ Me 0 i := by
  intro h
  have h1 : (0 : Nat).testBit i = true := h
  simp at h1
theorem Me_ex {s : Int} (h : 0 < s) : ∃ i, Me s i := by
  obtain ⟨i, k, e⟩ := odd_part s.toNat (by omega)
  refine ⟨i, ?_⟩
  show s.toNat.testBit i = true
  rw [e, tb_mul]; exact decide_eq_true (by omega)
theorem Me_lt {s : Int} {i : Nat} (h : Me s i) (h1 : s ≤ 65535) : i < 16 := by
  rcases Nat.lt_or_ge i 16 with h2 | h2
  · exact h2
  · exfalso
    have h3 : s.toNat < 2 ^ i := Nat.lt_of_lt_of_le (show s.toNat < 2 ^ 16 by omega) (Nat.pow_le_pow_right (by omega) h2)
    have h4 : s.toNat.testBit i = true := h
    rw [Nat.testBit_lt_two_pow h3] at h4
    cases h4
theorem and_nat {x y z : Int} (hz : iv x &&& iv y = iv z) (h0 : 0 ≤ x ∧ x ≤ 2147483647) (h1 : 0 ≤ y ∧ y ≤ 2147483647) (h2 : 0 ≤ z ∧ z ≤ 2147483647) : z.toNat = x.toNat &&& y.toNat := by
  obtain ⟨a, rfl⟩ := Int.eq_ofNat_of_zero_le h0.1
  obtain ⟨b, rfl⟩ := Int.eq_ofNat_of_zero_le h1.1
  obtain ⟨c, rfl⟩ := Int.eq_ofNat_of_zero_le h2.1
  rw [iv_and (by omega) (by omega)] at hz
  have h3 : a &&& b ≤ a := Nat.and_le_left
  have e := iv_inj hz (by omega) (by omega)
  show c = a &&& b
  omega
theorem Me_and {x y z : Int} (hz : iv x &&& iv y = iv z) (h0 : 0 ≤ x ∧ x ≤ 2147483647) (h1 : 0 ≤ y ∧ y ≤ 2147483647) (h2 : 0 ≤ z ∧ z ≤ 2147483647) (i : Nat) : Me z i ↔ Me x i ∧ Me y i := by
  unfold Me
  rw [and_nat hz h0 h1 h2, Nat.testBit_and, Bool.and_eq_true]
theorem Me_or {x y z : Int} (hz : iv x ||| iv y = iv z) (h0 : 0 ≤ x ∧ x ≤ 65535) (h1 : 0 ≤ y ∧ y ≤ 65535) (h2 : 0 ≤ z ∧ z ≤ 65535) (i : Nat) : Me z i ↔ Me x i ∨ Me y i := by
  unfold Me
  rw [or_nat hz h0 h1 h2, Nat.testBit_or, Bool.or_eq_true]
theorem Me_not {x y z : Int} (hz : iv x &&& iv (-y - 1) = iv z) (h0 : 0 ≤ x ∧ x ≤ 65535) (h1 : 0 ≤ y ∧ y ≤ 65535) (h2 : 0 ≤ z ∧ z ≤ 65535) (i : Nat) : Me z i ↔ Me x i ∧ ¬ Me y i := by
  obtain ⟨a, rfl⟩ := Int.eq_ofNat_of_zero_le h0.1
  obtain ⟨b, rfl⟩ := Int.eq_ofNat_of_zero_le h1.1
  obtain ⟨c, rfl⟩ := Int.eq_ofNat_of_zero_le h2.1
  have e1 : -(b : Int) - 1 = -((b + 1 : Nat) : Int) := by omega
  rw [e1, iv_negN (by omega) (by omega), iv_and (by omega) (by omega)] at hz
  have h3 : a &&& (2 ^ 32 - (b + 1)) ≤ a := Nat.and_le_left
  have e := iv_inj hz (by omega) (by omega)
  have e2 : a &&& (2 ^ 32 - (b + 1)) = c := by omega
  show c.testBit i = true ↔ a.testBit i = true ∧ ¬ b.testBit i = true
  have hb : b < 2 ^ 32 := by omega
  rw [← e2, Nat.testBit_and, Nat.testBit_two_pow_sub_succ hb]
  by_cases hi : i < 32
  · simp [hi]
  · have h4 : a.testBit i = false := Nat.testBit_lt_two_pow (Nat.lt_of_lt_of_le (show a < 2 ^ 32 by omega) (Nat.pow_le_pow_right (by omega) (by omega)))
    simp [h4]
theorem Me_shl (v : Nat) (i : Nat) : Me ((2 ^ v : Nat) : Int) i ↔ i = v := by
  show (2 ^ v : Nat).testBit i = true ↔ i = v
  rw [Nat.testBit_two_pow]
  constructor
  · intro h; have : v = i := by simpa using h
    omega
  · intro h; subst h; simp
theorem Me_bit {x y : Int} : ((x.toNat >>> y.toNat : Nat) : Int) % 2 ≠ 0 ↔ Me x y.toNat := by
  unfold Me
  rw [Nat.testBit_eq_decide_div_mod_eq, ← Nat.shiftRight_eq_div_pow]
  constructor
  · intro h; exact decide_eq_true (by omega)
  · intro h; have := of_decide_eq_true h; omega
theorem Me_ext {x y : Int} (h0 : 0 ≤ x) (h1 : 0 ≤ y) (h : ∀ i, Me x i ↔ Me y i) : x = y := by
  have e : x.toNat = y.toNat := Nat.eq_of_testBit_eq (fun i => by
    have h2 := h i
    unfold Me at h2
    cases hx : x.toNat.testBit i <;> cases hy : y.toNat.testBit i <;> simp_all)
  omega
def bcn (s : Int) : Nat → Nat
  | 0 => 0
  | k + 1 => bcn s k + (if s.toNat.testBit k = true then 1 else 0)
theorem bcn_le (s : Int) : ∀ k, bcn s k ≤ k := by
  intro k
  induction k with
  | zero => exact Nat.le_refl _
  | succ k ih => show bcn s k + _ ≤ k + 1; split <;> omega
theorem bcn_mono {s t : Int} (h : ∀ i, Me s i → Me t i) : ∀ k, bcn s k ≤ bcn t k := by
  intro k
  induction k with
  | zero => exact Nat.le_refl _
  | succ k ih =>
    show bcn s k + (if s.toNat.testBit k = true then 1 else 0) ≤ bcn t k + (if t.toNat.testBit k = true then 1 else 0)
    by_cases h1 : s.toNat.testBit k = true
    · rw [if_pos h1, if_pos (show t.toNat.testBit k = true from h k h1)]; omega
    · rw [if_neg h1]; omega
theorem bcn_lt {s t : Int} (h : ∀ i, Me s i → Me t i) {j : Nat} (hj : Me t j) (hn : ¬ Me s j) : ∀ k, j < k → bcn s k + 1 ≤ bcn t k := by
  intro k
  induction k with
  | zero => intro h1; omega
  | succ k ih =>
    intro h1
    show bcn s k + (if s.toNat.testBit k = true then 1 else 0) + 1 ≤ bcn t k + (if t.toNat.testBit k = true then 1 else 0)
    by_cases h2 : j = k
    · subst h2
      have h3 := bcn_mono h j
      rw [if_neg (show ¬ s.toNat.testBit j = true from hn), if_pos (show t.toNat.testBit j = true from hj)]; omega
    · have h3 := ih (by omega)
      by_cases h4 : s.toNat.testBit k = true
      · rw [if_pos h4, if_pos (show t.toNat.testBit k = true from h k h4)]; omega
      · rw [if_neg h4]; omega
def spQ (Nx : Nat → Int) (s f k : Int) : Prop := ∀ j : Nat, Me f j ↔ ∃ v : Nat, (v : Int) < k ∧ Me s v ∧ Me (Nx v) j
theorem spQ_0 (Nx : Nat → Int) (s : Int) : spQ Nx s 0 0 := by
  intro j
  constructor
  · intro h; exact absurd h (Me_0 j)
  · rintro ⟨v, h1, -⟩; omega
theorem spQ_no {Nx : Nat → Int} {s f k : Int} (h : spQ Nx s f k) (h0 : 0 ≤ k) (hn : ¬ Me s k.toNat) : spQ Nx s f (k + 1) := by
  intro j
  rw [h j]
  constructor
  · rintro ⟨v, h1, h2, h3⟩; exact ⟨v, by omega, h2, h3⟩
  · rintro ⟨v, h1, h2, h3⟩
    refine ⟨v, ?_, h2, h3⟩
    have h4 : v ≠ k.toNat := fun e => hn (e ▸ h2)
    omega
theorem spQ_yes {Nx : Nat → Int} {s f f1 k : Int} (h : spQ Nx s f k) (h0 : 0 ≤ k) (hy : Me s k.toNat) (hf : ∀ j, Me f1 j ↔ Me f j ∨ Me (Nx k.toNat) j) : spQ Nx s f1 (k + 1) := by
  intro j
  rw [hf j, h j]
  constructor
  · rintro (⟨v, h1, h2, h3⟩ | h1)
    · exact ⟨v, by omega, h2, h3⟩
    · exact ⟨k.toNat, by omega, hy, h1⟩
  · rintro ⟨v, h1, h2, h3⟩
    by_cases e : v = k.toNat
    · right; rw [← e]; exact h3
    · left; exact ⟨v, by omega, h2, h3⟩
def clP (Nx : Nat → Int) (L : Nat) (w : Int) (C : Nat → Prop) : Prop := ∀ i j : Nat, i < L → C i → Me (Nx i) j → Me w j → C j
def reP (Nx : Nat → Int) (L : Nat) (s w seen edge r : Int) : Prop := (∀ i, Me edge i → Me seen i) ∧ (∀ i, Me seen i → Me w i) ∧ (∀ i, Me s i → Me w i → Me seen i) ∧ (∀ i j : Nat, i < L → Me seen i → ¬ Me edge i → Me (Nx i) j → Me w j → Me seen j) ∧ (∀ C : Nat → Prop, (∀ i, Me s i → Me w i → C i) → clP Nx L w C → ∀ i, Me seen i → C i) ∧ (0 < edge → r + 1 ≤ (bcn seen 16 : Int))
def rxP (Nx : Nat → Int) (L : Nat) (s w E : Int) : Prop := (∀ i, Me E i → Me w i) ∧ (∀ i, Me s i → Me w i → Me E i) ∧ clP Nx L w (Me E) ∧ (∀ C : Nat → Prop, (∀ i, Me s i → Me w i → C i) → clP Nx L w C → ∀ i, Me E i → C i)
theorem re_0 {Nx : Nat → Int} {L : Nat} {s w z : Int} (hz : ∀ i, Me z i ↔ Me s i ∧ Me w i) (h0 : 0 ≤ z ∧ z ≤ 65535) : reP Nx L s w z z 0 := by
  refine ⟨fun i h => h, fun i h => ((hz i).mp h).2, fun i h1 h2 => (hz i).mpr ⟨h1, h2⟩, fun i j _ h1 h2 => absurd h1 h2, fun C h1 _ i h3 => h1 i ((hz i).mp h3).1 ((hz i).mp h3).2, fun h => ?_⟩
  obtain ⟨i, hi⟩ := Me_ex h
  have h1 := bcn_lt (s := 0) (t := z) (fun i h => absurd h (Me_0 i)) hi (Me_0 i) 16 (Me_lt hi h0.2)
  omega
theorem re_st {Nx : Nat → Int} {L : Nat} {s w seen edge r f e1 s1 : Int} (h : reP Nx L s w seen edge r) (hf : spQ Nx edge f (L : Int)) (he : ∀ i, Me e1 i ↔ (Me f i ∧ Me w i) ∧ ¬ Me seen i) (hs : ∀ i, Me s1 i ↔ Me seen i ∨ Me e1 i) (h0 : 0 ≤ e1 ∧ e1 ≤ 65535) (hr : 0 < edge) : reP Nx L s w s1 e1 (r + 1) := by
  obtain ⟨a1, a2, a3, a4, a5, a6⟩ := h
  refine ⟨fun i hi => (hs i).mpr (Or.inr hi), fun i hi => ?_, fun i h1 h2 => (hs i).mpr (Or.inl (a3 i h1 h2)), fun i j hL h1 h2 h3 h4 => ?_, fun C h1 h2 i h3 => ?_, fun h1 => ?_⟩
  · rcases (hs i).mp hi with q | q
    · exact a2 i q
    · exact ((he i).mp q).1.2
  · have h5 : Me seen i := by
      rcases (hs i).mp h1 with q | q
      · exact q
      · exact absurd q h2
    refine (hs j).mpr ?_
    by_cases h6 : Me seen j
    · exact Or.inl h6
    · right
      refine (he j).mpr ⟨⟨?_, h4⟩, h6⟩
      by_cases h7 : Me edge i
      · exact (hf j).mpr ⟨i, by omega, h7, h3⟩
      · exact absurd (a4 i j hL h5 h7 h3 h4) h6
  · rcases (hs i).mp h3 with q | q
    · exact a5 C h1 h2 i q
    · obtain ⟨⟨q1, q2⟩, -⟩ := (he i).mp q
      obtain ⟨v, q3, q4, q5⟩ := (hf i).mp q1
      exact h2 v i (by omega) (a5 C h1 h2 v (a1 v q4)) q5 q2
  · obtain ⟨i, hi⟩ := Me_ex h1
    have h2 := bcn_lt (s := seen) (t := s1) (fun i h => (hs i).mpr (Or.inl h)) ((hs i).mpr (Or.inr hi)) ((he i).mp hi).2 16 (Me_lt hi h0.2)
    have h3 := a6 hr
    omega
theorem re_end {Nx : Nat → Int} {L : Nat} {s w seen edge r : Int} (h : reP Nx L s w seen edge r) (h0 : 0 ≤ edge) (he : edge = 0 ∨ 16 ≤ r) : rxP Nx L s w seen := by
  obtain ⟨a1, a2, a3, a4, a5, a6⟩ := h
  have h1 : edge = 0 := by
    rcases he with q | q
    · exact q
    · by_cases h2 : 0 < edge
      · have h3 := a6 h2
        have h4 := bcn_le seen 16
        omega
      · omega
  subst h1
  exact ⟨a2, a3, fun i j hL q1 q2 q3 => a4 i j hL q1 (Me_0 i) q2 q3, a5⟩
set_option maxHeartbeats 4000000 in
set_option maxRecDepth 100000 in
theorem t_X8_spreadx {D : va_G} {cI cJ cZ cT : ClassId} {lo b L : Nat} {xs : Nat → Int32} {hp : MH} {n d : Nat} {Γ : TG} {rA rL : Nat} {Nx : Nat → Int} {x1 : Int} (hd0 : 0 ≤ d) (hrA : rd Γ rA (xI cI rL Nx)) (hrR : Rfx rL 0 65535 Nx) (hrL : rL ≤ 16) (ht : Tw Γ hp) (hx1 : 0 ≤ x1 ∧ x1 ≤ 65535) : Mt (gG D cI cJ cZ cT lo b L xs) mX8_spread d 0 0 [.ref rA, .int (iv x1)] hp n (pI Γ n (fun r => (0 ≤ r ∧ r ≤ 65535) ∧ spQ Nx x1 r (rL : Int))) := by
  refine Mt.of rfl (Nat.le_of_ble_eq_true rfl) ?_
  refine Rn.pick (lv' := [(0, .ref rA), (1, .int (iv x1))]) [0, 1] rfl ?_
  have hs0 : spQ Nx x1 0 0 := spQ_0 _ _
  refine r_iconst (pc := 0) (v := iv 0) dX8_spread_0 (by decide) ?_
  refine r_istore_n (pc := 1) (lv' := [(2, .int (iv 0)), (0, .ref rA), (1, .int (iv x1))]) dX8_spread_1 (i := 2) rfl (by decide) rfl ?_
  refine r_iconst (pc := 2) (v := iv 0) dX8_spread_2 (by decide) ?_
  refine r_istore_n (pc := 3) (lv' := [(3, .int (iv 0)), (2, .int (iv 0)), (0, .ref rA), (1, .int (iv x1))]) dX8_spread_3 (i := 3) rfl (by decide) rfl ?_
  have B4 : ∀ k : Nat, ∀ hp4 : MH, Tw Γ hp4 → ∀  (v4_2 : Int) (v4_3 : Int), 0 ≤ v4_2 ∧ v4_2 ≤ 65535 ∧ 0 ≤ v4_3 ∧ v4_3 ≤ 16 ∧ spQ Nx x1 v4_2 v4_3 ∧ v4_3 ≤ (rL : Int) → 16 - v4_3 ≤ (k : Int) → Rn (gG D cI cJ cZ cT lo b L xs) mX8_spread d 4 [(0, .ref rA), (1, .int (iv x1)), (2, .int (iv v4_2)), (3, .int (iv v4_3))] [] hp4 n 0 0 (pI Γ n (fun r => (0 ≤ r ∧ r ≤ 65535) ∧ spQ Nx x1 r (rL : Int))) := by
    refine lpS _ ?_
    intro k4 ih4 hp4 ht4 v4_2 v4_3 hf4 hm4
    obtain ⟨hf4_0, hf4_1, hf4_2, hf4_3, ha4_4, hf4_5⟩ := hf4
    refine r_iload_n (pc := 4) dX8_spread_4 (i := 3) rfl rfl ?_
    refine r_aload_n (pc := 5) dX8_spread_5 (i := 0) rfl rfl ?_
    refine t_lenI (pc := 6) (t0 := 0) ht4 hrA dX8_spread_6 rfl ?_
    refine t_icmp_ge (pc := 7) (tgt := 30) dX8_spread_7 (by decide) (by omega) (by omega) (fun c7 => ?_) (fun c7 => ?_)
    · refine r_iload_n (pc := 30) dX8_spread_30 (i := 2) rfl rfl ?_
      exact r_iret (pc := 31) dX8_spread_31 rfl ⟨rfl, ht4, _, rfl, by omega, by have e9 : v4_3 = (rL : Int) := (by omega); rw [← e9]; assumption⟩
    · refine r_iload_n (pc := 10) dX8_spread_10 (i := 1) rfl rfl ?_
      refine r_iload_n (pc := 11) dX8_spread_11 (i := 3) rfl rfl ?_
      have hq12 := shr_le (Int.toNat x1) (Int.toNat v4_3)
      refine r_ishr (pc := 12) (v := iv ((Int.toNat x1 >>> Int.toNat v4_3 : Nat) : Int)) dX8_spread_12 (shr_e (by omega) (by omega)) ?_
      refine r_iconst (pc := 13) (v := iv 1) dX8_spread_13 (by decide) ?_
      refine r_iand (pc := 14) (v := iv (((Int.toNat x1 >>> Int.toNat v4_3 : Nat) : Int) % 2)) dX8_spread_14 (and1_e _ (by omega)) ?_
      have B24 : ∀ hp24 : MH, Tw Γ hp24 → ∀  (v24_2 : Int), 0 ≤ v24_2 ∧ v24_2 ≤ 65535 ∧ v4_2 ≤ v24_2 ∧ spQ Nx x1 v24_2 (v4_3 + 1) → Rn (gG D cI cJ cZ cT lo b L xs) mX8_spread d 24 [(0, .ref rA), (1, .int (iv x1)), (2, .int (iv v24_2)), (3, .int (iv v4_3))] [] hp24 n 0 0 (pI Γ n (fun r => (0 ≤ r ∧ r ≤ 65535) ∧ spQ Nx x1 r (rL : Int))) := by
        intro hp24 ht24 v24_2 hf24
        obtain ⟨hf24_0, hf24_1, hf24_2, ha24_3⟩ := hf24
        refine r_iinc (pc := 24) (v := iv (v4_3 + 1)) (lv' := [(3, .int (iv (v4_3 + 1))), (0, .ref rA), (1, .int (iv x1)), (2, .int (iv v24_2))]) dX8_spread_24 rfl (iv_add _ _) (by decide) rfl ?_
        refine r_goto (pc := 27) (tgt := 4) dX8_spread_27 (by decide) ?_
        refine Rn.pick (lv' := [(0, .ref rA), (1, .int (iv x1)), (2, .int (iv v24_2)), (3, .int (iv (v4_3 + 1)))]) [1, 2, 3, 0] rfl ?_
        exact ih4 (Int.toNat (16 - (v4_3 + 1))) (by omega) _ ht24 v24_2 (v4_3 + 1) ⟨by omega, by omega, by omega, by omega, by assumption, by omega⟩ (by omega)
      refine t_if_eq (pc := 15) (tgt := 24) dX8_spread_15 (by decide) (by omega) (fun c15 => ?_) (fun c15 => ?_)
      · refine Rn.pick (lv' := [(0, .ref rA), (1, .int (iv x1)), (2, .int (iv v4_2)), (3, .int (iv v4_3))]) [0, 1, 2, 3] rfl ?_
        exact B24 _ ht4 v4_2 ⟨by omega, by omega, by omega, by (first | assumption | exact spQ_no (by assumption) (by omega) (fun h9 => absurd (Me_bit.mpr h9) (by omega)))⟩
      · refine r_iload_n (pc := 18) dX8_spread_18 (i := 2) rfl rfl ?_
        refine r_aload_n (pc := 19) dX8_spread_19 (i := 0) rfl rfl ?_
        refine r_iload_n (pc := 20) dX8_spread_20 (i := 3) rfl rfl ?_
        refine t_ialdX (pc := 21) (t0 := 0) ht4 hrA dX8_spread_21 rfl (by omega) (by omega) (fun b1 => ?_)
        have rb1 := (show Rfx rL 0 65535 Nx by assumption) (Int.toNat v4_3) (by omega)
        obtain ⟨z2, hz2, bz2⟩ := or_2 16 v4_2 (Nx (Int.toNat v4_3)) (by omega) (by omega) (by decide)
        refine r_ior (pc := 22) (v := iv z2) dX8_spread_22 hz2 ?_
        have hsp : spQ Nx x1 z2 (v4_3 + 1) := spQ_yes (by assumption) (by omega) (Me_bit.mp (by omega)) (Me_or hz2 (by omega) (by omega) (by omega))
        refine r_istore_n (pc := 23) (lv' := [(2, .int (iv z2)), (0, .ref rA), (1, .int (iv x1)), (3, .int (iv v4_3))]) dX8_spread_23 (i := 2) rfl (by decide) rfl ?_
        refine Rn.pick (lv' := [(0, .ref rA), (1, .int (iv x1)), (2, .int (iv z2)), (3, .int (iv v4_3))]) [1, 2, 0, 3] rfl ?_
        exact B24 _ ht4 z2 ⟨by omega, by omega, by omega, by (first | assumption | exact spQ_no (by assumption) (by omega) (fun h9 => absurd (Me_bit.mpr h9) (by omega)))⟩
  refine Rn.pick (lv' := [(0, .ref rA), (1, .int (iv x1)), (2, .int (iv 0)), (3, .int (iv 0))]) [2, 3, 1, 0] rfl ?_
  exact B4 (Int.toNat (16 - 0)) _ ht 0 0 ⟨by omega, by omega, by omega, by omega, by assumption, by omega⟩ (by omega)
set_option maxHeartbeats 4000000 in
set_option maxRecDepth 100000 in
theorem t_X8_reachx {D : va_G} {cI cJ cZ cT : ClassId} {lo b L : Nat} {xs : Nat → Int32} {hp : MH} {n d : Nat} {Γ : TG} {rA rL : Nat} {Nx : Nat → Int} {x1 x2 : Int} (hd0 : 1 ≤ d) (hrA : rd Γ rA (xI cI rL Nx)) (hrR : Rfx rL 0 65535 Nx) (hrL : rL ≤ 16) (ht : Tw Γ hp) (hx1 : 0 ≤ x1 ∧ x1 ≤ 65535) (hx2 : 0 ≤ x2 ∧ x2 ≤ 65535) : Mt (gG D cI cJ cZ cT lo b L xs) mX8_reach d 0 0 [.ref rA, .int (iv x1), .int (iv x2)] hp n (pI Γ n (fun r => (0 ≤ r ∧ r ≤ 65535) ∧ rxP Nx rL x1 x2 r)) := by
  refine Mt.of rfl (Nat.le_of_ble_eq_true rfl) ?_
  refine Rn.pick (lv' := [(0, .ref rA), (1, .int (iv x1)), (2, .int (iv x2))]) [0, 1, 2] rfl ?_
  refine r_iload_n (pc := 0) dX8_reach_0 (i := 1) rfl rfl ?_
  refine r_iload_n (pc := 1) dX8_reach_1 (i := 2) rfl rfl ?_
  obtain ⟨z1, hz1, bz1⟩ := and_2 x1 x2 (by omega) (by omega)
  refine r_iand (pc := 2) (v := iv z1) dX8_reach_2 hz1 ?_
  have hre0 : reP Nx rL x1 x2 z1 z1 0 := re_0 (Me_and hz1 (by omega) (by omega) (by omega)) (by omega)
  refine r_istore_n (pc := 3) (lv' := [(3, .int (iv z1)), (0, .ref rA), (1, .int (iv x1)), (2, .int (iv x2))]) dX8_reach_3 (i := 3) rfl (by decide) rfl ?_
  refine r_iload_n (pc := 4) dX8_reach_4 (i := 3) rfl rfl ?_
  refine r_istore (pc := 5) (lv' := [(4, .int (iv z1)), (3, .int (iv z1)), (0, .ref rA), (1, .int (iv x1)), (2, .int (iv x2))]) dX8_reach_5 (by decide) rfl ?_
  refine r_iconst (pc := 7) (v := iv 0) dX8_reach_7 (by decide) ?_
  refine r_istore (pc := 8) (lv' := [(5, .int (iv 0)), (4, .int (iv z1)), (3, .int (iv z1)), (0, .ref rA), (1, .int (iv x1)), (2, .int (iv x2))]) dX8_reach_8 (by decide) rfl ?_
  have B10 : ∀ k : Nat, ∀ hp10 : MH, Tw Γ hp10 → ∀  (v10_3 : Int) (v10_4 : Int) (v10_5 : Int), 0 ≤ v10_3 ∧ v10_3 ≤ 65535 ∧ z1 ≤ v10_3 ∧ 0 ≤ v10_4 ∧ v10_4 ≤ 65535 ∧ 0 ≤ v10_5 ∧ v10_5 ≤ 16 ∧ reP Nx rL x1 x2 v10_3 v10_4 v10_5 → 16 - v10_5 ≤ (k : Int) → Rn (gG D cI cJ cZ cT lo b L xs) mX8_reach d 10 [(0, .ref rA), (2, .int (iv x2)), (3, .int (iv v10_3)), (4, .int (iv v10_4)), (5, .int (iv v10_5))] [] hp10 n 0 0 (pI Γ n (fun r => (0 ≤ r ∧ r ≤ 65535) ∧ rxP Nx rL x1 x2 r)) := by
    refine lpS _ ?_
    intro k10 ih10 hp10 ht10 v10_3 v10_4 v10_5 hf10 hm10
    obtain ⟨hf10_0, hf10_1, hf10_2, hf10_3, hf10_4, hf10_5, hf10_6, ha10_7⟩ := hf10
    refine r_iload (pc := 10) dX8_reach_10 rfl ?_
    refine r_bipush (pc := 12) (v := iv 16) dX8_reach_12 (by decide) ?_
    have B47 : ∀ hp47 : MH, Tw Γ hp47 → rxP Nx rL x1 x2 v10_3 → Rn (gG D cI cJ cZ cT lo b L xs) mX8_reach d 47 [(3, .int (iv v10_3))] [] hp47 n 0 0 (pI Γ n (fun r => (0 ≤ r ∧ r ≤ 65535) ∧ rxP Nx rL x1 x2 r)) := by
      intro hp47 ht47 hf47
      have ha47_0 := hf47
      refine r_iload_n (pc := 47) dX8_reach_47 (i := 3) rfl rfl ?_
      exact r_iret (pc := 48) dX8_reach_48 rfl ⟨rfl, ht47, _, rfl, by omega, by assumption⟩
    refine t_icmp_ge (pc := 14) (tgt := 47) dX8_reach_14 (by decide) (by omega) (by omega) (fun c14 => ?_) (fun c14 => ?_)
    · refine Rn.pick (lv' := [(3, .int (iv v10_3))]) [2] rfl ?_
      exact B47 _ ht10 (by (exact re_end (by assumption) (by omega) (by omega)))
    · refine r_iload (pc := 17) dX8_reach_17 rfl ?_
      refine t_if_eq (pc := 19) (tgt := 47) dX8_reach_19 (by decide) (by omega) (fun c19 => ?_) (fun c19 => ?_)
      · refine Rn.pick (lv' := [(3, .int (iv v10_3))]) [2] rfl ?_
        exact B47 _ ht10 (by (exact re_end (by assumption) (by omega) (by omega)))
      · refine r_aload_n (pc := 22) dX8_reach_22 (i := 0) rfl rfl ?_
        refine r_iload (pc := 23) dX8_reach_23 rfl ?_
        refine t_callSI (pc := 25) (as := [.ref rA, .int (iv v10_4)]) (st := []) kX8_21 dX8_reach_25 (t_X8_spreadx (d := d - 1) (Nx := Nx) (x1 := v10_4) (by omega) hrA hrR hrL ht10 (by omega)) rfl (by omega) (Nat.le_of_ble_eq_true rfl) rfl (fun hp3 y2 ht4 by2 => ?_)
        obtain ⟨by21, hsy2⟩ := by2
        refine r_iload_n (pc := 28) dX8_reach_28 (i := 2) rfl rfl ?_
        obtain ⟨z5, hz5, bz5⟩ := and_2 y2 x2 (by omega) (by omega)
        refine r_iand (pc := 29) (v := iv z5) dX8_reach_29 hz5 ?_
        refine r_iload_n (pc := 30) dX8_reach_30 (i := 3) rfl rfl ?_
        refine r_iconst (pc := 31) (v := iv (-1)) dX8_reach_31 (by decide) ?_
        refine r_ixor (pc := 32) (v := iv (-v10_3 - 1)) dX8_reach_32 (iv_not _) ?_
        obtain ⟨z6, hz6, bz6⟩ := and_l z5 (-v10_3 - 1) (by omega) (by omega)
        refine r_iand (pc := 33) (v := iv z6) dX8_reach_33 hz6 ?_
        refine r_istore (pc := 34) (lv' := [(4, .int (iv z6)), (0, .ref rA), (2, .int (iv x2)), (3, .int (iv v10_3)), (5, .int (iv v10_5))]) dX8_reach_34 (by decide) rfl ?_
        refine r_iload_n (pc := 36) dX8_reach_36 (i := 3) rfl rfl ?_
        refine r_iload (pc := 37) dX8_reach_37 rfl ?_
        obtain ⟨z7, hz7, bz7⟩ := or_2 16 v10_3 z6 (by omega) (by omega) (by decide)
        refine r_ior (pc := 39) (v := iv z7) dX8_reach_39 hz7 ?_
        have hrez7 : reP Nx rL x1 x2 z7 z6 (v10_5 + 1) := re_st (by assumption) hsy2 (fun i => by rw [Me_not hz6 (by omega) (by omega) (by omega) i, Me_and hz5 (by omega) (by omega) (by omega) i]) (Me_or hz7 (by omega) (by omega) (by omega)) (by omega) (by omega)
        refine r_istore_n (pc := 40) (lv' := [(3, .int (iv z7)), (4, .int (iv z6)), (0, .ref rA), (2, .int (iv x2)), (5, .int (iv v10_5))]) dX8_reach_40 (i := 3) rfl (by decide) rfl ?_
        refine r_iinc (pc := 41) (v := iv (v10_5 + 1)) (lv' := [(5, .int (iv (v10_5 + 1))), (3, .int (iv z7)), (4, .int (iv z6)), (0, .ref rA), (2, .int (iv x2))]) dX8_reach_41 rfl (iv_add _ _) (by decide) rfl ?_
        refine r_goto (pc := 44) (tgt := 10) dX8_reach_44 (by decide) ?_
        refine Rn.pick (lv' := [(0, .ref rA), (2, .int (iv x2)), (3, .int (iv z7)), (4, .int (iv z6)), (5, .int (iv (v10_5 + 1)))]) [3, 4, 1, 2, 0] rfl ?_
        exact ih10 (Int.toNat (16 - (v10_5 + 1))) (by omega) _ ht4 z7 z6 (v10_5 + 1) ⟨by omega, by omega, by omega, by omega, by omega, by omega, by omega, by assumption⟩ (by omega)
  refine Rn.pick (lv' := [(0, .ref rA), (2, .int (iv x2)), (3, .int (iv z1)), (4, .int (iv z1)), (5, .int (iv 0))]) [3, 5, 2, 1, 0] rfl ?_
  exact B10 (Int.toNat (16 - 0)) _ ht z1 z1 0 ⟨by omega, by omega, by omega, by omega, by omega, by omega, by omega, by assumption⟩ (by omega)
