def bsP (N : Nat) : Nat → Int → Prop := fun i v => 0 ≤ v ∧ v ≤ 15 ∧ ((i : Int) < (N : Int) → v < (N : Int)) ∧ ((N : Int) ≤ (i : Int) → v = (i : Int))
def quP (N : Nat) (W : Int) : Nat → Int → Prop := fun i v => 0 ≤ v ∧ v ≤ 15 ∧ ((i : Int) < W → v < (N : Int))
def Qn (N : Nat) (Q : Nat → Int) (W : Int) : Prop := ∀ i : Nat, i < 16 → 0 ≤ Q i ∧ Q i ≤ 15 ∧ ((i : Int) < W → Q i < (N : Int))
theorem Qn_up {N : Nat} {Q : Nat → Int} {W v : Int} (h : Qn N Q W) (hW : 0 ≤ W) (hv : 0 ≤ v ∧ v ≤ 15 ∧ v < (N : Int)) : Qn N (fup Q W.toNat v) (W + 1) := by
  intro i hi
  by_cases e : i = W.toNat
  · subst e; rw [fup_s]; exact ⟨hv.1, hv.2.1, fun _ => hv.2.2⟩
  · rw [fup_o _ _ e]
    obtain ⟨h1, h2, h3⟩ := h i hi
    exact ⟨h1, h2, fun h4 => h3 (by omega)⟩
theorem Tw.reI {Γ : TG} {hp : MH} {a L : Nat} {cA : ClassId} {P : Nat → Int → Prop} {f : Nat → Int} (ht : Tw (ov Γ a (xI cA L f)) hp) (hf : ∀ i, i < L → P i (f i)) : Tw (ov Γ a (tI cA L P)) hp := by
  have h : Tw (ov (ov Γ a (tI cA L P)) a (xI cA L f)) hp := by rw [ov_ov]; exact ht
  exact Tw.closeI h (ov_s _ _ _) hf
theorem Tw.unI {Γ : TG} {hp : MH} {a L : Nat} {cA : ClassId} {P : Nat → Int → Prop} (ht : Tw (ov Γ a (tI cA L P)) hp) : ∃ f : Nat → Int, (∀ i, i < L → P i (f i) ∧ -2147483648 ≤ f i ∧ f i ≤ 2147483647) ∧ Tw (ov Γ a (xI cA L f)) hp := by
  obtain ⟨f, h1, h2⟩ := ht.openI (rd_of (ov_s _ _ _))
  rw [ov_ov] at h2
  exact ⟨f, h1, h2⟩
abbrev prF (s : Nat) (W : Int) : List (Value → Prop) := [fE (.ref (s + 1)), fE (.ref (s + 2)), fE (.ref (s + 3)), fE (.ref (s + 4)), fE (.int (iv W)), fI 0 65535]
abbrev psN (Γ : TG) (cI : ClassId) (s N : Nat) (W : Int) : TG := ov (ov Γ s (tO 4 (prF s W))) (s + 4) (tI cI 16 (quP N W))
def pQ (Γ : TG) (cI : ClassId) (s N n : Nat) (W : Int) (Rr : Option Value → Prop) : Option Value → MH → Nat → Prop := fun r hp1 n1 => n1 = n ∧ (∃ W1 : Int, W ≤ W1 ∧ W1 ≤ 16 ∧ Tw (psN Γ cI s N W1) hp1) ∧ Rr r
theorem shl_N {N : Nat} {v : Int} (h : 0 ≤ v ∧ v < (N : Int)) (hN : N ≤ 16) : ∃ z : Int, iv 1 <<< (iv v &&& 31) = iv z ∧ 1 ≤ z ∧ z ≤ 32768 ∧ z < 2 ^ N := by
  refine ⟨((2 ^ v.toNat : Nat) : Int), shl_e (by omega), ?_⟩
  have h1 := pow_b 15 (v := v) (by omega)
  have h2 : ((2 ^ 15 : Nat) : Int) = 32768 := by decide
  have h3 : 2 ^ v.toNat < 2 ^ N := Nat.pow_lt_pow_right (by omega) (by omega)
  refine ⟨h1.1, by omega, ?_⟩
  have h4 : ((2 ^ v.toNat : Nat) : Int) < ((2 ^ N : Nat) : Int) := by omega
  have h5 : ((2 ^ N : Nat) : Int) = (2 : Int) ^ N := by push_cast; rfl
  rw [h5] at h4
  exact h4
theorem or_N {N : Nat} {x y : Int} (hN : N ≤ 16) (h0 : 0 ≤ x ∧ 0 ≤ y) (h1 : x < 2 ^ N ∧ y < 2 ^ N) : ∃ z : Int, iv x ||| iv y = iv z ∧ 0 ≤ z ∧ z ≤ 65535 ∧ z < 2 ^ N := by
  obtain ⟨z, h2, h3, h4, h5⟩ := or_2 N x y h0 h1 (by omega)
  refine ⟨z, h2, by omega, ?_, h5⟩
  have h6 : (2 : Int) ^ N ≤ 2 ^ 16 := by
    have h7 : 2 ^ N ≤ 2 ^ 16 := Nat.pow_le_pow_right (by omega) hN
    have h8 : ((2 ^ N : Nat) : Int) = (2 : Int) ^ N := by push_cast; rfl
    rw [← h8]
    have h9 : ((2 ^ 16 : Nat) : Int) = (2 : Int) ^ 16 := by decide
    rw [← h9]
    omega
  have h9 : (2 : Int) ^ 16 = 65536 := by decide
  omega
theorem bit_N {N : Nat} {r b : Int} (h0 : 0 ≤ r) (h1 : r < 2 ^ N) (hb : 0 ≤ b) (h2 : ((r.toNat >>> b.toNat : Nat) : Int) % 2 ≠ 0) : b < (N : Int) := by
  rcases Nat.lt_or_ge b.toNat N with h | h
  · omega
  · exfalso
    have e : r.toNat >>> b.toNat = 0 := by
      rw [Nat.shiftRight_eq_div_pow]
      apply Nat.div_eq_of_lt
      have h3 : r.toNat < 2 ^ N := by
        have h8 : ((2 ^ N : Nat) : Int) = (2 : Int) ^ N := by push_cast; rfl
        rw [← h8] at h1
        omega
      exact Nat.lt_of_lt_of_le h3 (Nat.pow_le_pow_right (by omega) h)
    rw [e] at h2
    simp at h2
def Bi (B : Nat → Int) (k : Int) : Prop := ∀ i : Nat, (i : Int) < k → B i = (i : Int)
theorem Bi_up {B : Nat → Int} {k : Int} (h : Bi B k) (h0 : 0 ≤ k) : Bi (fup B k.toNat k) (k + 1) := by
  intro i hi
  by_cases e : i = k.toNat
  · subst e; rw [fup_s]; omega
  · rw [fup_o _ _ e]; exact h i (by omega)
theorem Tw.cast {Γ : TG} {hp : MH} {a : Nat} {T T1 : va_E → Prop} (ht : Tw Γ hp) (h : Γ a = some T) (h1 : ∀ e, T e → T1 e) : Tw (ov Γ a T1) hp := by
  obtain ⟨e, h2, h3⟩ := ht a T h
  exact ht.up h2 (h1 e h3) (fun _ _ => rfl)
theorem tI_imp {cA : ClassId} {L : Nat} {P P1 : Nat → Int → Prop} (h : ∀ i v, i < L → P i v → P1 i v) (e : va_E) (he : tI cA L P e) : tI cA L P1 e := by
  obtain ⟨f, h1, h2⟩ := he
  exact ⟨f, h1, fun i hi => h i _ hi (h2 i hi)⟩
abbrev prR (s : Nat) : List (Value → Prop) := [fE (.ref (s + 1)), fE (.ref (s + 2)), fE (.ref (s + 3)), fE (.ref (s + 4)), fI 0 16, fI 0 65535]
theorem prClose {Γ : TG} {cI : ClassId} {s N : Nat} {W : Int} {P2 : va_E → Prop} {hp : MH} (ht : Tw (psN (ov (ov Γ (s + 2) P2) (s + 3) (tI cI 16 (bsP N))) cI s N W) hp) (hO : Γ s = some (tO 4 (prR s))) (hb : Γ (s + 3) = some (tI cI 16 (rg 0 15))) (hq : Γ (s + 4) = some (tI cI 16 (rg 0 15))) (hW : 0 ≤ W ∧ W ≤ 16) : Tw (ov Γ (s + 2) P2) hp := by
  have h1 := Tw.weak ht (T := tI cI 16 (rg 0 15)) (eq_ov (by omega) (eq_ov (by omega) (eq_ov (by omega) hq))) (tI_imp (fun i v _ h => ⟨h.1, h.2.1⟩))
  have h2 := Tw.weak h1 (T := tO 4 (prR s)) (eq_ov (by omega) (eq_ov (by omega) hO)) (fun e he => tO_close (k := 4) (Fs := prR s) (w := .int (iv W)) rfl ⟨W, rfl, hW.1, hW.2⟩ e he)
  exact Tw.weak h2 (T := tI cI 16 (rg 0 15)) (eq_ov (by omega) hb) (tI_imp (fun i v _ h => ⟨h.1, h.2.1⟩))
theorem t_fillS {D : va_G} {cI cJ cZ cT : ClassId} {lo b L : Nat} {xs : Nat → Int32} {M : MM} {d pc : Nat} {lv : List (Nat × Value)} {st : List Value} {hp : MH} {n kr wr : Nat} {Po : Option Value → MH → Nat → Prop} {Γ : TG} {ix a N : Nat} {x l1 h1 : Int} {P : Nat → Int → Prop} (ht : Tw Γ hp) (hΓ : Γ a = some (tI cI N P)) (F : lkK (gG D cI cJ cZ cT lo b L xs) M.1.cls ix mJ7_fill_53178 2 ∧ Cond.static mJ7_fill_53178.1 ∈ g_ws (gG D cI cJ cZ cT lo b L xs)) (hd : decode M.2.1 pc = .ok (.invokestatic ix, 3)) (hN : N < 2 ^ 31) (hb : -2147483648 ≤ x ∧ x ≤ 2147483647) (hx : l1 ≤ x ∧ x ≤ h1) (hdd : 1 ≤ d) (hst : (st.map fun v => v.category).sum ≤ 8) (kk : ∀ hp1 : MH, Tw (ov Γ a (tI cI N (rg l1 h1))) hp1 → Rn (gG D cI cJ cZ cT lo b L xs) M d (pc + 3) lv st hp1 n kr wr Po) : Rn (gG D cI cJ cZ cT lo b L xs) M d pc lv (.int (iv x) :: .ref a :: st) hp n kr wr Po := by
  obtain ⟨e, h1', f, rfl, h2⟩ := rd_at ht (rd_of hΓ)
  refine r_callS (as := [.ref a, .int (iv x)]) (st := st) F hd (c_J7_fill_53178 (d := 0) (Nat.zero_le _) h1' hN) rfl (by omega) hst (Nat.zero_le _) (Nat.zero_le _) rfl (fun r hp1 n1 hq => ?_)
  obtain ⟨rfl, rfl, h4, h5⟩ := hq
  refine kk hp1 ?_
  intro q T' h7
  by_cases hq : q = a
  · subst hq
    rw [ov_s] at h7
    cases h7
    refine ⟨_, h4, _, rfl, ?_⟩
    intro i hi
    show l1 ≤ (if i < N then iv x else f i).toInt ∧ (if i < N then iv x else f i).toInt ≤ h1
    rw [if_pos hi, iv_toInt hb.1 hb.2]; exact hx
  · rw [ov_o _ _ hq] at h7
    obtain ⟨e', h8, h9⟩ := ht q T' h7
    exact ⟨e', h5 q e' h8 hq, h9⟩
theorem prSwap {Γ : TG} {cI : ClassId} {s : Nat} {Mf : Nat → Int} {P2 : va_E → Prop} {P : Nat → Int → Prop} {hp : MH} (ht : Tw (ov (ov Γ (s + 1) (xI cI 16 Mf)) (s + 2) P2) hp) (hM : ∀ i, i < 16 → P i (Mf i)) : Tw (ov (ov Γ (s + 1) (tI cI 16 P)) (s + 2) P2) hp := by
  rw [ov_c Γ _ _ (show s + 1 ≠ s + 2 by omega)] at ht ⊢
  exact Tw.reI ht hM
theorem t_callVI' {G : MG} {M : MM} {d pc : Nat} {lv : List (Nat × Value)} {st : List Value} {hp : MH} {n kr wr : Nat} {Po : Option Value → MH → Nat → Prop} {Γ Γ1 : TG} {st0 : List Value} {ix d' na b ci : Nat} {q : vw_C} {Fs : List (Value → Prop)} {M' : MM} {as : List Value} {Q : Int → Prop} (ht : Tw Γ hp) (hΓ : rd Γ b (tO ci Fs)) (F : lkK G M.1.cls ix M' na ∧ Cond.instanceMethod M'.1 ∈ g_ws G ∧ Cond.selects q.1 M'.1 M'.1 ∈ g_ws G ∧ M'.1.cls = q.1) (hc : (g_cl G)[ci]? = some q) (hd : decode M.2.1 pc = .ok (.invokevirtual ix, 3)) (hm : Mt G M' d' 0 0 (.ref b :: as) hp n (pI Γ1 n Q)) (ha : as.length = na) (hdd : d' + 1 ≤ d) (hst : (st.map fun v => v.category).sum ≤ 8) (hs0 : st0 = as.reverse ++ .ref b :: st) (kk : ∀ (hp1 : MH) (y : Int), Tw Γ1 hp1 → Q y → Rn G M d (pc + 3) lv (.int (iv y) :: st) hp1 n kr wr Po) : Rn G M d pc lv st0 hp n kr wr Po := by
  obtain ⟨fs, hb⟩ := t_obj ht hΓ
  refine r_callV F hc hd hb hm ha hdd hst (Nat.zero_le _) (Nat.zero_le _) hs0 (fun r hp1 n1 hq => ?_)
  obtain ⟨h1, h2, y, h3, h4⟩ := hq
  subst h1 h3
  exact kk hp1 y h2 h4
theorem t_callVR' {G : MG} {M : MM} {d pc : Nat} {lv : List (Nat × Value)} {st : List Value} {hp : MH} {n kr wr : Nat} {Po : Option Value → MH → Nat → Prop} {Γ Γ1 : TG} {st0 : List Value} {ix d' na b ci : Nat} {q : vw_C} {Fs : List (Value → Prop)} {M' : MM} {as : List Value} {lo hi : Int} (ht : Tw Γ hp) (hΓ : rd Γ b (tO ci Fs)) (F : lkK G M.1.cls ix M' na ∧ Cond.instanceMethod M'.1 ∈ g_ws G ∧ Cond.selects q.1 M'.1 M'.1 ∈ g_ws G ∧ M'.1.cls = q.1) (hc : (g_cl G)[ci]? = some q) (hd : decode M.2.1 pc = .ok (.invokevirtual ix, 3)) (hm : Mt G M' d' 0 0 (.ref b :: as) hp n (pR Γ1 n lo hi)) (ha : as.length = na) (hdd : d' + 1 ≤ d) (hst : (st.map fun v => v.category).sum ≤ 8) (hs0 : st0 = as.reverse ++ .ref b :: st) (kk : ∀ (hp1 : MH) (y : Int), Tw Γ1 hp1 → lo ≤ y ∧ y ≤ hi → Rn G M d (pc + 3) lv (.int (iv y) :: st) hp1 n kr wr Po) : Rn G M d pc lv st0 hp n kr wr Po := by
  obtain ⟨fs, hb⟩ := t_obj ht hΓ
  refine r_callV F hc hd hb hm ha hdd hst (Nat.zero_le _) (Nat.zero_le _) hs0 (fun r hp1 n1 hq => ?_)
  obtain ⟨h1, h2, y, h3, h4⟩ := hq
  subst h1 h3
  exact kk hp1 y h2 h4
theorem p2N (N : Nat) : (1 : Int) ≤ 2 ^ N := by
  have h1 : 1 ≤ 2 ^ N := Nat.one_le_two_pow
  have h8 : ((2 ^ N : Nat) : Int) = (2 : Int) ^ N := by push_cast; rfl
  rw [← h8]
  omega
set_option maxHeartbeats 4000000 in
set_option maxRecDepth 100000 in
theorem t_X4_enqueue {D : va_G} {cI cJ cZ cT : ClassId} {lo b L : Nat} {xs : Nat → Int32} {hp : MH} {n d : Nat} {Γ : TG} {s N : Nat} {Mf : Nat → Int} {W : Int} {x1 : Int} (hd0 : 0 ≤ d) (hN : N ≤ 16) (hmate : rd Γ (s + 1) (xI cI 16 Mf)) (hM : Rfx 16 (-1) ((N : Int) - 1) Mf) (hpar : Γ (s + 2) = some (tI cI 16 (rg (-1) ((N : Int) - 1)))) (hbase : Γ (s + 3) = some (tI cI 16 (bsP N))) (hW : 0 ≤ W ∧ W ≤ 16) (ht : Tw (psN Γ cI s N W) hp) (hx1 : 0 ≤ x1 ∧ x1 ≤ 15) (hx : x1 < (N : Int)) : Mt (gG D cI cJ cZ cT lo b L xs) mX4_enqueue d 0 0 [.ref s, .int (iv x1)] hp n (pQ Γ cI s N n W (fun r => r = none)) := by
  refine Mt.of rfl (Nat.le_of_ble_eq_true rfl) ?_
  refine Rn.pick (lv' := [(0, .ref s), (1, .int (iv x1))]) [0, 1] rfl ?_
  obtain ⟨Q0, hQ0, ht0⟩ := ht.unI
  have hQn : Qn N Q0 W := fun i hi => (hQ0 i hi).1
  refine r_aload_n (pc := 0) dX4_enqueue_0 (i := 0) rfl rfl ?_
  refine t_getI (pc := 1) ht0 (rd_ov (by omega) (rd_of (ov_s _ _ _))) fX4_54 dX4_enqueue_1 rfl (fun y1 by1 => ?_)
  refine r_iload_n (pc := 4) dX4_enqueue_4 (i := 1) rfl rfl ?_
  obtain ⟨z2, hz2, bz2⟩ := shr_x y1 x1 (by omega) (by omega)
  refine r_ishr (pc := 5) (v := iv z2) dX4_enqueue_5 hz2 ?_
  refine r_iconst (pc := 6) (v := iv 1) dX4_enqueue_6 (by decide) ?_
  obtain ⟨z3, hz3, bz3⟩ := and_2 z2 1 (by omega) (by omega)
  refine r_iand (pc := 7) (v := iv z3) dX4_enqueue_7 hz3 ?_
  have B52 : ∀ W52 : Int, ∀ Q52 : Nat → Int, ∀ hp52 : MH, Tw (ov (ov Γ s (tO 4 (prF s W52))) (s + 4) (xI cI 16 Q52)) hp52 → Qn N Q52 W52 ∧ W ≤ W52 ∧ W52 ≤ 16 → Rn (gG D cI cJ cZ cT lo b L xs) mX4_enqueue d 52 [] [] hp52 n 0 0 (pQ Γ cI s N n W (fun r => r = none)) := by
    intro W52 Q52 hp52 ht52 hf52
    obtain ⟨ha52_0, hf52_1, hf52_2⟩ := hf52
    exact r_vret (pc := 52) dX4_enqueue_52 rfl ⟨rfl, ⟨W52, by omega, by omega, Tw.reI ht52 (show Qn N Q52 W52 by assumption)⟩, rfl⟩
  refine t_if_ne (pc := 8) (tgt := 52) dX4_enqueue_8 (by decide) (by omega) (fun c8 => ?_) (fun c8 => ?_)
  · refine Rn.pick (lv' := []) [] rfl ?_
    exact B52 W Q0 _ ht0 ⟨by assumption, by omega, by omega⟩
  · refine r_aload_n (pc := 11) dX4_enqueue_11 (i := 0) rfl rfl ?_
    refine t_getE (pc := 12) (.int (iv W)) ht0 (rd_ov (by omega) (rd_of (ov_s _ _ _))) fX4_51 dX4_enqueue_12 rfl ?_
    refine r_bipush (pc := 15) (v := iv 16) dX4_enqueue_15 (by decide) ?_
    refine t_icmp_ge (pc := 17) (tgt := 52) dX4_enqueue_17 (by decide) (by omega) (by omega) (fun c17 => ?_) (fun c17 => ?_)
    · refine Rn.pick (lv' := []) [] rfl ?_
      exact B52 W Q0 _ ht0 ⟨by assumption, by omega, by omega⟩
    · refine r_aload_n (pc := 20) dX4_enqueue_20 (i := 0) rfl rfl ?_
      refine r_dup (pc := 21) dX4_enqueue_21 rfl ?_
      refine t_getI (pc := 22) ht0 (rd_ov (by omega) (rd_of (ov_s _ _ _))) fX4_54 dX4_enqueue_22 rfl (fun y4 by4 => ?_)
      refine r_iconst (pc := 25) (v := iv 1) dX4_enqueue_25 (by decide) ?_
      refine r_iload_n (pc := 26) dX4_enqueue_26 (i := 1) rfl rfl ?_
      obtain ⟨z5, hz5, bz5⟩ := shl_1 0 15 x1 (by omega) (by omega) (by decide)
      refine r_ishl (pc := 27) (v := iv z5) dX4_enqueue_27 hz5 ?_
      obtain ⟨z6, hz6, bz6⟩ := or_2 16 y4 z5 (by omega) (by omega) (by decide)
      refine r_ior (pc := 28) (v := iv z6) dX4_enqueue_28 hz6 ?_
      refine t_putI (pc := 29) (ty := .int) ht0 (eq_ov (by omega) (ov_s _ _ _)) fX4_54 tyX4 tyX4_ok nmX4 (by decide +kernel) (Or.inl rfl) dX4_enqueue_29 rfl rfl rfl (by omega) (fun hp7 ht8 => ?_)
      refine r_aload_n (pc := 32) dX4_enqueue_32 (i := 0) rfl rfl ?_
      refine t_getE (pc := 33) (.ref (s + 4)) ht8 (rd_ov (by omega) (rd_of (ov_s _ _ _))) fX4_21 dX4_enqueue_33 rfl ?_
      refine r_aload_n (pc := 36) dX4_enqueue_36 (i := 0) rfl rfl ?_
      refine t_getE (pc := 37) (.int (iv W)) ht8 (rd_ov (by omega) (rd_of (ov_s _ _ _))) fX4_51 dX4_enqueue_37 rfl ?_
      refine r_iload_n (pc := 40) dX4_enqueue_40 (i := 1) rfl rfl ?_
      refine t_iastX (pc := 41) (t0 := 0) ht8 (ov_s _ _ _) dX4_enqueue_41 rfl (by decide) (by omega) (by omega) (fun hp9 ht10 => ?_)
      rw [ov_ov] at ht10
      have hQ1 : Qn N (fup Q0 (Int.toNat W) x1) (W + 1) := Qn_up (by assumption) (by omega) (by omega)
      refine r_aload_n (pc := 42) dX4_enqueue_42 (i := 0) rfl rfl ?_
      refine r_dup (pc := 43) dX4_enqueue_43 rfl ?_
      refine t_getE (pc := 44) (.int (iv W)) ht10 (rd_ov (by omega) (rd_of (ov_s _ _ _))) fX4_51 dX4_enqueue_44 rfl ?_
      refine r_iconst (pc := 47) (v := iv 1) dX4_enqueue_47 (by decide) ?_
      refine r_iadd (pc := 48) (v := iv (W + 1)) dX4_enqueue_48 (iv_add _ _) ?_
      refine t_putX (pc := 49) (ty := .int) ht10 (eq_ov (by omega) (ov_s _ _ _)) fX4_51 tyX4 tyX4_ok nmX4 (by decide +kernel) (Or.inl rfl) dX4_enqueue_49 (Nat.le_of_ble_eq_true rfl) rfl rfl rfl (fun hp11 ht12 => ?_)
      rw [ov_in2 (by omega) ] at ht12
      refine Rn.pick (lv' := []) [] rfl ?_
      exact B52 (W + 1) (fup Q0 (Int.toNat W) x1) _ ht12 ⟨by assumption, by omega, by omega⟩
set_option maxHeartbeats 4000000 in
set_option maxRecDepth 100000 in
theorem t_X4_commonBase {D : va_G} {cI cJ cZ cT : ClassId} {lo b L : Nat} {xs : Nat → Int32} {hp : MH} {n d : Nat} {Γ : TG} {s N : Nat} {Mf : Nat → Int} {W : Int} {x1 x2 : Int} (hd0 : 0 ≤ d) (hN : N ≤ 16) (hmate : rd Γ (s + 1) (xI cI 16 Mf)) (hM : Rfx 16 (-1) ((N : Int) - 1) Mf) (hpar : Γ (s + 2) = some (tI cI 16 (rg (-1) ((N : Int) - 1)))) (hbase : Γ (s + 3) = some (tI cI 16 (bsP N))) (hW : 0 ≤ W ∧ W ≤ 16) (ht : Tw (psN Γ cI s N W) hp) (hx1 : 0 ≤ x1 ∧ x1 ≤ 15) (hx2 : 0 ≤ x2 ∧ x2 ≤ 15) (hx : x1 < (N : Int) ∧ x2 < (N : Int)) : Mt (gG D cI cJ cZ cT lo b L xs) mX4_commonBase d 0 0 [.ref s, .int (iv x1), .int (iv x2)] hp n (pI (psN Γ cI s N W) n (fun r => -1 ≤ r ∧ r ≤ 15 ∧ r < (N : Int))) := by
  refine Mt.of rfl (Nat.le_of_ble_eq_true rfl) ?_
  refine Rn.pick (lv' := [(0, .ref s), (1, .int (iv x1)), (2, .int (iv x2))]) [0, 1, 2] rfl ?_
  refine r_iconst (pc := 0) (v := iv 0) dX4_commonBase_0 (by decide) ?_
  refine r_istore_n (pc := 1) (lv' := [(3, .int (iv 0)), (0, .ref s), (1, .int (iv x1)), (2, .int (iv x2))]) dX4_commonBase_1 (i := 3) rfl (by decide) rfl ?_
  refine r_iload_n (pc := 2) dX4_commonBase_2 (i := 1) rfl rfl ?_
  refine r_istore (pc := 3) (lv' := [(4, .int (iv x1)), (3, .int (iv 0)), (0, .ref s), (1, .int (iv x1)), (2, .int (iv x2))]) dX4_commonBase_3 (by decide) rfl ?_
  refine r_iconst (pc := 5) (v := iv 0) dX4_commonBase_5 (by decide) ?_
  refine r_istore (pc := 6) (lv' := [(5, .int (iv 0)), (4, .int (iv x1)), (3, .int (iv 0)), (0, .ref s), (1, .int (iv x1)), (2, .int (iv x2))]) dX4_commonBase_6 (by decide) rfl ?_
  have B8 : ∀ k : Nat, ∀ hp8 : MH, Tw (ov (ov Γ s (tO 4 (prF s W))) (s + 4) (tI cI 16 (quP N W))) hp8 → ∀  (v8_3 : Int) (v8_4 : Int) (v8_5 : Int), 0 ≤ v8_3 ∧ v8_3 ≤ 65535 ∧ (-1) ≤ v8_4 ∧ v8_4 ≤ 15 ∧ 0 ≤ v8_5 ∧ v8_5 ≤ 16 ∧ v8_4 < (N : Int) → 16 - v8_5 ≤ (k : Int) → Rn (gG D cI cJ cZ cT lo b L xs) mX4_commonBase d 8 [(0, .ref s), (2, .int (iv x2)), (3, .int (iv v8_3)), (4, .int (iv v8_4)), (5, .int (iv v8_5))] [] hp8 n 0 0 (pI (psN Γ cI s N W) n (fun r => -1 ≤ r ∧ r ≤ 15 ∧ r < (N : Int))) := by
    refine lpS _ ?_
    intro k8 ih8 hp8 ht8 v8_3 v8_4 v8_5 hf8 hm8
    refine r_iload (pc := 8) dX4_commonBase_8 rfl ?_
    refine r_bipush (pc := 10) (v := iv 16) dX4_commonBase_10 (by decide) ?_
    have B70 : ∀ hp70 : MH, Tw (ov (ov Γ s (tO 4 (prF s W))) (s + 4) (tI cI 16 (quP N W))) hp70 → True → Rn (gG D cI cJ cZ cT lo b L xs) mX4_commonBase d 70 [(0, .ref s), (2, .int (iv x2)), (3, .int (iv v8_3))] [] hp70 n 0 0 (pI (psN Γ cI s N W) n (fun r => -1 ≤ r ∧ r ≤ 15 ∧ r < (N : Int))) := by
      intro hp70 ht70 hf70
      refine r_iload_n (pc := 70) dX4_commonBase_70 (i := 2) rfl rfl ?_
      refine r_istore (pc := 71) (lv' := [(4, .int (iv x2)), (0, .ref s), (2, .int (iv x2)), (3, .int (iv v8_3))]) dX4_commonBase_71 (by decide) rfl ?_
      refine r_iconst (pc := 73) (v := iv 0) dX4_commonBase_73 (by decide) ?_
      refine r_istore (pc := 74) (lv' := [(5, .int (iv 0)), (4, .int (iv x2)), (0, .ref s), (2, .int (iv x2)), (3, .int (iv v8_3))]) dX4_commonBase_74 (by decide) rfl ?_
      have B76 : ∀ k : Nat, ∀ hp76 : MH, Tw (ov (ov Γ s (tO 4 (prF s W))) (s + 4) (tI cI 16 (quP N W))) hp76 → ∀  (v76_4 : Int) (v76_5 : Int), (-1) ≤ v76_4 ∧ v76_4 ≤ 15 ∧ 0 ≤ v76_5 ∧ v76_5 ≤ 16 ∧ v76_4 < (N : Int) → 16 - v76_5 ≤ (k : Int) → Rn (gG D cI cJ cZ cT lo b L xs) mX4_commonBase d 76 [(0, .ref s), (3, .int (iv v8_3)), (4, .int (iv v76_4)), (5, .int (iv v76_5))] [] hp76 n 0 0 (pI (psN Γ cI s N W) n (fun r => -1 ≤ r ∧ r ≤ 15 ∧ r < (N : Int))) := by
        refine lpS _ ?_
        intro k76 ih76 hp76 ht76 v76_4 v76_5 hf76 hm76
        refine r_iload (pc := 76) dX4_commonBase_76 rfl ?_
        refine r_bipush (pc := 78) (v := iv 16) dX4_commonBase_78 (by decide) ?_
        have B143 : ∀ hp143 : MH, Tw (ov (ov Γ s (tO 4 (prF s W))) (s + 4) (tI cI 16 (quP N W))) hp143 → True → Rn (gG D cI cJ cZ cT lo b L xs) mX4_commonBase d 143 [] [] hp143 n 0 0 (pI (psN Γ cI s N W) n (fun r => -1 ≤ r ∧ r ≤ 15 ∧ r < (N : Int))) := by
          intro hp143 ht143 hf143
          refine r_iconst (pc := 143) (v := iv (-1)) dX4_commonBase_143 (by decide) ?_
          exact r_iret (pc := 144) dX4_commonBase_144 rfl ⟨rfl, ht143, _, rfl, by omega, by omega, by omega⟩
        refine t_icmp_ge (pc := 80) (tgt := 143) dX4_commonBase_80 (by decide) (by omega) (by omega) (fun c80 => ?_) (fun c80 => ?_)
        · refine Rn.pick (lv' := []) [] rfl ?_
          exact B143 _ ht76 trivial
        · refine r_iload (pc := 83) dX4_commonBase_83 rfl ?_
          refine t_if_lt (pc := 85) (tgt := 143) dX4_commonBase_85 (by decide) (by omega) (fun c85 => ?_) (fun c85 => ?_)
          · refine Rn.pick (lv' := []) [] rfl ?_
            exact B143 _ ht76 trivial
          · refine r_aload_n (pc := 88) dX4_commonBase_88 (i := 0) rfl rfl ?_
            refine t_getE (pc := 89) (.ref (s + 3)) ht76 (rd_ov (by omega) (rd_of (ov_s _ _ _))) fX4_18 dX4_commonBase_89 rfl ?_
            refine r_iload (pc := 92) dX4_commonBase_92 rfl ?_
            refine t_iald (pc := 94) (t0 := 0) ht76 (rd_ov (by omega) (rd_ov (by omega) (rd_of hbase))) dX4_commonBase_94 rfl (by decide) (by omega) (fun y1 by1 py1 => ?_)
            obtain ⟨py10, py11, py12, py13⟩ := py1
            refine r_istore (pc := 95) (lv' := [(4, .int (iv y1)), (0, .ref s), (3, .int (iv v8_3)), (5, .int (iv v76_5))]) dX4_commonBase_95 (by decide) rfl ?_
            refine r_iload_n (pc := 97) dX4_commonBase_97 (i := 3) rfl rfl ?_
            refine r_iload (pc := 98) dX4_commonBase_98 rfl ?_
            obtain ⟨z2, hz2, bz2⟩ := shr_x v8_3 y1 (by omega) (by omega)
            refine r_ishr (pc := 100) (v := iv z2) dX4_commonBase_100 hz2 ?_
            refine r_iconst (pc := 101) (v := iv 1) dX4_commonBase_101 (by decide) ?_
            obtain ⟨z3, hz3, bz3⟩ := and_2 z2 1 (by omega) (by omega)
            refine r_iand (pc := 102) (v := iv z3) dX4_commonBase_102 hz3 ?_
            refine t_if_eq (pc := 103) (tgt := 109) dX4_commonBase_103 (by decide) (by omega) (fun c103 => ?_) (fun c103 => ?_)
            · refine r_aload_n (pc := 109) dX4_commonBase_109 (i := 0) rfl rfl ?_
              refine t_getE (pc := 110) (.ref (s + 1)) ht76 (rd_ov (by omega) (rd_of (ov_s _ _ _))) fX4_9 dX4_commonBase_110 rfl ?_
              refine r_iload (pc := 113) dX4_commonBase_113 rfl ?_
              refine t_ialdX (pc := 115) (t0 := 0) ht76 (rd_ov (by omega) (rd_ov (by omega) hmate)) dX4_commonBase_115 rfl (by decide) (by omega) (fun b4 => ?_)
              have rb4 := (show Rfx 16 (-1) ((N : Int) - 1) Mf by assumption) (Int.toNat y1) (by omega)
              have B135 : ∀ hp135 : MH, Tw (ov (ov Γ s (tO 4 (prF s W))) (s + 4) (tI cI 16 (quP N W))) hp135 → ∀  (u135_0 : Int), (-1) ≤ u135_0 ∧ u135_0 ≤ 15 ∧ u135_0 < (N : Int) → Rn (gG D cI cJ cZ cT lo b L xs) mX4_commonBase d 135 [(0, .ref s), (3, .int (iv v8_3)), (5, .int (iv v76_5))] [.int (iv u135_0)] hp135 n 0 0 (pI (psN Γ cI s N W) n (fun r => -1 ≤ r ∧ r ≤ 15 ∧ r < (N : Int))) := by
                intro hp135 ht135 u135_0 hf135
                refine r_istore (pc := 135) (lv' := [(4, .int (iv u135_0)), (0, .ref s), (3, .int (iv v8_3)), (5, .int (iv v76_5))]) dX4_commonBase_135 (by decide) rfl ?_
                refine r_iinc (pc := 137) (v := iv (v76_5 + 1)) (lv' := [(5, .int (iv (v76_5 + 1))), (4, .int (iv u135_0)), (0, .ref s), (3, .int (iv v8_3))]) dX4_commonBase_137 rfl (iv_add _ _) (by decide) rfl ?_
                refine r_goto (pc := 140) (tgt := 76) dX4_commonBase_140 (by decide) ?_
                refine Rn.pick (lv' := [(0, .ref s), (3, .int (iv v8_3)), (4, .int (iv u135_0)), (5, .int (iv (v76_5 + 1)))]) [2, 3, 1, 0] rfl ?_
                exact ih76 (Int.toNat (16 - (v76_5 + 1))) (by omega) _ ht135 u135_0 (v76_5 + 1) ⟨by omega, by omega, by omega, by omega, by omega⟩ (by omega)
              refine t_if_ge (pc := 116) (tgt := 123) dX4_commonBase_116 (by decide) (by omega) (fun c116 => ?_) (fun c116 => ?_)
              · refine r_aload_n (pc := 123) dX4_commonBase_123 (i := 0) rfl rfl ?_
                refine t_getE (pc := 124) (.ref (s + 2)) ht76 (rd_ov (by omega) (rd_of (ov_s _ _ _))) fX4_15 dX4_commonBase_124 rfl ?_
                refine r_aload_n (pc := 127) dX4_commonBase_127 (i := 0) rfl rfl ?_
                refine t_getE (pc := 128) (.ref (s + 1)) ht76 (rd_ov (by omega) (rd_of (ov_s _ _ _))) fX4_9 dX4_commonBase_128 rfl ?_
                refine r_iload (pc := 131) dX4_commonBase_131 rfl ?_
                refine t_ialdX (pc := 133) (t0 := 0) ht76 (rd_ov (by omega) (rd_ov (by omega) hmate)) dX4_commonBase_133 rfl (by decide) (by omega) (fun b5 => ?_)
                have rb5 := (show Rfx 16 (-1) ((N : Int) - 1) Mf by assumption) (Int.toNat y1) (by omega)
                refine t_ialdR (pc := 134) (t0 := 0) ht76 (rd_ov (by omega) (rd_ov (by omega) (rd_of hpar))) dX4_commonBase_134 rfl (by decide) (by omega) (fun y6 by6 => ?_)
                refine Rn.pick (lv' := [(0, .ref s), (3, .int (iv v8_3)), (5, .int (iv v76_5))]) [1, 2, 3] rfl ?_
                exact B135 _ ht76 y6 ⟨by omega, by omega, by omega⟩
              · refine r_iconst (pc := 119) (v := iv (-1)) dX4_commonBase_119 (by decide) ?_
                refine r_goto (pc := 120) (tgt := 135) dX4_commonBase_120 (by decide) ?_
                refine Rn.pick (lv' := [(0, .ref s), (3, .int (iv v8_3)), (5, .int (iv v76_5))]) [1, 2, 3] rfl ?_
                exact B135 _ ht76 (-1) ⟨by omega, by omega, by omega⟩
            · refine r_iload (pc := 106) dX4_commonBase_106 rfl ?_
              exact r_iret (pc := 108) dX4_commonBase_108 rfl ⟨rfl, ht76, _, rfl, by omega, by omega, by omega⟩
      refine Rn.pick (lv' := [(0, .ref s), (3, .int (iv v8_3)), (4, .int (iv x2)), (5, .int (iv 0))]) [2, 4, 1, 0] rfl ?_
      exact B76 (Int.toNat (16 - 0)) _ ht70 x2 0 ⟨by omega, by omega, by omega, by omega, by omega⟩ (by omega)
    refine t_icmp_ge (pc := 12) (tgt := 70) dX4_commonBase_12 (by decide) (by omega) (by omega) (fun c12 => ?_) (fun c12 => ?_)
    · refine Rn.pick (lv' := [(0, .ref s), (2, .int (iv x2)), (3, .int (iv v8_3))]) [0, 1, 2] rfl ?_
      exact B70 _ ht8 trivial
    · refine r_iload (pc := 15) dX4_commonBase_15 rfl ?_
      refine t_if_lt (pc := 17) (tgt := 70) dX4_commonBase_17 (by decide) (by omega) (fun c17 => ?_) (fun c17 => ?_)
      · refine Rn.pick (lv' := [(0, .ref s), (2, .int (iv x2)), (3, .int (iv v8_3))]) [0, 1, 2] rfl ?_
        exact B70 _ ht8 trivial
      · refine r_aload_n (pc := 20) dX4_commonBase_20 (i := 0) rfl rfl ?_
        refine t_getE (pc := 21) (.ref (s + 3)) ht8 (rd_ov (by omega) (rd_of (ov_s _ _ _))) fX4_18 dX4_commonBase_21 rfl ?_
        refine r_iload (pc := 24) dX4_commonBase_24 rfl ?_
        refine t_iald (pc := 26) (t0 := 0) ht8 (rd_ov (by omega) (rd_ov (by omega) (rd_of hbase))) dX4_commonBase_26 rfl (by decide) (by omega) (fun y7 by7 py7 => ?_)
        obtain ⟨py70, py71, py72, py73⟩ := py7
        refine r_istore (pc := 27) (lv' := [(4, .int (iv y7)), (0, .ref s), (2, .int (iv x2)), (3, .int (iv v8_3)), (5, .int (iv v8_5))]) dX4_commonBase_27 (by decide) rfl ?_
        refine r_iload_n (pc := 29) dX4_commonBase_29 (i := 3) rfl rfl ?_
        refine r_iconst (pc := 30) (v := iv 1) dX4_commonBase_30 (by decide) ?_
        refine r_iload (pc := 31) dX4_commonBase_31 rfl ?_
        obtain ⟨z8, hz8, bz8⟩ := shl_1 0 15 y7 (by omega) (by omega) (by decide)
        refine r_ishl (pc := 33) (v := iv z8) dX4_commonBase_33 hz8 ?_
        obtain ⟨z9, hz9, bz9⟩ := or_2 16 v8_3 z8 (by omega) (by omega) (by decide)
        refine r_ior (pc := 34) (v := iv z9) dX4_commonBase_34 hz9 ?_
        refine r_istore_n (pc := 35) (lv' := [(3, .int (iv z9)), (4, .int (iv y7)), (0, .ref s), (2, .int (iv x2)), (5, .int (iv v8_5))]) dX4_commonBase_35 (i := 3) rfl (by decide) rfl ?_
        refine r_aload_n (pc := 36) dX4_commonBase_36 (i := 0) rfl rfl ?_
        refine t_getE (pc := 37) (.ref (s + 1)) ht8 (rd_ov (by omega) (rd_of (ov_s _ _ _))) fX4_9 dX4_commonBase_37 rfl ?_
        refine r_iload (pc := 40) dX4_commonBase_40 rfl ?_
        refine t_ialdX (pc := 42) (t0 := 0) ht8 (rd_ov (by omega) (rd_ov (by omega) hmate)) dX4_commonBase_42 rfl (by decide) (by omega) (fun b10 => ?_)
        have rb10 := (show Rfx 16 (-1) ((N : Int) - 1) Mf by assumption) (Int.toNat y7) (by omega)
        have B62 : ∀ hp62 : MH, Tw (ov (ov Γ s (tO 4 (prF s W))) (s + 4) (tI cI 16 (quP N W))) hp62 → ∀  (u62_0 : Int), (-1) ≤ u62_0 ∧ u62_0 ≤ 15 ∧ u62_0 < (N : Int) → Rn (gG D cI cJ cZ cT lo b L xs) mX4_commonBase d 62 [(0, .ref s), (2, .int (iv x2)), (3, .int (iv z9)), (5, .int (iv v8_5))] [.int (iv u62_0)] hp62 n 0 0 (pI (psN Γ cI s N W) n (fun r => -1 ≤ r ∧ r ≤ 15 ∧ r < (N : Int))) := by
          intro hp62 ht62 u62_0 hf62
          refine r_istore (pc := 62) (lv' := [(4, .int (iv u62_0)), (0, .ref s), (2, .int (iv x2)), (3, .int (iv z9)), (5, .int (iv v8_5))]) dX4_commonBase_62 (by decide) rfl ?_
          refine r_iinc (pc := 64) (v := iv (v8_5 + 1)) (lv' := [(5, .int (iv (v8_5 + 1))), (4, .int (iv u62_0)), (0, .ref s), (2, .int (iv x2)), (3, .int (iv z9))]) dX4_commonBase_64 rfl (iv_add _ _) (by decide) rfl ?_
          refine r_goto (pc := 67) (tgt := 8) dX4_commonBase_67 (by decide) ?_
          refine Rn.pick (lv' := [(0, .ref s), (2, .int (iv x2)), (3, .int (iv z9)), (4, .int (iv u62_0)), (5, .int (iv (v8_5 + 1)))]) [2, 3, 4, 1, 0] rfl ?_
          exact ih8 (Int.toNat (16 - (v8_5 + 1))) (by omega) _ ht62 z9 u62_0 (v8_5 + 1) ⟨by omega, by omega, by omega, by omega, by omega, by omega, by omega⟩ (by omega)
        refine t_if_ge (pc := 43) (tgt := 50) dX4_commonBase_43 (by decide) (by omega) (fun c43 => ?_) (fun c43 => ?_)
        · refine r_aload_n (pc := 50) dX4_commonBase_50 (i := 0) rfl rfl ?_
          refine t_getE (pc := 51) (.ref (s + 2)) ht8 (rd_ov (by omega) (rd_of (ov_s _ _ _))) fX4_15 dX4_commonBase_51 rfl ?_
          refine r_aload_n (pc := 54) dX4_commonBase_54 (i := 0) rfl rfl ?_
          refine t_getE (pc := 55) (.ref (s + 1)) ht8 (rd_ov (by omega) (rd_of (ov_s _ _ _))) fX4_9 dX4_commonBase_55 rfl ?_
          refine r_iload (pc := 58) dX4_commonBase_58 rfl ?_
          refine t_ialdX (pc := 60) (t0 := 0) ht8 (rd_ov (by omega) (rd_ov (by omega) hmate)) dX4_commonBase_60 rfl (by decide) (by omega) (fun b11 => ?_)
          have rb11 := (show Rfx 16 (-1) ((N : Int) - 1) Mf by assumption) (Int.toNat y7) (by omega)
          refine t_ialdR (pc := 61) (t0 := 0) ht8 (rd_ov (by omega) (rd_ov (by omega) (rd_of hpar))) dX4_commonBase_61 rfl (by decide) (by omega) (fun y12 by12 => ?_)
          refine Rn.pick (lv' := [(0, .ref s), (2, .int (iv x2)), (3, .int (iv z9)), (5, .int (iv v8_5))]) [2, 3, 0, 4] rfl ?_
          exact B62 _ ht8 y12 ⟨by omega, by omega, by omega⟩
        · refine r_iconst (pc := 46) (v := iv (-1)) dX4_commonBase_46 (by decide) ?_
          refine r_goto (pc := 47) (tgt := 62) dX4_commonBase_47 (by decide) ?_
          refine Rn.pick (lv' := [(0, .ref s), (2, .int (iv x2)), (3, .int (iv z9)), (5, .int (iv v8_5))]) [2, 3, 0, 4] rfl ?_
          exact B62 _ ht8 (-1) ⟨by omega, by omega, by omega⟩
  refine Rn.pick (lv' := [(0, .ref s), (2, .int (iv x2)), (3, .int (iv 0)), (4, .int (iv x1)), (5, .int (iv 0))]) [3, 5, 2, 1, 0] rfl ?_
  exact B8 (Int.toNat (16 - 0)) _ ht 0 x1 0 ⟨by omega, by omega, by omega, by omega, by omega, by omega, by omega⟩ (by omega)
set_option maxHeartbeats 4000000 in
set_option maxRecDepth 100000 in
theorem t_X4_turnPath {D : va_G} {cI cJ cZ cT : ClassId} {lo b L : Nat} {xs : Nat → Int32} {hp : MH} {n d : Nat} {Γ : TG} {s N : Nat} {Mf : Nat → Int} {W : Int} {x1 x2 x3 : Int} (hd0 : 0 ≤ d) (hN : N ≤ 16) (hmate : rd Γ (s + 1) (xI cI 16 Mf)) (hM : Rfx 16 (-1) ((N : Int) - 1) Mf) (hpar : Γ (s + 2) = some (tI cI 16 (rg (-1) ((N : Int) - 1)))) (hbase : Γ (s + 3) = some (tI cI 16 (bsP N))) (hW : 0 ≤ W ∧ W ≤ 16) (ht : Tw (psN Γ cI s N W) hp) (hx1 : 0 ≤ x1 ∧ x1 ≤ 15) (hx2 : 0 ≤ x2 ∧ x2 ≤ 15) (hx3 : 0 ≤ x3 ∧ x3 ≤ 15) (hx : x1 < (N : Int) ∧ x2 < (N : Int) ∧ x3 < (N : Int)) : Mt (gG D cI cJ cZ cT lo b L xs) mX4_turnPath d 0 0 [.ref s, .int (iv x1), .int (iv x2), .int (iv x3)] hp n (pI (psN Γ cI s N W) n (fun r => 0 ≤ r ∧ r ≤ 65535 ∧ r < 2 ^ N)) := by
  refine Mt.of rfl (Nat.le_of_ble_eq_true rfl) ?_
  refine Rn.pick (lv' := [(0, .ref s), (1, .int (iv x1)), (2, .int (iv x2)), (3, .int (iv x3))]) [0, 1, 2, 3] rfl ?_
  have h2N := p2N N
  refine r_iconst (pc := 0) (v := iv 0) dX4_turnPath_0 (by decide) ?_
  refine r_istore (pc := 1) (lv' := [(4, .int (iv 0)), (0, .ref s), (1, .int (iv x1)), (2, .int (iv x2)), (3, .int (iv x3))]) dX4_turnPath_1 (by decide) rfl ?_
  refine r_iload_n (pc := 3) dX4_turnPath_3 (i := 1) rfl rfl ?_
  refine r_istore (pc := 4) (lv' := [(5, .int (iv x1)), (4, .int (iv 0)), (0, .ref s), (1, .int (iv x1)), (2, .int (iv x2)), (3, .int (iv x3))]) dX4_turnPath_4 (by decide) rfl ?_
  refine r_iload_n (pc := 6) dX4_turnPath_6 (i := 3) rfl rfl ?_
  refine r_istore (pc := 7) (lv' := [(6, .int (iv x3)), (5, .int (iv x1)), (4, .int (iv 0)), (0, .ref s), (1, .int (iv x1)), (2, .int (iv x2)), (3, .int (iv x3))]) dX4_turnPath_7 (by decide) rfl ?_
  refine r_iconst (pc := 9) (v := iv 0) dX4_turnPath_9 (by decide) ?_
  refine r_istore (pc := 10) (lv' := [(7, .int (iv 0)), (6, .int (iv x3)), (5, .int (iv x1)), (4, .int (iv 0)), (0, .ref s), (1, .int (iv x1)), (2, .int (iv x2)), (3, .int (iv x3))]) dX4_turnPath_10 (by decide) rfl ?_
  have B12 : ∀ k : Nat, ∀ hp12 : MH, Tw (ov (ov Γ s (tO 4 (prF s W))) (s + 4) (tI cI 16 (quP N W))) hp12 → ∀  (v12_4 : Int) (v12_5 : Int) (v12_6 : Int) (v12_7 : Int), 0 ≤ v12_4 ∧ v12_4 ≤ 65535 ∧ (-1) ≤ v12_5 ∧ v12_5 ≤ 15 ∧ (-1) ≤ v12_6 ∧ v12_6 ≤ 15 ∧ 0 ≤ v12_7 ∧ v12_7 ≤ 16 ∧ v12_5 < (N : Int) ∧ v12_6 < (N : Int) ∧ v12_4 < 2 ^ N → 16 - v12_7 ≤ (k : Int) → Rn (gG D cI cJ cZ cT lo b L xs) mX4_turnPath d 12 [(0, .ref s), (2, .int (iv x2)), (4, .int (iv v12_4)), (5, .int (iv v12_5)), (6, .int (iv v12_6)), (7, .int (iv v12_7))] [] hp12 n 0 0 (pI (psN Γ cI s N W) n (fun r => 0 ≤ r ∧ r ≤ 65535 ∧ r < 2 ^ N)) := by
    refine lpS _ ?_
    intro k12 ih12 hp12 ht12 v12_4 v12_5 v12_6 v12_7 hf12 hm12
    refine r_iload (pc := 12) dX4_turnPath_12 rfl ?_
    refine r_bipush (pc := 14) (v := iv 16) dX4_turnPath_14 (by decide) ?_
    have B106 : ∀ hp106 : MH, Tw (ov (ov Γ s (tO 4 (prF s W))) (s + 4) (tI cI 16 (quP N W))) hp106 → True → Rn (gG D cI cJ cZ cT lo b L xs) mX4_turnPath d 106 [(4, .int (iv v12_4))] [] hp106 n 0 0 (pI (psN Γ cI s N W) n (fun r => 0 ≤ r ∧ r ≤ 65535 ∧ r < 2 ^ N)) := by
      intro hp106 ht106 hf106
      refine r_iload (pc := 106) dX4_turnPath_106 rfl ?_
      exact r_iret (pc := 108) dX4_turnPath_108 rfl ⟨rfl, ht106, _, rfl, by omega, by omega, by omega⟩
    refine t_icmp_ge (pc := 16) (tgt := 106) dX4_turnPath_16 (by decide) (by omega) (by omega) (fun c16 => ?_) (fun c16 => ?_)
    · refine Rn.pick (lv' := [(4, .int (iv v12_4))]) [2] rfl ?_
      exact B106 _ ht12 trivial
    · refine r_iload (pc := 19) dX4_turnPath_19 rfl ?_
      refine t_if_lt (pc := 21) (tgt := 106) dX4_turnPath_21 (by decide) (by omega) (fun c21 => ?_) (fun c21 => ?_)
      · refine Rn.pick (lv' := [(4, .int (iv v12_4))]) [2] rfl ?_
        exact B106 _ ht12 trivial
      · refine r_aload_n (pc := 24) dX4_turnPath_24 (i := 0) rfl rfl ?_
        refine t_getE (pc := 25) (.ref (s + 3)) ht12 (rd_ov (by omega) (rd_of (ov_s _ _ _))) fX4_18 dX4_turnPath_25 rfl ?_
        refine r_iload (pc := 28) dX4_turnPath_28 rfl ?_
        refine t_iald (pc := 30) (t0 := 0) ht12 (rd_ov (by omega) (rd_ov (by omega) (rd_of hbase))) dX4_turnPath_30 rfl (by decide) (by omega) (fun y1 by1 py1 => ?_)
        obtain ⟨py10, py11, py12, py13⟩ := py1
        refine r_iload_n (pc := 31) dX4_turnPath_31 (i := 2) rfl rfl ?_
        refine t_icmp_eq (pc := 32) (tgt := 106) dX4_turnPath_32 (by decide) (by omega) (by omega) (fun c32 => ?_) (fun c32 => ?_)
        · refine Rn.pick (lv' := [(4, .int (iv v12_4))]) [2] rfl ?_
          exact B106 _ ht12 trivial
        · refine r_aload_n (pc := 35) dX4_turnPath_35 (i := 0) rfl rfl ?_
          refine t_getE (pc := 36) (.ref (s + 1)) ht12 (rd_ov (by omega) (rd_of (ov_s _ _ _))) fX4_9 dX4_turnPath_36 rfl ?_
          refine r_iload (pc := 39) dX4_turnPath_39 rfl ?_
          refine t_ialdX (pc := 41) (t0 := 0) ht12 (rd_ov (by omega) (rd_ov (by omega) hmate)) dX4_turnPath_41 rfl (by decide) (by omega) (fun b2 => ?_)
          have rb2 := (show Rfx 16 (-1) ((N : Int) - 1) Mf by assumption) (Int.toNat v12_5) (by omega)
          refine t_if_lt (pc := 42) (tgt := 106) dX4_turnPath_42 (by decide) (by omega) (fun c42 => ?_) (fun c42 => ?_)
          · refine Rn.pick (lv' := [(4, .int (iv v12_4))]) [2] rfl ?_
            exact B106 _ ht12 trivial
          · refine r_aload_n (pc := 45) dX4_turnPath_45 (i := 0) rfl rfl ?_
            refine t_getE (pc := 46) (.ref (s + 1)) ht12 (rd_ov (by omega) (rd_of (ov_s _ _ _))) fX4_9 dX4_turnPath_46 rfl ?_
            refine r_iload (pc := 49) dX4_turnPath_49 rfl ?_
            refine t_ialdX (pc := 51) (t0 := 0) ht12 (rd_ov (by omega) (rd_ov (by omega) hmate)) dX4_turnPath_51 rfl (by decide) (by omega) (fun b3 => ?_)
            have rb3 := (show Rfx 16 (-1) ((N : Int) - 1) Mf by assumption) (Int.toNat v12_5) (by omega)
            refine r_istore (pc := 52) (lv' := [(8, .int (iv (Mf (Int.toNat v12_5)))), (0, .ref s), (2, .int (iv x2)), (4, .int (iv v12_4)), (5, .int (iv v12_5)), (6, .int (iv v12_6)), (7, .int (iv v12_7))]) dX4_turnPath_52 (by decide) rfl ?_
            refine r_iload (pc := 54) dX4_turnPath_54 rfl ?_
            refine r_iconst (pc := 56) (v := iv 1) dX4_turnPath_56 (by decide) ?_
            refine r_aload_n (pc := 57) dX4_turnPath_57 (i := 0) rfl rfl ?_
            refine t_getE (pc := 58) (.ref (s + 3)) ht12 (rd_ov (by omega) (rd_of (ov_s _ _ _))) fX4_18 dX4_turnPath_58 rfl ?_
            refine r_iload (pc := 61) dX4_turnPath_61 rfl ?_
            refine t_iald (pc := 63) (t0 := 0) ht12 (rd_ov (by omega) (rd_ov (by omega) (rd_of hbase))) dX4_turnPath_63 rfl (by decide) (by omega) (fun y4 by4 py4 => ?_)
            obtain ⟨py40, py41, py42, py43⟩ := py4
            obtain ⟨z5, hz5, bz5⟩ := shl_N (N := N) (v := y4) (by omega) hN
            refine r_ishl (pc := 64) (v := iv z5) dX4_turnPath_64 hz5 ?_
            refine r_iconst (pc := 65) (v := iv 1) dX4_turnPath_65 (by decide) ?_
            refine r_aload_n (pc := 66) dX4_turnPath_66 (i := 0) rfl rfl ?_
            refine t_getE (pc := 67) (.ref (s + 3)) ht12 (rd_ov (by omega) (rd_of (ov_s _ _ _))) fX4_18 dX4_turnPath_67 rfl ?_
            refine r_iload (pc := 70) dX4_turnPath_70 rfl ?_
            refine t_iald (pc := 72) (t0 := 0) ht12 (rd_ov (by omega) (rd_ov (by omega) (rd_of hbase))) dX4_turnPath_72 rfl (by decide) (by omega) (fun y6 by6 py6 => ?_)
            obtain ⟨py60, py61, py62, py63⟩ := py6
            obtain ⟨z7, hz7, bz7⟩ := shl_N (N := N) (v := y6) (by omega) hN
            refine r_ishl (pc := 73) (v := iv z7) dX4_turnPath_73 hz7 ?_
            obtain ⟨z8, hz8, bz8⟩ := or_N (N := N) (x := z5) (y := z7) hN (by omega) (by omega)
            refine r_ior (pc := 74) (v := iv z8) dX4_turnPath_74 hz8 ?_
            obtain ⟨z9, hz9, bz9⟩ := or_N (N := N) (x := v12_4) (y := z8) hN (by omega) (by omega)
            refine r_ior (pc := 75) (v := iv z9) dX4_turnPath_75 hz9 ?_
            refine r_istore (pc := 76) (lv' := [(4, .int (iv z9)), (8, .int (iv (Mf (Int.toNat v12_5)))), (0, .ref s), (2, .int (iv x2)), (5, .int (iv v12_5)), (6, .int (iv v12_6)), (7, .int (iv v12_7))]) dX4_turnPath_76 (by decide) rfl ?_
            refine r_aload_n (pc := 78) dX4_turnPath_78 (i := 0) rfl rfl ?_
            refine t_getE (pc := 79) (.ref (s + 2)) ht12 (rd_ov (by omega) (rd_of (ov_s _ _ _))) fX4_15 dX4_turnPath_79 rfl ?_
            refine r_iload (pc := 82) dX4_turnPath_82 rfl ?_
            refine r_iload (pc := 84) dX4_turnPath_84 rfl ?_
            refine t_iastR (pc := 86) (t0 := 0) ht12 (eq_ov (by omega) (eq_ov (by omega) hpar)) dX4_turnPath_86 rfl (by decide) (by omega) (by omega) (by omega) (fun hp10 ht11 => ?_)
            refine r_iload (pc := 87) dX4_turnPath_87 rfl ?_
            refine r_istore (pc := 89) (lv' := [(6, .int (iv (Mf (Int.toNat v12_5)))), (4, .int (iv z9)), (8, .int (iv (Mf (Int.toNat v12_5)))), (0, .ref s), (2, .int (iv x2)), (5, .int (iv v12_5)), (7, .int (iv v12_7))]) dX4_turnPath_89 (by decide) rfl ?_
            refine r_aload_n (pc := 91) dX4_turnPath_91 (i := 0) rfl rfl ?_
            refine t_getE (pc := 92) (.ref (s + 2)) ht11 (rd_ov (by omega) (rd_of (ov_s _ _ _))) fX4_15 dX4_turnPath_92 rfl ?_
            refine r_iload (pc := 95) dX4_turnPath_95 rfl ?_
            refine t_ialdR (pc := 97) (t0 := 0) ht11 (rd_ov (by omega) (rd_ov (by omega) (rd_of hpar))) dX4_turnPath_97 rfl (by decide) (by omega) (fun y12 by12 => ?_)
            refine r_istore (pc := 98) (lv' := [(5, .int (iv y12)), (6, .int (iv (Mf (Int.toNat v12_5)))), (4, .int (iv z9)), (8, .int (iv (Mf (Int.toNat v12_5)))), (0, .ref s), (2, .int (iv x2)), (7, .int (iv v12_7))]) dX4_turnPath_98 (by decide) rfl ?_
            refine r_iinc (pc := 100) (v := iv (v12_7 + 1)) (lv' := [(7, .int (iv (v12_7 + 1))), (5, .int (iv y12)), (6, .int (iv (Mf (Int.toNat v12_5)))), (4, .int (iv z9)), (8, .int (iv (Mf (Int.toNat v12_5)))), (0, .ref s), (2, .int (iv x2))]) dX4_turnPath_100 rfl (iv_add _ _) (by decide) rfl ?_
            refine r_goto (pc := 103) (tgt := 12) dX4_turnPath_103 (by decide) ?_
            refine Rn.pick (lv' := [(0, .ref s), (2, .int (iv x2)), (4, .int (iv z9)), (5, .int (iv y12)), (6, .int (iv (Mf (Int.toNat v12_5)))), (7, .int (iv (v12_7 + 1)))]) [5, 6, 3, 1, 2, 0] rfl ?_
            exact ih12 (Int.toNat (16 - (v12_7 + 1))) (by omega) _ ht11 z9 y12 (Mf (Int.toNat v12_5)) (v12_7 + 1) ⟨by omega, by omega, by omega, by omega, by omega, by omega, by omega, by omega, by omega, by omega, by omega⟩ (by omega)
  refine Rn.pick (lv' := [(0, .ref s), (2, .int (iv x2)), (4, .int (iv 0)), (5, .int (iv x1)), (6, .int (iv x3)), (7, .int (iv 0))]) [4, 6, 3, 2, 1, 0] rfl ?_
  exact B12 (Int.toNat (16 - 0)) _ ht 0 x1 x3 0 ⟨by omega, by omega, by omega, by omega, by omega, by omega, by omega, by omega, by omega, by omega, by omega⟩ (by omega)
set_option maxHeartbeats 4000000 in
set_option maxRecDepth 100000 in
theorem t_X4_meltRing {D : va_G} {cI cJ cZ cT : ClassId} {lo b L : Nat} {xs : Nat → Int32} {hp : MH} {n d : Nat} {Γ : TG} {s N : Nat} {Mf : Nat → Int} {W : Int} {x1 x2 : Int} (hd0 : 1 ≤ d) (hN : N ≤ 16) (hmate : rd Γ (s + 1) (xI cI 16 Mf)) (hM : Rfx 16 (-1) ((N : Int) - 1) Mf) (hpar : Γ (s + 2) = some (tI cI 16 (rg (-1) ((N : Int) - 1)))) (hbase : Γ (s + 3) = some (tI cI 16 (bsP N))) (hW : 0 ≤ W ∧ W ≤ 16) (ht : Tw (psN Γ cI s N W) hp) (hx1 : 0 ≤ x1 ∧ x1 ≤ 15) (hx2 : 0 ≤ x2 ∧ x2 ≤ 15) (hx : x1 < (N : Int) ∧ x2 < (N : Int)) : Mt (gG D cI cJ cZ cT lo b L xs) mX4_meltRing d 0 0 [.ref s, .int (iv x1), .int (iv x2)] hp n (pQ Γ cI s N n W (fun r => r = none)) := by
  refine Mt.of rfl (Nat.le_of_ble_eq_true rfl) ?_
  refine Rn.pick (lv' := [(0, .ref s), (1, .int (iv x1)), (2, .int (iv x2))]) [0, 1, 2] rfl ?_
  have h2N := p2N N
  refine r_aload_n (pc := 0) dX4_meltRing_0 (i := 0) rfl rfl ?_
  refine r_iload_n (pc := 1) dX4_meltRing_1 (i := 1) rfl rfl ?_
  refine r_iload_n (pc := 2) dX4_meltRing_2 (i := 2) rfl rfl ?_
  refine t_callVI (pc := 3) (as := [.int (iv x1), .int (iv x2)]) (st := []) ht (rd_ov (by omega) (rd_of (ov_s _ _ _))) kX4_64 rfl dX4_meltRing_3 (t_X4_commonBase (d := d - 1) (Γ := Γ) (s := s) (N := N) (Mf := Mf) (W := W) (x1 := x1) (x2 := x2) (by omega) hN hmate hM hpar hbase (by omega) ht (by omega) (by omega) (by omega)) rfl (by omega) (Nat.le_of_ble_eq_true rfl) rfl (fun hp1 y7 ht6 by7 => ?_)
  obtain ⟨by71, by72, by73⟩ := by7
  refine r_istore_n (pc := 6) (lv' := [(3, .int (iv y7)), (0, .ref s), (1, .int (iv x1)), (2, .int (iv x2))]) dX4_meltRing_6 (i := 3) rfl (by decide) rfl ?_
  refine r_iload_n (pc := 7) dX4_meltRing_7 (i := 3) rfl rfl ?_
  refine t_if_ge (pc := 8) (tgt := 12) dX4_meltRing_8 (by decide) (by omega) (fun c8 => ?_) (fun c8 => ?_)
  · refine r_aload_n (pc := 12) dX4_meltRing_12 (i := 0) rfl rfl ?_
    refine r_iload_n (pc := 13) dX4_meltRing_13 (i := 1) rfl rfl ?_
    refine r_iload_n (pc := 14) dX4_meltRing_14 (i := 3) rfl rfl ?_
    refine r_iload_n (pc := 15) dX4_meltRing_15 (i := 2) rfl rfl ?_
    refine t_callVI (pc := 16) (as := [.int (iv x1), .int (iv y7), .int (iv x2)]) (st := []) ht6 (rd_ov (by omega) (rd_of (ov_s _ _ _))) kX4_68 rfl dX4_meltRing_16 (t_X4_turnPath (d := d - 1) (Γ := Γ) (s := s) (N := N) (Mf := Mf) (W := W) (x1 := x1) (x2 := y7) (x3 := x2) (by omega) hN hmate hM hpar hbase (by omega) ht6 (by omega) (by omega) (by omega) (by omega)) rfl (by omega) (Nat.le_of_ble_eq_true rfl) rfl (fun hp8 y14 ht13 by14 => ?_)
    obtain ⟨by141, by142, by143⟩ := by14
    refine r_aload_n (pc := 19) dX4_meltRing_19 (i := 0) rfl rfl ?_
    refine r_iload_n (pc := 20) dX4_meltRing_20 (i := 2) rfl rfl ?_
    refine r_iload_n (pc := 21) dX4_meltRing_21 (i := 3) rfl rfl ?_
    refine r_iload_n (pc := 22) dX4_meltRing_22 (i := 1) rfl rfl ?_
    refine t_callVI (pc := 23) (as := [.int (iv x2), .int (iv y7), .int (iv x1)]) (st := [.int (iv y14)]) ht13 (rd_ov (by omega) (rd_of (ov_s _ _ _))) kX4_68 rfl dX4_meltRing_23 (t_X4_turnPath (d := d - 1) (Γ := Γ) (s := s) (N := N) (Mf := Mf) (W := W) (x1 := x2) (x2 := y7) (x3 := x1) (by omega) hN hmate hM hpar hbase (by omega) ht13 (by omega) (by omega) (by omega) (by omega)) rfl (by omega) (Nat.le_of_ble_eq_true rfl) rfl (fun hp15 y21 ht20 by21 => ?_)
    obtain ⟨by211, by212, by213⟩ := by21
    obtain ⟨z22, hz22, bz22⟩ := or_N (N := N) (x := y14) (y := y21) hN (by omega) (by omega)
    refine r_ior (pc := 26) (v := iv z22) dX4_meltRing_26 hz22 ?_
    refine r_istore (pc := 27) (lv' := [(4, .int (iv z22)), (3, .int (iv y7)), (0, .ref s), (1, .int (iv x1)), (2, .int (iv x2))]) dX4_meltRing_27 (by decide) rfl ?_
    refine r_iconst (pc := 29) (v := iv 0) dX4_meltRing_29 (by decide) ?_
    refine r_istore (pc := 30) (lv' := [(5, .int (iv 0)), (4, .int (iv z22)), (3, .int (iv y7)), (0, .ref s), (1, .int (iv x1)), (2, .int (iv x2))]) dX4_meltRing_30 (by decide) rfl ?_
    have B32 : ∀ k : Nat, ∀ W32 : Int, ∀ hp32 : MH, Tw (ov (ov Γ s (tO 4 (prF s W32))) (s + 4) (tI cI 16 (quP N W32))) hp32 → ∀  (v32_5 : Int), 0 ≤ v32_5 ∧ v32_5 ≤ 16 ∧ W ≤ W32 ∧ W32 ≤ 16 → 16 - v32_5 ≤ (k : Int) → Rn (gG D cI cJ cZ cT lo b L xs) mX4_meltRing d 32 [(0, .ref s), (3, .int (iv y7)), (4, .int (iv z22)), (5, .int (iv v32_5))] [] hp32 n 0 0 (pQ Γ cI s N n W (fun r => r = none)) := by
      refine lpS _ ?_
      intro k32 ih32 W32 hp32 ht32 v32_5 hf32 hm32
      refine r_iload (pc := 32) dX4_meltRing_32 rfl ?_
      refine r_bipush (pc := 34) (v := iv 16) dX4_meltRing_34 (by decide) ?_
      refine t_icmp_ge (pc := 36) (tgt := 74) dX4_meltRing_36 (by decide) (by omega) (by omega) (fun c36 => ?_) (fun c36 => ?_)
      · exact r_vret (pc := 74) dX4_meltRing_74 rfl ⟨rfl, ⟨W32, by omega, by omega, ht32⟩, rfl⟩
      · refine r_iload (pc := 39) dX4_meltRing_39 rfl ?_
        refine r_aload_n (pc := 41) dX4_meltRing_41 (i := 0) rfl rfl ?_
        refine t_getE (pc := 42) (.ref (s + 3)) ht32 (rd_ov (by omega) (rd_of (ov_s _ _ _))) fX4_18 dX4_meltRing_42 rfl ?_
        refine r_iload (pc := 45) dX4_meltRing_45 rfl ?_
        refine t_iald (pc := 47) (t0 := 0) ht32 (rd_ov (by omega) (rd_ov (by omega) (rd_of hbase))) dX4_meltRing_47 rfl (by decide) (by omega) (fun y23 by23 py23 => ?_)
        obtain ⟨py230, py231, py232, py233⟩ := py23
        have hq48 := shr_le (Int.toNat z22) (Int.toNat y23)
        refine r_ishr (pc := 48) (v := iv ((Int.toNat z22 >>> Int.toNat y23 : Nat) : Int)) dX4_meltRing_48 (shr_e (by omega) (by omega)) ?_
        refine r_iconst (pc := 49) (v := iv 1) dX4_meltRing_49 (by decide) ?_
        refine r_iand (pc := 50) (v := iv (((Int.toNat z22 >>> Int.toNat y23 : Nat) : Int) % 2)) dX4_meltRing_50 (and1_e _ (by omega)) ?_
        have hb50 := fun q => bit_N (N := N) (r := z22) (b := y23) (by omega) (by omega) (by omega) q
        have B68 : ∀ W68 : Int, ∀ hp68 : MH, Tw (ov (ov Γ s (tO 4 (prF s W68))) (s + 4) (tI cI 16 (quP N W68))) hp68 → W ≤ W68 ∧ W68 ≤ 16 → Rn (gG D cI cJ cZ cT lo b L xs) mX4_meltRing d 68 [(0, .ref s), (3, .int (iv y7)), (4, .int (iv z22)), (5, .int (iv v32_5))] [] hp68 n 0 0 (pQ Γ cI s N n W (fun r => r = none)) := by
          intro W68 hp68 ht68 hf68
          refine r_iinc (pc := 68) (v := iv (v32_5 + 1)) (lv' := [(5, .int (iv (v32_5 + 1))), (0, .ref s), (3, .int (iv y7)), (4, .int (iv z22))]) dX4_meltRing_68 rfl (iv_add _ _) (by decide) rfl ?_
          refine r_goto (pc := 71) (tgt := 32) dX4_meltRing_71 (by decide) ?_
          refine Rn.pick (lv' := [(0, .ref s), (3, .int (iv y7)), (4, .int (iv z22)), (5, .int (iv (v32_5 + 1)))]) [1, 2, 3, 0] rfl ?_
          exact ih32 (Int.toNat (16 - (v32_5 + 1))) (by omega) W68 _ ht68 (v32_5 + 1) ⟨by omega, by omega, by omega, by omega⟩ (by omega)
        refine t_if_eq (pc := 51) (tgt := 68) dX4_meltRing_51 (by decide) (by omega) (fun c51 => ?_) (fun c51 => ?_)
        · refine Rn.pick (lv' := [(0, .ref s), (3, .int (iv y7)), (4, .int (iv z22)), (5, .int (iv v32_5))]) [0, 1, 2, 3] rfl ?_
          exact B68 W32 _ ht32 ⟨by omega, by omega⟩
        · refine r_aload_n (pc := 54) dX4_meltRing_54 (i := 0) rfl rfl ?_
          have hb53 := hb50 (by omega)
          refine t_getE (pc := 55) (.ref (s + 3)) ht32 (rd_ov (by omega) (rd_of (ov_s _ _ _))) fX4_18 dX4_meltRing_55 rfl ?_
          refine r_iload (pc := 58) dX4_meltRing_58 rfl ?_
          refine r_iload_n (pc := 60) dX4_meltRing_60 (i := 3) rfl rfl ?_
          refine t_iast (pc := 61) (t0 := 0) ht32 (eq_ov (by omega) (eq_ov (by omega) hbase)) dX4_meltRing_61 rfl (by decide) (by omega) (by omega) ⟨by omega, by omega, by omega, by omega⟩ (fun hp24 ht25 => ?_)
          refine r_aload_n (pc := 62) dX4_meltRing_62 (i := 0) rfl rfl ?_
          refine r_iload (pc := 63) dX4_meltRing_63 rfl ?_
          obtain ⟨fs30, hfs30⟩ := t_obj ht25 (rd_ov (by omega) (rd_of (ov_s _ _ _)))
          refine r_callV (pc := 65) (as := [.int (iv v32_5)]) (st := []) kX4_57 rfl dX4_meltRing_65 hfs30 (t_X4_enqueue (d := d - 1) (Γ := Γ) (s := s) (N := N) (Mf := Mf) (W := W32) (x1 := v32_5) (by omega) hN hmate hM hpar hbase (by omega) ht25 (by omega) (by omega)) rfl (by omega) (Nat.le_of_ble_eq_true rfl) (Nat.zero_le _) (Nat.zero_le _) rfl (fun r27 hp26 n28 hq29 => ?_)
          obtain ⟨hnn28, ⟨W32, hW32a, hW32b, ht31⟩, hrr27⟩ := hq29
          subst n28 r27
          change Rn _ _ _ 68 _ [] _ _ _ _ _
          refine Rn.pick (lv' := [(0, .ref s), (3, .int (iv y7)), (4, .int (iv z22)), (5, .int (iv v32_5))]) [0, 1, 2, 3] rfl ?_
          exact B68 W32 _ ht31 ⟨by omega, by omega⟩
    refine Rn.pick (lv' := [(0, .ref s), (3, .int (iv y7)), (4, .int (iv z22)), (5, .int (iv 0))]) [3, 2, 1, 0] rfl ?_
    exact B32 (Int.toNat (16 - 0)) W _ ht20 0 ⟨by omega, by omega, by omega, by omega⟩ (by omega)
  · exact r_vret (pc := 11) dX4_meltRing_11 rfl ⟨rfl, ⟨W, by omega, by omega, ht6⟩, rfl⟩
set_option maxHeartbeats 4000000 in
set_option maxRecDepth 100000 in
theorem t_X4_search {D : va_G} {cI cJ cZ cT : ClassId} {lo b L : Nat} {xs : Nat → Int32} {hp : MH} {n d : Nat} {Γ : TG} {s N : Nat} {Mf : Nat → Int} {rA : Nat} {x1 x2 : Int} (hd0 : 2 ≤ d) (hN : N ≤ 16) (hmate : rd Γ (s + 1) (xI cI 16 Mf)) (hM : Rfx 16 (-1) ((N : Int) - 1) Mf) (hO : Γ s = some (tO 4 (prR s))) (hpar : Γ (s + 2) = some (tI cI 16 (rg (-1) 15))) (hbase : Γ (s + 3) = some (tI cI 16 (rg 0 15))) (hq : Γ (s + 4) = some (tI cI 16 (rg 0 15))) (hr : rd Γ rA (tI cI N (rg 0 65535))) (hsep : s + 5 ≤ rA) (ht : Tw Γ hp) (hx1 : 0 ≤ x1 ∧ x1 < (N : Int)) (hx2 : 0 ≤ x2 ∧ x2 ≤ 65535) : Mt (gG D cI cJ cZ cT lo b L xs) mX4_search d 0 0 [.ref s, .ref rA, .int (iv x1), .int (iv x2)] hp n (pI (ov Γ (s + 2) (tI cI 16 (rg (-1) ((N : Int) - 1)))) n (fun r => -1 ≤ r ∧ r ≤ 15 ∧ r < (N : Int))) := by
  refine Mt.of rfl (Nat.le_of_ble_eq_true rfl) ?_
  refine Rn.pick (lv' := [(0, .ref s), (1, .ref rA), (2, .int (iv x1)), (3, .int (iv x2))]) [0, 1, 2, 3] rfl ?_
  refine r_aload_n (pc := 0) dX4_search_0 (i := 0) rfl rfl ?_
  refine t_getE (pc := 1) (.ref (s + 2)) ht (rd_of hO) fX4_15 dX4_search_1 rfl ?_
  refine r_iconst (pc := 4) (v := iv (-1)) dX4_search_4 (by decide) ?_
  refine t_fillS (pc := 5) (l1 := -1) (h1 := (N : Int) - 1) ht hpar kX4_24 dX4_search_5 (by omega) (by omega) (by omega) (by omega) (Nat.le_of_ble_eq_true rfl) (fun hp1 ht2 => ?_)
  obtain ⟨Bb0, hBb0, ht5⟩ := ht2.openI (rd_of (eq_ov (by omega) hbase))
  have hBi0 : Bi Bb0 0 := fun i hi => by omega
  refine r_iconst (pc := 8) (v := iv 0) dX4_search_8 (by decide) ?_
  refine r_istore (pc := 9) (lv' := [(4, .int (iv 0)), (0, .ref s), (1, .ref rA), (2, .int (iv x1)), (3, .int (iv x2))]) dX4_search_9 (by decide) rfl ?_
  have B11 : ∀ k : Nat, ∀ Bb11 : Nat → Int, ∀ hp11 : MH, Tw (ov (ov Γ (s + 2) (tI cI 16 (rg (-1) ((N : Int) - 1)))) (s + 3) (xI cI 16 Bb11)) hp11 → ∀  (v11_4 : Int), 0 ≤ v11_4 ∧ v11_4 ≤ 16 ∧ Bi Bb11 v11_4 → 16 - v11_4 ≤ (k : Int) → Rn (gG D cI cJ cZ cT lo b L xs) mX4_search d 11 [(0, .ref s), (1, .ref rA), (2, .int (iv x1)), (3, .int (iv x2)), (4, .int (iv v11_4))] [] hp11 n 0 0 (pI (ov Γ (s + 2) (tI cI 16 (rg (-1) ((N : Int) - 1)))) n (fun r => -1 ≤ r ∧ r ≤ 15 ∧ r < (N : Int))) := by
    refine lpS _ ?_
    intro k11 ih11 Bb11 hp11 ht11 v11_4 hf11 hm11
    obtain ⟨hf11_0, hf11_1, ha11_2⟩ := hf11
    refine r_iload (pc := 11) dX4_search_11 rfl ?_
    refine r_bipush (pc := 13) (v := iv 16) dX4_search_13 (by decide) ?_
    refine t_icmp_ge (pc := 15) (tgt := 33) dX4_search_15 (by decide) (by omega) (by omega) (fun c15 => ?_) (fun c15 => ?_)
    · refine r_aload_n (pc := 33) dX4_search_33 (i := 0) rfl rfl ?_
      refine r_iconst (pc := 34) (v := iv 0) dX4_search_34 (by decide) ?_
      have ht33 := Tw.reI (P := bsP N) ht11 (fun i hi => by have hb9 := (show Bi Bb11 v11_4 by assumption) i (by omega); exact ⟨by omega, by omega, by omega, by omega⟩)
      refine t_putX (pc := 35) (ty := .int) (Fs := prR s) ht33 (eq_ov (by omega) (eq_ov (by omega) hO)) fX4_51 tyX4 tyX4_ok nmX4 (by decide +kernel) (Or.inl rfl) dX4_search_35 (Nat.le_of_ble_eq_true rfl) rfl rfl rfl (fun hp35 ht35a => ?_)
      have ht35b := Tw.cast (T1 := tI cI 16 (quP N 0)) ht35a (eq_ov (by omega) (eq_ov (by omega) (eq_ov (by omega) hq))) (tI_imp (fun i v _ h => ⟨h.1, h.2, fun h9 => by omega⟩))
      obtain ⟨Γ2, hΓ2⟩ : ∃ Γ2, Γ2 = ov (ov Γ (s + 2) (tI cI 16 (rg (-1) ((N : Int) - 1)))) (s + 3) (tI cI 16 (bsP N)) := ⟨_, rfl⟩
      have ht35 : Tw (psN Γ2 cI s N 0) hp35 := by rw [hΓ2]; exact ht35b
      have hmate2 : rd Γ2 (s + 1) (xI cI 16 Mf) := by rw [hΓ2]; exact rd_ov (by omega) (rd_ov (by omega) hmate)
      have hpar2 : Γ2 (s + 2) = some (tI cI 16 (rg (-1) ((N : Int) - 1))) := by rw [hΓ2]; exact eq_ov (by omega) (ov_s _ _ _)
      have hbase2 : Γ2 (s + 3) = some (tI cI 16 (bsP N)) := by rw [hΓ2]; exact ov_s _ _ _
      have hr2 : rd Γ2 rA (tI cI N (rg 0 65535)) := by rw [hΓ2]; exact rd_ov (by omega) (rd_ov (by omega) hr)
      refine r_aload_n (pc := 38) dX4_search_38 (i := 0) rfl rfl ?_
      refine r_iconst (pc := 39) (v := iv 0) dX4_search_39 (by decide) ?_
      refine t_putI (pc := 40) (ty := .int) ht35 (eq_ov (by omega) (ov_s _ _ _)) fX4_54 tyX4 tyX4_ok nmX4 (by decide +kernel) (Or.inl rfl) dX4_search_40 rfl rfl rfl (by omega) (fun hp3 ht4 => ?_)
      refine r_aload_n (pc := 43) dX4_search_43 (i := 0) rfl rfl ?_
      refine r_iload_n (pc := 44) dX4_search_44 (i := 2) rfl rfl ?_
      obtain ⟨fs9, hfs9⟩ := t_obj ht4 (rd_ov (by omega) (rd_of (ov_s _ _ _)))
      refine r_callV (pc := 45) (as := [.int (iv x1)]) (st := []) kX4_57 rfl dX4_search_45 hfs9 (t_X4_enqueue (d := d - 1) (Γ := Γ2) (s := s) (N := N) (Mf := Mf) (W := 0) (x1 := x1) (by omega) hN hmate2 hM hpar2 hbase2 (by omega) ht4 (by omega) (by omega)) rfl (by omega) (Nat.le_of_ble_eq_true rfl) (Nat.zero_le _) (Nat.zero_le _) rfl (fun r6 hp5 n7 hq8 => ?_)
      obtain ⟨hnn7, ⟨W11, hW11a, hW11b, ht10⟩, hrr6⟩ := hq8
      subst n7 r6
      change Rn _ _ _ 48 _ [] _ _ _ _ _
      refine r_iconst (pc := 48) (v := iv 0) dX4_search_48 (by decide) ?_
      refine r_istore (pc := 49) (lv' := [(4, .int (iv 0)), (0, .ref s), (1, .ref rA), (2, .int (iv x1)), (3, .int (iv x2))]) dX4_search_49 (by decide) rfl ?_
      have B51 : ∀ k : Nat, ∀ W51 : Int, ∀ hp51 : MH, Tw (ov (ov Γ2 s (tO 4 (prF s W51))) (s + 4) (tI cI 16 (quP N W51))) hp51 → ∀  (v51_4 : Int), 0 ≤ v51_4 ∧ v51_4 ≤ 16 ∧ 0 ≤ W51 ∧ W51 ≤ 16 → 16 - v51_4 ≤ (k : Int) → Rn (gG D cI cJ cZ cT lo b L xs) mX4_search d 51 [(0, .ref s), (1, .ref rA), (2, .int (iv x1)), (3, .int (iv x2)), (4, .int (iv v51_4))] [] hp51 n 0 0 (pI (ov Γ (s + 2) (tI cI 16 (rg (-1) ((N : Int) - 1)))) n (fun r => -1 ≤ r ∧ r ≤ 15 ∧ r < (N : Int))) := by
        refine lpS _ ?_
        intro k51 ih51 W51 hp51 ht51 v51_4 hf51 hm51
        refine r_iload (pc := 51) dX4_search_51 rfl ?_
        refine r_bipush (pc := 53) (v := iv 16) dX4_search_53 (by decide) ?_
        have B228 : ∀ hp228 : MH, Tw (ov (ov Γ2 s (tO 4 (prF s W51))) (s + 4) (tI cI 16 (quP N W51))) hp228 → True → Rn (gG D cI cJ cZ cT lo b L xs) mX4_search d 228 [] [] hp228 n 0 0 (pI (ov Γ (s + 2) (tI cI 16 (rg (-1) ((N : Int) - 1)))) n (fun r => -1 ≤ r ∧ r ≤ 15 ∧ r < (N : Int))) := by
          intro hp228 ht228 hf228
          refine r_iconst (pc := 228) (v := iv (-1)) dX4_search_228 (by decide) ?_
          exact r_iret (pc := 229) dX4_search_229 rfl ⟨rfl, prClose (by rw [hΓ2] at ht228; exact ht228) hO hbase hq (by omega), _, rfl, by omega, by omega, by omega⟩
        refine t_icmp_ge (pc := 55) (tgt := 228) dX4_search_55 (by decide) (by omega) (by omega) (fun c55 => ?_) (fun c55 => ?_)
        · refine Rn.pick (lv' := []) [] rfl ?_
          exact B228 _ ht51 trivial
        · refine r_iload (pc := 58) dX4_search_58 rfl ?_
          refine r_aload_n (pc := 60) dX4_search_60 (i := 0) rfl rfl ?_
          refine t_getE (pc := 61) (.int (iv W51)) ht51 (rd_ov (by omega) (rd_of (ov_s _ _ _))) fX4_51 dX4_search_61 rfl ?_
          refine t_icmp_ge (pc := 64) (tgt := 228) dX4_search_64 (by decide) (by omega) (by omega) (fun c64 => ?_) (fun c64 => ?_)
          · refine Rn.pick (lv' := []) [] rfl ?_
            exact B228 _ ht51 trivial
          · refine r_aload_n (pc := 67) dX4_search_67 (i := 0) rfl rfl ?_
            refine t_getE (pc := 68) (.ref (s + 4)) ht51 (rd_ov (by omega) (rd_of (ov_s _ _ _))) fX4_21 dX4_search_68 rfl ?_
            refine r_iload (pc := 71) dX4_search_71 rfl ?_
            refine t_iald (pc := 73) (t0 := 0) ht51 (rd_of (ov_s _ _ _)) dX4_search_73 rfl (by decide) (by omega) (fun y12 by12 py12 => ?_)
            obtain ⟨py120, py121, py122⟩ := py12
            refine r_istore (pc := 74) (lv' := [(5, .int (iv y12)), (0, .ref s), (1, .ref rA), (2, .int (iv x1)), (3, .int (iv x2)), (4, .int (iv v51_4))]) dX4_search_74 (by decide) rfl ?_
            refine r_iconst (pc := 76) (v := iv 0) dX4_search_76 (by decide) ?_
            refine r_istore (pc := 77) (lv' := [(6, .int (iv 0)), (5, .int (iv y12)), (0, .ref s), (1, .ref rA), (2, .int (iv x1)), (3, .int (iv x2)), (4, .int (iv v51_4))]) dX4_search_77 (by decide) rfl ?_
            have B79 : ∀ k : Nat, ∀ W79 : Int, ∀ hp79 : MH, Tw (ov (ov Γ2 s (tO 4 (prF s W79))) (s + 4) (tI cI 16 (quP N W79))) hp79 → ∀  (v79_6 : Int), 0 ≤ v79_6 ∧ v79_6 ≤ 16 ∧ 0 ≤ W79 ∧ W79 ≤ 16 ∧ y12 < (N : Int) → 16 - v79_6 ≤ (k : Int) → Rn (gG D cI cJ cZ cT lo b L xs) mX4_search d 79 [(0, .ref s), (1, .ref rA), (2, .int (iv x1)), (3, .int (iv x2)), (4, .int (iv v51_4)), (5, .int (iv y12)), (6, .int (iv v79_6))] [] hp79 n 0 0 (pI (ov Γ (s + 2) (tI cI 16 (rg (-1) ((N : Int) - 1)))) n (fun r => -1 ≤ r ∧ r ≤ 15 ∧ r < (N : Int))) := by
              refine lpS _ ?_
              intro k79 ih79 W79 hp79 ht79 v79_6 hf79 hm79
              refine r_iload (pc := 79) dX4_search_79 rfl ?_
              refine r_aload_n (pc := 81) dX4_search_81 (i := 1) rfl rfl ?_
              refine t_lenI (pc := 82) (t0 := 0) ht79 (rd_ov (by omega) (rd_ov (by omega) hr2)) dX4_search_82 rfl ?_
              refine t_icmp_ge (pc := 83) (tgt := 222) dX4_search_83 (by decide) (by omega) (by omega) (fun c83 => ?_) (fun c83 => ?_)
              · refine r_iinc (pc := 222) (v := iv (v51_4 + 1)) (lv' := [(4, .int (iv (v51_4 + 1))), (0, .ref s), (1, .ref rA), (2, .int (iv x1)), (3, .int (iv x2)), (5, .int (iv y12)), (6, .int (iv v79_6))]) dX4_search_222 rfl (iv_add _ _) (by decide) rfl ?_
                refine r_goto (pc := 225) (tgt := 51) dX4_search_225 (by decide) ?_
                refine Rn.pick (lv' := [(0, .ref s), (1, .ref rA), (2, .int (iv x1)), (3, .int (iv x2)), (4, .int (iv (v51_4 + 1)))]) [1, 2, 3, 4, 0] rfl ?_
                exact ih51 (Int.toNat (16 - (v51_4 + 1))) (by omega) W79 _ ht79 (v51_4 + 1) ⟨by omega, by omega, by omega, by omega⟩ (by omega)
              · refine r_aload_n (pc := 86) dX4_search_86 (i := 1) rfl rfl ?_
                refine r_iload (pc := 87) dX4_search_87 rfl ?_
                refine t_ialdR (pc := 89) (t0 := 0) ht79 (rd_ov (by omega) (rd_ov (by omega) hr2)) dX4_search_89 rfl (by omega) (by omega) (fun y13 by13 => ?_)
                refine r_iload_n (pc := 90) dX4_search_90 (i := 3) rfl rfl ?_
                refine r_iconst (pc := 91) (v := iv (-1)) dX4_search_91 (by decide) ?_
                refine r_ixor (pc := 92) (v := iv (-x2 - 1)) dX4_search_92 (iv_not _) ?_
                obtain ⟨z14, hz14, bz14⟩ := and_l y13 (-x2 - 1) (by omega) (by omega)
                refine r_iand (pc := 93) (v := iv z14) dX4_search_93 hz14 ?_
                refine r_iload (pc := 94) dX4_search_94 rfl ?_
                obtain ⟨z15, hz15, bz15⟩ := shr_x z14 v79_6 (by omega) (by omega)
                refine r_ishr (pc := 96) (v := iv z15) dX4_search_96 hz15 ?_
                refine r_iconst (pc := 97) (v := iv 1) dX4_search_97 (by decide) ?_
                obtain ⟨z16, hz16, bz16⟩ := and_2 z15 1 (by omega) (by omega)
                refine r_iand (pc := 98) (v := iv z16) dX4_search_98 hz16 ?_
                have B216 : ∀ W216 : Int, ∀ hp216 : MH, Tw (ov (ov Γ2 s (tO 4 (prF s W216))) (s + 4) (tI cI 16 (quP N W216))) hp216 → 0 ≤ W216 ∧ W216 ≤ 16 → Rn (gG D cI cJ cZ cT lo b L xs) mX4_search d 216 [(0, .ref s), (1, .ref rA), (2, .int (iv x1)), (3, .int (iv x2)), (4, .int (iv v51_4)), (5, .int (iv y12)), (6, .int (iv v79_6))] [] hp216 n 0 0 (pI (ov Γ (s + 2) (tI cI 16 (rg (-1) ((N : Int) - 1)))) n (fun r => -1 ≤ r ∧ r ≤ 15 ∧ r < (N : Int))) := by
                  intro W216 hp216 ht216 hf216
                  refine r_iinc (pc := 216) (v := iv (v79_6 + 1)) (lv' := [(6, .int (iv (v79_6 + 1))), (0, .ref s), (1, .ref rA), (2, .int (iv x1)), (3, .int (iv x2)), (4, .int (iv v51_4)), (5, .int (iv y12))]) dX4_search_216 rfl (iv_add _ _) (by decide) rfl ?_
                  refine r_goto (pc := 219) (tgt := 79) dX4_search_219 (by decide) ?_
                  refine Rn.pick (lv' := [(0, .ref s), (1, .ref rA), (2, .int (iv x1)), (3, .int (iv x2)), (4, .int (iv v51_4)), (5, .int (iv y12)), (6, .int (iv (v79_6 + 1)))]) [1, 2, 3, 4, 5, 6, 0] rfl ?_
                  exact ih79 (Int.toNat (16 - (v79_6 + 1))) (by omega) W216 _ ht216 (v79_6 + 1) ⟨by omega, by omega, by omega, by omega, by omega⟩ (by omega)
                refine t_if_eq (pc := 99) (tgt := 216) dX4_search_99 (by decide) (by omega) (fun c99 => ?_) (fun c99 => ?_)
                · refine Rn.pick (lv' := [(0, .ref s), (1, .ref rA), (2, .int (iv x1)), (3, .int (iv x2)), (4, .int (iv v51_4)), (5, .int (iv y12)), (6, .int (iv v79_6))]) [0, 1, 2, 3, 4, 5, 6] rfl ?_
                  exact B216 W79 _ ht79 ⟨by omega, by omega⟩
                · refine r_aload_n (pc := 102) dX4_search_102 (i := 0) rfl rfl ?_
                  refine t_getE (pc := 103) (.ref (s + 3)) ht79 (rd_ov (by omega) (rd_of (ov_s _ _ _))) fX4_18 dX4_search_103 rfl ?_
                  refine r_iload (pc := 106) dX4_search_106 rfl ?_
                  refine t_iald (pc := 108) (t0 := 0) ht79 (rd_ov (by omega) (rd_ov (by omega) (rd_of hbase2))) dX4_search_108 rfl (by decide) (by omega) (fun y17 by17 py17 => ?_)
                  obtain ⟨py170, py171, py172, py173⟩ := py17
                  refine r_aload_n (pc := 109) dX4_search_109 (i := 0) rfl rfl ?_
                  refine t_getE (pc := 110) (.ref (s + 3)) ht79 (rd_ov (by omega) (rd_of (ov_s _ _ _))) fX4_18 dX4_search_110 rfl ?_
                  refine r_iload (pc := 113) dX4_search_113 rfl ?_
                  refine t_iald (pc := 115) (t0 := 0) ht79 (rd_ov (by omega) (rd_ov (by omega) (rd_of hbase2))) dX4_search_115 rfl (by decide) (by omega) (fun y18 by18 py18 => ?_)
                  obtain ⟨py180, py181, py182, py183⟩ := py18
                  refine t_icmp_eq (pc := 116) (tgt := 216) dX4_search_116 (by decide) (by omega) (by omega) (fun c116 => ?_) (fun c116 => ?_)
                  · refine Rn.pick (lv' := [(0, .ref s), (1, .ref rA), (2, .int (iv x1)), (3, .int (iv x2)), (4, .int (iv v51_4)), (5, .int (iv y12)), (6, .int (iv v79_6))]) [0, 1, 2, 3, 4, 5, 6] rfl ?_
                    exact B216 W79 _ ht79 ⟨by omega, by omega⟩
                  · refine r_aload_n (pc := 119) dX4_search_119 (i := 0) rfl rfl ?_
                    refine t_getE (pc := 120) (.ref (s + 1)) ht79 (rd_ov (by omega) (rd_of (ov_s _ _ _))) fX4_9 dX4_search_120 rfl ?_
                    refine r_iload (pc := 123) dX4_search_123 rfl ?_
                    refine t_ialdX (pc := 125) (t0 := 0) ht79 (rd_ov (by omega) (rd_ov (by omega) hmate2)) dX4_search_125 rfl (by decide) (by omega) (fun b19 => ?_)
                    have rb19 := (show Rfx 16 (-1) ((N : Int) - 1) Mf by assumption) (Int.toNat y12) (by omega)
                    refine r_iload (pc := 126) dX4_search_126 rfl ?_
                    refine t_icmp_eq (pc := 128) (tgt := 216) dX4_search_128 (by decide) (by omega) (by omega) (fun c128 => ?_) (fun c128 => ?_)
                    · refine Rn.pick (lv' := [(0, .ref s), (1, .ref rA), (2, .int (iv x1)), (3, .int (iv x2)), (4, .int (iv v51_4)), (5, .int (iv y12)), (6, .int (iv v79_6))]) [0, 1, 2, 3, 4, 5, 6] rfl ?_
                      exact B216 W79 _ ht79 ⟨by omega, by omega⟩
                    · refine r_iload (pc := 131) dX4_search_131 rfl ?_
                      refine r_iload_n (pc := 133) dX4_search_133 (i := 2) rfl rfl ?_
                      have B162 : ∀ hp162 : MH, Tw (ov (ov Γ2 s (tO 4 (prF s W79))) (s + 4) (tI cI 16 (quP N W79))) hp162 → 0 ≤ W79 ∧ W79 ≤ 16 → Rn (gG D cI cJ cZ cT lo b L xs) mX4_search d 162 [(0, .ref s), (1, .ref rA), (2, .int (iv x1)), (3, .int (iv x2)), (4, .int (iv v51_4)), (5, .int (iv y12)), (6, .int (iv v79_6))] [] hp162 n 0 0 (pI (ov Γ (s + 2) (tI cI 16 (rg (-1) ((N : Int) - 1)))) n (fun r => -1 ≤ r ∧ r ≤ 15 ∧ r < (N : Int))) := by
                        intro hp162 ht162 hf162
                        refine r_aload_n (pc := 162) dX4_search_162 (i := 0) rfl rfl ?_
                        refine r_iload (pc := 163) dX4_search_163 rfl ?_
                        refine r_iload (pc := 165) dX4_search_165 rfl ?_
                        obtain ⟨fs24, hfs24⟩ := t_obj ht162 (rd_ov (by omega) (rd_of (ov_s _ _ _)))
                        refine r_callV (pc := 167) (as := [.int (iv y12), .int (iv v79_6)]) (st := []) kX4_60 rfl dX4_search_167 hfs24 (t_X4_meltRing (d := d - 1) (Γ := Γ2) (s := s) (N := N) (Mf := Mf) (W := W79) (x1 := y12) (x2 := v79_6) (by omega) hN hmate2 hM hpar2 hbase2 (by omega) ht162 (by omega) (by omega) (by omega)) rfl (by omega) (Nat.le_of_ble_eq_true rfl) (Nat.zero_le _) (Nat.zero_le _) rfl (fun r21 hp20 n22 hq23 => ?_)
                        obtain ⟨hnn22, ⟨W26, hW26a, hW26b, ht25⟩, hrr21⟩ := hq23
                        subst n22 r21
                        change Rn _ _ _ 170 _ [] _ _ _ _ _
                        refine r_goto (pc := 170) (tgt := 216) dX4_search_170 (by decide) ?_
                        refine Rn.pick (lv' := [(0, .ref s), (1, .ref rA), (2, .int (iv x1)), (3, .int (iv x2)), (4, .int (iv v51_4)), (5, .int (iv y12)), (6, .int (iv v79_6))]) [0, 1, 2, 3, 4, 5, 6] rfl ?_
                        exact B216 W26 _ ht25 ⟨by omega, by omega⟩
                      refine t_icmp_eq (pc := 134) (tgt := 162) dX4_search_134 (by decide) (by omega) (by omega) (fun c134 => ?_) (fun c134 => ?_)
                      · refine Rn.pick (lv' := [(0, .ref s), (1, .ref rA), (2, .int (iv x1)), (3, .int (iv x2)), (4, .int (iv v51_4)), (5, .int (iv y12)), (6, .int (iv v79_6))]) [0, 1, 2, 3, 4, 5, 6] rfl ?_
                        exact B162 _ ht79 ⟨by omega, by omega⟩
                      · refine r_aload_n (pc := 137) dX4_search_137 (i := 0) rfl rfl ?_
                        refine t_getE (pc := 138) (.ref (s + 1)) ht79 (rd_ov (by omega) (rd_of (ov_s _ _ _))) fX4_9 dX4_search_138 rfl ?_
                        refine r_iload (pc := 141) dX4_search_141 rfl ?_
                        refine t_ialdX (pc := 143) (t0 := 0) ht79 (rd_ov (by omega) (rd_ov (by omega) hmate2)) dX4_search_143 rfl (by decide) (by omega) (fun b27 => ?_)
                        have rb27 := (show Rfx 16 (-1) ((N : Int) - 1) Mf by assumption) (Int.toNat v79_6) (by omega)
                        have B173 : ∀ hp173 : MH, Tw (ov (ov Γ2 s (tO 4 (prF s W79))) (s + 4) (tI cI 16 (quP N W79))) hp173 → 0 ≤ W79 ∧ W79 ≤ 16 → Rn (gG D cI cJ cZ cT lo b L xs) mX4_search d 173 [(0, .ref s), (1, .ref rA), (2, .int (iv x1)), (3, .int (iv x2)), (4, .int (iv v51_4)), (5, .int (iv y12)), (6, .int (iv v79_6))] [] hp173 n 0 0 (pI (ov Γ (s + 2) (tI cI 16 (rg (-1) ((N : Int) - 1)))) n (fun r => -1 ≤ r ∧ r ≤ 15 ∧ r < (N : Int))) := by
                          intro hp173 ht173 hf173
                          refine r_aload_n (pc := 173) dX4_search_173 (i := 0) rfl rfl ?_
                          refine t_getE (pc := 174) (.ref (s + 2)) ht173 (rd_ov (by omega) (rd_of (ov_s _ _ _))) fX4_15 dX4_search_174 rfl ?_
                          refine r_iload (pc := 177) dX4_search_177 rfl ?_
                          refine t_ialdR (pc := 179) (t0 := 0) ht173 (rd_ov (by omega) (rd_ov (by omega) (rd_of hpar2))) dX4_search_179 rfl (by decide) (by omega) (fun y28 by28 => ?_)
                          refine t_if_ge (pc := 180) (tgt := 216) dX4_search_180 (by decide) (by omega) (fun c180 => ?_) (fun c180 => ?_)
                          · refine Rn.pick (lv' := [(0, .ref s), (1, .ref rA), (2, .int (iv x1)), (3, .int (iv x2)), (4, .int (iv v51_4)), (5, .int (iv y12)), (6, .int (iv v79_6))]) [0, 1, 2, 3, 4, 5, 6] rfl ?_
                            exact B216 W79 _ ht173 ⟨by omega, by omega⟩
                          · refine r_aload_n (pc := 183) dX4_search_183 (i := 0) rfl rfl ?_
                            refine t_getE (pc := 184) (.ref (s + 2)) ht173 (rd_ov (by omega) (rd_of (ov_s _ _ _))) fX4_15 dX4_search_184 rfl ?_
                            refine r_iload (pc := 187) dX4_search_187 rfl ?_
                            refine r_iload (pc := 189) dX4_search_189 rfl ?_
                            refine t_iastR (pc := 191) (t0 := 0) ht173 (eq_ov (by omega) (eq_ov (by omega) hpar2)) dX4_search_191 rfl (by decide) (by omega) (by omega) (by omega) (fun hp29 ht30 => ?_)
                            refine r_aload_n (pc := 192) dX4_search_192 (i := 0) rfl rfl ?_
                            refine t_getE (pc := 193) (.ref (s + 1)) ht30 (rd_ov (by omega) (rd_of (ov_s _ _ _))) fX4_9 dX4_search_193 rfl ?_
                            refine r_iload (pc := 196) dX4_search_196 rfl ?_
                            refine t_ialdX (pc := 198) (t0 := 0) ht30 (rd_ov (by omega) (rd_ov (by omega) hmate2)) dX4_search_198 rfl (by decide) (by omega) (fun b31 => ?_)
                            have rb31 := (show Rfx 16 (-1) ((N : Int) - 1) Mf by assumption) (Int.toNat v79_6) (by omega)
                            refine t_if_ge (pc := 199) (tgt := 205) dX4_search_199 (by decide) (by omega) (fun c199 => ?_) (fun c199 => ?_)
                            · refine r_aload_n (pc := 205) dX4_search_205 (i := 0) rfl rfl ?_
                              refine r_aload_n (pc := 206) dX4_search_206 (i := 0) rfl rfl ?_
                              refine t_getE (pc := 207) (.ref (s + 1)) ht30 (rd_ov (by omega) (rd_of (ov_s _ _ _))) fX4_9 dX4_search_207 rfl ?_
                              refine r_iload (pc := 210) dX4_search_210 rfl ?_
                              refine t_ialdX (pc := 212) (t0 := 0) ht30 (rd_ov (by omega) (rd_ov (by omega) hmate2)) dX4_search_212 rfl (by decide) (by omega) (fun b32 => ?_)
                              have rb32 := (show Rfx 16 (-1) ((N : Int) - 1) Mf by assumption) (Int.toNat v79_6) (by omega)
                              obtain ⟨fs37, hfs37⟩ := t_obj ht30 (rd_ov (by omega) (rd_of (ov_s _ _ _)))
                              refine r_callV (pc := 213) (as := [.int (iv (Mf (Int.toNat v79_6)))]) (st := []) kX4_57 rfl dX4_search_213 hfs37 (t_X4_enqueue (d := d - 1) (Γ := Γ2) (s := s) (N := N) (Mf := Mf) (W := W79) (x1 := Mf (Int.toNat v79_6)) (by omega) hN hmate2 hM hpar2 hbase2 (by omega) ht30 (by omega) (by omega)) rfl (by omega) (Nat.le_of_ble_eq_true rfl) (Nat.zero_le _) (Nat.zero_le _) rfl (fun r34 hp33 n35 hq36 => ?_)
                              obtain ⟨hnn35, ⟨W39, hW39a, hW39b, ht38⟩, hrr34⟩ := hq36
                              subst n35 r34
                              change Rn _ _ _ 216 _ [] _ _ _ _ _
                              refine Rn.pick (lv' := [(0, .ref s), (1, .ref rA), (2, .int (iv x1)), (3, .int (iv x2)), (4, .int (iv v51_4)), (5, .int (iv y12)), (6, .int (iv v79_6))]) [0, 1, 2, 3, 4, 5, 6] rfl ?_
                              exact B216 W39 _ ht38 ⟨by omega, by omega⟩
                            · refine r_iload (pc := 202) dX4_search_202 rfl ?_
                              exact r_iret (pc := 204) dX4_search_204 rfl ⟨rfl, prClose (by rw [hΓ2] at ht30; exact ht30) hO hbase hq (by omega), _, rfl, by omega, by omega, by omega⟩
                        refine t_if_lt (pc := 144) (tgt := 173) dX4_search_144 (by decide) (by omega) (fun c144 => ?_) (fun c144 => ?_)
                        · refine Rn.pick (lv' := [(0, .ref s), (1, .ref rA), (2, .int (iv x1)), (3, .int (iv x2)), (4, .int (iv v51_4)), (5, .int (iv y12)), (6, .int (iv v79_6))]) [0, 1, 2, 3, 4, 5, 6] rfl ?_
                          exact B173 _ ht79 ⟨by omega, by omega⟩
                        · refine r_aload_n (pc := 147) dX4_search_147 (i := 0) rfl rfl ?_
                          refine t_getE (pc := 148) (.ref (s + 2)) ht79 (rd_ov (by omega) (rd_of (ov_s _ _ _))) fX4_15 dX4_search_148 rfl ?_
                          refine r_aload_n (pc := 151) dX4_search_151 (i := 0) rfl rfl ?_
                          refine t_getE (pc := 152) (.ref (s + 1)) ht79 (rd_ov (by omega) (rd_of (ov_s _ _ _))) fX4_9 dX4_search_152 rfl ?_
                          refine r_iload (pc := 155) dX4_search_155 rfl ?_
                          refine t_ialdX (pc := 157) (t0 := 0) ht79 (rd_ov (by omega) (rd_ov (by omega) hmate2)) dX4_search_157 rfl (by decide) (by omega) (fun b40 => ?_)
                          have rb40 := (show Rfx 16 (-1) ((N : Int) - 1) Mf by assumption) (Int.toNat v79_6) (by omega)
                          refine t_ialdR (pc := 158) (t0 := 0) ht79 (rd_ov (by omega) (rd_ov (by omega) (rd_of hpar2))) dX4_search_158 rfl (by decide) (by omega) (fun y41 by41 => ?_)
                          refine t_if_lt (pc := 159) (tgt := 173) dX4_search_159 (by decide) (by omega) (fun c159 => ?_) (fun c159 => ?_)
                          · refine Rn.pick (lv' := [(0, .ref s), (1, .ref rA), (2, .int (iv x1)), (3, .int (iv x2)), (4, .int (iv v51_4)), (5, .int (iv y12)), (6, .int (iv v79_6))]) [0, 1, 2, 3, 4, 5, 6] rfl ?_
                            exact B173 _ ht79 ⟨by omega, by omega⟩
                          · refine Rn.pick (lv' := [(0, .ref s), (1, .ref rA), (2, .int (iv x1)), (3, .int (iv x2)), (4, .int (iv v51_4)), (5, .int (iv y12)), (6, .int (iv v79_6))]) [0, 1, 2, 3, 4, 5, 6] rfl ?_
                            exact B162 _ ht79 ⟨by omega, by omega⟩
            refine Rn.pick (lv' := [(0, .ref s), (1, .ref rA), (2, .int (iv x1)), (3, .int (iv x2)), (4, .int (iv v51_4)), (5, .int (iv y12)), (6, .int (iv 0))]) [2, 3, 4, 5, 6, 1, 0] rfl ?_
            exact B79 (Int.toNat (16 - 0)) W51 _ ht51 0 ⟨by omega, by omega, by omega, by omega, by omega⟩ (by omega)
      refine Rn.pick (lv' := [(0, .ref s), (1, .ref rA), (2, .int (iv x1)), (3, .int (iv x2)), (4, .int (iv 0))]) [1, 2, 3, 4, 0] rfl ?_
      exact B51 (Int.toNat (16 - 0)) W11 _ ht10 0 ⟨by omega, by omega, by omega, by omega⟩ (by omega)
    · refine r_aload_n (pc := 18) dX4_search_18 (i := 0) rfl rfl ?_
      refine t_getE (pc := 19) (.ref (s + 3)) ht11 (rd_ov (by omega) (rd_ov (by omega) (rd_of hO))) fX4_18 dX4_search_19 rfl ?_
      refine r_iload (pc := 22) dX4_search_22 rfl ?_
      refine r_iload (pc := 24) dX4_search_24 rfl ?_
      refine t_iastX (pc := 26) (t0 := 0) ht11 (ov_s _ _ _) dX4_search_26 rfl (by decide) (by omega) (by omega) (fun hp42 ht43 => ?_)
      rw [ov_ov] at ht43
      have hBi26 : Bi (fup Bb11 (Int.toNat v11_4) v11_4) (v11_4 + 1) := Bi_up (by assumption) (by omega)
      refine r_iinc (pc := 27) (v := iv (v11_4 + 1)) (lv' := [(4, .int (iv (v11_4 + 1))), (0, .ref s), (1, .ref rA), (2, .int (iv x1)), (3, .int (iv x2))]) dX4_search_27 rfl (iv_add _ _) (by decide) rfl ?_
      refine r_goto (pc := 30) (tgt := 11) dX4_search_30 (by decide) ?_
      refine Rn.pick (lv' := [(0, .ref s), (1, .ref rA), (2, .int (iv x1)), (3, .int (iv x2)), (4, .int (iv (v11_4 + 1)))]) [1, 2, 3, 4, 0] rfl ?_
      exact ih11 (Int.toNat (16 - (v11_4 + 1))) (by omega) (fup Bb11 (Int.toNat v11_4) v11_4) _ ht43 (v11_4 + 1) ⟨by omega, by omega, by assumption⟩ (by omega)
  refine Rn.pick (lv' := [(0, .ref s), (1, .ref rA), (2, .int (iv x1)), (3, .int (iv x2)), (4, .int (iv 0))]) [1, 2, 3, 4, 0] rfl ?_
  exact B11 (Int.toNat (16 - 0)) Bb0 _ ht5 0 ⟨by omega, by omega, by assumption⟩ (by omega)
set_option maxHeartbeats 4000000 in
set_option maxRecDepth 100000 in
theorem t_X4_flip {D : va_G} {cI cJ cZ cT : ClassId} {lo b L : Nat} {xs : Nat → Int32} {hp : MH} {n d : Nat} {Γ : TG} {s N : Nat} {x1 : Int} (hd0 : 0 ≤ d) (hN : N ≤ 16) (hO : rd Γ s (tO 4 (prR s))) (hmate : Γ (s + 1) = some (tI cI 16 (rg (-1) ((N : Int) - 1)))) (hpar : rd Γ (s + 2) (tI cI 16 (rg (-1) ((N : Int) - 1)))) (ht : Tw Γ hp) (hx1 : 0 ≤ x1 ∧ x1 < (N : Int)) : Mt (gG D cI cJ cZ cT lo b L xs) mX4_flip d 0 0 [.ref s, .int (iv x1)] hp n (pV Γ n) := by
  refine Mt.of rfl (Nat.le_of_ble_eq_true rfl) ?_
  refine Rn.pick (lv' := [(0, .ref s), (1, .int (iv x1))]) [0, 1] rfl ?_
  refine r_iload_n (pc := 0) dX4_flip_0 (i := 1) rfl rfl ?_
  refine r_istore_n (pc := 1) (lv' := [(2, .int (iv x1)), (0, .ref s), (1, .int (iv x1))]) dX4_flip_1 (i := 2) rfl (by decide) rfl ?_
  refine r_iconst (pc := 2) (v := iv 0) dX4_flip_2 (by decide) ?_
  refine r_istore_n (pc := 3) (lv' := [(3, .int (iv 0)), (2, .int (iv x1)), (0, .ref s), (1, .int (iv x1))]) dX4_flip_3 (i := 3) rfl (by decide) rfl ?_
  have B4 : ∀ k : Nat, ∀ hp4 : MH, Tw Γ hp4 → ∀  (v4_2 : Int) (v4_3 : Int), (-1) ≤ v4_2 ∧ v4_2 ≤ 15 ∧ 0 ≤ v4_3 ∧ v4_3 ≤ 16 ∧ v4_2 < (N : Int) → 16 - v4_3 ≤ (k : Int) → Rn (gG D cI cJ cZ cT lo b L xs) mX4_flip d 4 [(0, .ref s), (2, .int (iv v4_2)), (3, .int (iv v4_3))] [] hp4 n 0 0 (pV Γ n) := by
    refine lpS _ ?_
    intro k4 ih4 hp4 ht4 v4_2 v4_3 hf4 hm4
    refine r_iload_n (pc := 4) dX4_flip_4 (i := 3) rfl rfl ?_
    refine r_bipush (pc := 5) (v := iv 16) dX4_flip_5 (by decide) ?_
    have B70 : ∀ hp70 : MH, Tw Γ hp70 → True → Rn (gG D cI cJ cZ cT lo b L xs) mX4_flip d 70 [] [] hp70 n 0 0 (pV Γ n) := by
      intro hp70 ht70 hf70
      exact r_vret (pc := 70) dX4_flip_70 rfl ⟨rfl, ht70, rfl⟩
    refine t_icmp_ge (pc := 7) (tgt := 70) dX4_flip_7 (by decide) (by omega) (by omega) (fun c7 => ?_) (fun c7 => ?_)
    · refine Rn.pick (lv' := []) [] rfl ?_
      exact B70 _ ht4 trivial
    · refine r_iload_n (pc := 10) dX4_flip_10 (i := 2) rfl rfl ?_
      refine t_if_lt (pc := 11) (tgt := 70) dX4_flip_11 (by decide) (by omega) (fun c11 => ?_) (fun c11 => ?_)
      · refine Rn.pick (lv' := []) [] rfl ?_
        exact B70 _ ht4 trivial
      · refine r_aload_n (pc := 14) dX4_flip_14 (i := 0) rfl rfl ?_
        refine t_getE (pc := 15) (.ref (s + 2)) ht4 hO fX4_15 dX4_flip_15 rfl ?_
        refine r_iload_n (pc := 18) dX4_flip_18 (i := 2) rfl rfl ?_
        refine t_ialdR (pc := 19) (t0 := 0) ht4 hpar dX4_flip_19 rfl (by decide) (by omega) (fun y1 by1 => ?_)
        refine r_istore (pc := 20) (lv' := [(4, .int (iv y1)), (0, .ref s), (2, .int (iv v4_2)), (3, .int (iv v4_3))]) dX4_flip_20 (by decide) rfl ?_
        refine r_iload (pc := 22) dX4_flip_22 rfl ?_
        have B38 : ∀ hp38 : MH, Tw Γ hp38 → ∀  (u38_0 : Int), (-1) ≤ u38_0 ∧ u38_0 ≤ 15 ∧ u38_0 < (N : Int) → Rn (gG D cI cJ cZ cT lo b L xs) mX4_flip d 38 [(0, .ref s), (2, .int (iv v4_2)), (3, .int (iv v4_3)), (4, .int (iv y1))] [.int (iv u38_0)] hp38 n 0 0 (pV Γ n) := by
          intro hp38 ht38 u38_0 hf38
          refine r_istore (pc := 38) (lv' := [(5, .int (iv u38_0)), (0, .ref s), (2, .int (iv v4_2)), (3, .int (iv v4_3)), (4, .int (iv y1))]) dX4_flip_38 (by decide) rfl ?_
          refine r_iload (pc := 40) dX4_flip_40 rfl ?_
          have B61 : ∀ hp61 : MH, Tw Γ hp61 → True → Rn (gG D cI cJ cZ cT lo b L xs) mX4_flip d 61 [(0, .ref s), (3, .int (iv v4_3)), (5, .int (iv u38_0))] [] hp61 n 0 0 (pV Γ n) := by
            intro hp61 ht61 hf61
            refine r_iload (pc := 61) dX4_flip_61 rfl ?_
            refine r_istore_n (pc := 63) (lv' := [(2, .int (iv u38_0)), (0, .ref s), (3, .int (iv v4_3)), (5, .int (iv u38_0))]) dX4_flip_63 (i := 2) rfl (by decide) rfl ?_
            refine r_iinc (pc := 64) (v := iv (v4_3 + 1)) (lv' := [(3, .int (iv (v4_3 + 1))), (2, .int (iv u38_0)), (0, .ref s), (5, .int (iv u38_0))]) dX4_flip_64 rfl (iv_add _ _) (by decide) rfl ?_
            refine r_goto (pc := 67) (tgt := 4) dX4_flip_67 (by decide) ?_
            refine Rn.pick (lv' := [(0, .ref s), (2, .int (iv u38_0)), (3, .int (iv (v4_3 + 1)))]) [2, 1, 0] rfl ?_
            exact ih4 (Int.toNat (16 - (v4_3 + 1))) (by omega) _ ht61 u38_0 (v4_3 + 1) ⟨by omega, by omega, by omega, by omega, by omega⟩ (by omega)
          refine t_if_lt (pc := 42) (tgt := 61) dX4_flip_42 (by decide) (by omega) (fun c42 => ?_) (fun c42 => ?_)
          · refine Rn.pick (lv' := [(0, .ref s), (3, .int (iv v4_3)), (5, .int (iv u38_0))]) [1, 3, 0] rfl ?_
            exact B61 _ ht38 trivial
          · refine r_aload_n (pc := 45) dX4_flip_45 (i := 0) rfl rfl ?_
            refine t_getE (pc := 46) (.ref (s + 1)) ht38 hO fX4_9 dX4_flip_46 rfl ?_
            refine r_iload_n (pc := 49) dX4_flip_49 (i := 2) rfl rfl ?_
            refine r_iload (pc := 50) dX4_flip_50 rfl ?_
            refine t_iastR (pc := 52) (t0 := 0) ht38 hmate dX4_flip_52 rfl (by decide) (by omega) (by omega) (by omega) (fun hp2 ht3 => ?_)
            refine r_aload_n (pc := 53) dX4_flip_53 (i := 0) rfl rfl ?_
            refine t_getE (pc := 54) (.ref (s + 1)) ht3 hO fX4_9 dX4_flip_54 rfl ?_
            refine r_iload (pc := 57) dX4_flip_57 rfl ?_
            refine r_iload_n (pc := 59) dX4_flip_59 (i := 2) rfl rfl ?_
            refine t_iastR (pc := 60) (t0 := 0) ht3 hmate dX4_flip_60 rfl (by decide) (by omega) (by omega) (by omega) (fun hp4 ht5 => ?_)
            refine Rn.pick (lv' := [(0, .ref s), (3, .int (iv v4_3)), (5, .int (iv u38_0))]) [1, 3, 0] rfl ?_
            exact B61 _ ht5 trivial
        refine t_if_ge (pc := 24) (tgt := 31) dX4_flip_24 (by decide) (by omega) (fun c24 => ?_) (fun c24 => ?_)
        · refine r_aload_n (pc := 31) dX4_flip_31 (i := 0) rfl rfl ?_
          refine t_getE (pc := 32) (.ref (s + 1)) ht4 hO fX4_9 dX4_flip_32 rfl ?_
          refine r_iload (pc := 35) dX4_flip_35 rfl ?_
          refine t_ialdR (pc := 37) (t0 := 0) ht4 (rd_of hmate) dX4_flip_37 rfl (by decide) (by omega) (fun y6 by6 => ?_)
          refine Rn.pick (lv' := [(0, .ref s), (2, .int (iv v4_2)), (3, .int (iv v4_3)), (4, .int (iv y1))]) [1, 2, 3, 0] rfl ?_
          exact B38 _ ht4 y6 ⟨by omega, by omega, by omega⟩
        · refine r_iconst (pc := 27) (v := iv (-1)) dX4_flip_27 (by decide) ?_
          refine r_goto (pc := 28) (tgt := 38) dX4_flip_28 (by decide) ?_
          refine Rn.pick (lv' := [(0, .ref s), (2, .int (iv v4_2)), (3, .int (iv v4_3)), (4, .int (iv y1))]) [1, 2, 3, 0] rfl ?_
          exact B38 _ ht4 (-1) ⟨by omega, by omega, by omega⟩
  refine Rn.pick (lv' := [(0, .ref s), (2, .int (iv x1)), (3, .int (iv 0))]) [2, 1, 0] rfl ?_
  exact B4 (Int.toNat (16 - 0)) _ ht x1 0 ⟨by omega, by omega, by omega, by omega, by omega⟩ (by omega)
set_option maxHeartbeats 4000000 in
set_option maxRecDepth 100000 in
theorem t_X4_greatest {D : va_G} {cI cJ cZ cT : ClassId} {lo b L : Nat} {xs : Nat → Int32} {hp : MH} {n d : Nat} {Γ : TG} {s : Nat} {ga : Nat} {gF : Nat} {gT : Nat} {gW : Nat} {gC : Nat} {gTl : Nat} {gHd : Nat} {gBy : Nat} {gOu : Nat} {gIn : Nat} {gJo : Nat} {gn : Nat} {gm : Nat} {gq : Nat} {gdr : Int} (hd0 : 3 ≤ d) (hO : Γ s = some (tO 4 (prR s))) (hmate : Γ (s + 1) = some (tI cI 16 (rg (-1) 15))) (hpar : Γ (s + 2) = some (tI cI 16 (rg (-1) 15))) (hbase : Γ (s + 3) = some (tI cI 16 (rg 0 15))) (hq : Γ (s + 4) = some (tI cI 16 (rg 0 15))) (hg : TyG Γ cI cJ cZ ga gF gT gW gC gTl gHd gBy gOu gIn gJo gn gm gq gdr) (hsep : s + 5 ≤ gJo ∧ s + 5 ≤ ga) (ht : Tw Γ hp) : Mt (gG D cI cJ cZ cT lo b L xs) mX4_greatest d 0 0 [.ref s, .ref ga] hp n (pR (ov Γ (s + 1) (tI cI 16 (rg (-1) ((gn : Int) - 1)))) n (-2147483648) 2147483647) := by
  refine Mt.of rfl (Nat.le_of_ble_eq_true rfl) ?_
  refine Rn.pick (lv' := [(0, .ref s), (1, .ref ga)]) [0, 1] rfl ?_
  obtain ⟨hg_O, hg_from, hg_to, hg_weight, hg_cost, hg_tail, hg_head, hg_by, hg_out, hg_in, hg_joined, hg_b⟩ := id hg
  refine r_aload_n (pc := 0) dX4_greatest_0 (i := 0) rfl rfl ?_
  refine t_getE (pc := 1) (.ref (s + 1)) ht (rd_of hO) fX4_9 dX4_greatest_1 rfl ?_
  refine r_iconst (pc := 4) (v := iv (-1)) dX4_greatest_4 (by decide) ?_
  refine t_fillS (pc := 5) (l1 := -1) (h1 := (gn : Int) - 1) ht hmate kX4_24 dX4_greatest_5 (by omega) (by omega) (by omega) (by omega) (Nat.le_of_ble_eq_true rfl) (fun hp1 ht2 => ?_)
  refine r_iconst (pc := 8) (v := iv 0) dX4_greatest_8 (by decide) ?_
  refine r_istore_n (pc := 9) (lv' := [(2, .int (iv 0)), (0, .ref s), (1, .ref ga)]) dX4_greatest_9 (i := 2) rfl (by decide) rfl ?_
  refine r_iconst (pc := 10) (v := iv 0) dX4_greatest_10 (by decide) ?_
  refine r_istore_n (pc := 11) (lv' := [(3, .int (iv 0)), (2, .int (iv 0)), (0, .ref s), (1, .ref ga)]) dX4_greatest_11 (i := 3) rfl (by decide) rfl ?_
  have B12 : ∀ k : Nat, ∀ hp12 : MH, Tw (ov Γ (s + 1) (tI cI 16 (rg (-1) ((gn : Int) - 1)))) hp12 → ∀  (v12_2 : Int) (v12_3 : Int), (-2147483648) ≤ v12_2 ∧ v12_2 ≤ 2147483647 ∧ 0 ≤ v12_3 ∧ v12_3 ≤ 16 → 16 - v12_3 ≤ (k : Int) → Rn (gG D cI cJ cZ cT lo b L xs) mX4_greatest d 12 [(0, .ref s), (1, .ref ga), (2, .int (iv v12_2)), (3, .int (iv v12_3))] [] hp12 n 0 0 (pR (ov Γ (s + 1) (tI cI 16 (rg (-1) ((gn : Int) - 1)))) n (-2147483648) 2147483647) := by
    refine lpS _ ?_
    intro k12 ih12 hp12 ht12 v12_2 v12_3 hf12 hm12
    refine r_iload_n (pc := 12) dX4_greatest_12 (i := 3) rfl rfl ?_
    refine r_aload_n (pc := 13) dX4_greatest_13 (i := 1) rfl rfl ?_
    refine t_getE (pc := 14) (.int (iv (gn : Int))) ht12 (rd_ov (by omega) hg_O) fX4_30 dX4_greatest_14 rfl ?_
    refine t_icmp_ge (pc := 17) (tgt := 61) dX4_greatest_17 (by decide) (by omega) (by omega) (fun c17 => ?_) (fun c17 => ?_)
    · refine r_iload_n (pc := 61) dX4_greatest_61 (i := 2) rfl rfl ?_
      exact r_iret (pc := 62) dX4_greatest_62 rfl ⟨rfl, ht12, _, rfl, by omega, by omega⟩
    · refine r_aload_n (pc := 20) dX4_greatest_20 (i := 0) rfl rfl ?_
      refine t_getE (pc := 21) (.ref (s + 1)) ht12 (rd_ov (by omega) (rd_of hO)) fX4_9 dX4_greatest_21 rfl ?_
      refine r_iload_n (pc := 24) dX4_greatest_24 (i := 3) rfl rfl ?_
      refine t_ialdR (pc := 25) (t0 := 0) ht12 (rd_of (ov_s _ _ _)) dX4_greatest_25 rfl (by decide) (by omega) (fun y3 by3 => ?_)
      have B55 : ∀ hp55 : MH, Tw (ov Γ (s + 1) (tI cI 16 (rg (-1) ((gn : Int) - 1)))) hp55 → ∀  (v55_2 : Int), (-2147483648) ≤ v55_2 ∧ v55_2 ≤ 2147483647 → Rn (gG D cI cJ cZ cT lo b L xs) mX4_greatest d 55 [(0, .ref s), (1, .ref ga), (2, .int (iv v55_2)), (3, .int (iv v12_3))] [] hp55 n 0 0 (pR (ov Γ (s + 1) (tI cI 16 (rg (-1) ((gn : Int) - 1)))) n (-2147483648) 2147483647) := by
        intro hp55 ht55 v55_2 hf55
        refine r_iinc (pc := 55) (v := iv (v12_3 + 1)) (lv' := [(3, .int (iv (v12_3 + 1))), (0, .ref s), (1, .ref ga), (2, .int (iv v55_2))]) dX4_greatest_55 rfl (iv_add _ _) (by decide) rfl ?_
        refine r_goto (pc := 58) (tgt := 12) dX4_greatest_58 (by decide) ?_
        refine Rn.pick (lv' := [(0, .ref s), (1, .ref ga), (2, .int (iv v55_2)), (3, .int (iv (v12_3 + 1)))]) [1, 2, 3, 0] rfl ?_
        exact ih12 (Int.toNat (16 - (v12_3 + 1))) (by omega) _ ht55 v55_2 (v12_3 + 1) ⟨by omega, by omega, by omega, by omega⟩ (by omega)
      refine t_if_ge (pc := 26) (tgt := 55) dX4_greatest_26 (by decide) (by omega) (fun c26 => ?_) (fun c26 => ?_)
      · refine Rn.pick (lv' := [(0, .ref s), (1, .ref ga), (2, .int (iv v12_2)), (3, .int (iv v12_3))]) [0, 1, 2, 3] rfl ?_
        exact B55 _ ht12 v12_2 ⟨by omega, by omega⟩
      · refine r_aload_n (pc := 29) dX4_greatest_29 (i := 0) rfl rfl ?_
        refine r_aload_n (pc := 30) dX4_greatest_30 (i := 1) rfl rfl ?_
        refine t_getE (pc := 31) (.ref gJo) ht12 (rd_ov (by omega) hg_O) fX4_36 dX4_greatest_31 rfl ?_
        refine r_iload_n (pc := 34) dX4_greatest_34 (i := 3) rfl rfl ?_
        refine r_iconst (pc := 35) (v := iv 0) dX4_greatest_35 (by decide) ?_
        obtain ⟨Mf36, hMf36, hx36⟩ := ht12.unI
        have hR36 : Rfx 16 (-1) ((gn : Int) - 1) Mf36 := fun i hi => (hMf36 i hi).1
        refine t_callVI' (pc := 36) (as := [.ref gJo, .int (iv v12_3), .int (iv 0)]) (st := []) hx36 (rd_of (eq_ov (by omega) hO)) kX4_39 rfl dX4_greatest_36 (t_X4_search (d := d - 1) (Γ := ov Γ (s + 1) (xI cI 16 Mf36)) (s := s) (N := gn) (Mf := Mf36) (rA := gJo) (x1 := v12_3) (x2 := 0) (by omega) (by omega) (rd_of (ov_s _ _ _)) hR36 (eq_ov (by omega) hO) (eq_ov (by omega) hpar) (eq_ov (by omega) hbase) (eq_ov (by omega) hq) (rd_ov (by omega) hg_joined) (by omega) hx36 (by omega) (by omega)) rfl (by omega) (Nat.le_of_ble_eq_true rfl) rfl (fun hp5 y4 ht7 by4 => ?_)
        obtain ⟨by41, by42, by43⟩ := by4
        have hF36 : Tw (ov (ov Γ (s + 1) (tI cI 16 (rg (-1) ((gn : Int) - 1)))) (s + 2) (tI cI 16 (rg (-1) ((gn : Int) - 1)))) hp5 := prSwap ht7 hR36
        have ht6 : Tw (ov Γ (s + 1) (tI cI 16 (rg (-1) ((gn : Int) - 1)))) hp5 := Tw.weak hF36 (eq_ov (by omega) hpar) (tI_imp (fun i v _ h => ⟨h.1, by have := h.2; omega⟩))
        refine r_istore (pc := 39) (lv' := [(4, .int (iv y4)), (0, .ref s), (1, .ref ga), (2, .int (iv v12_2)), (3, .int (iv v12_3))]) dX4_greatest_39 (by decide) rfl ?_
        refine r_iload (pc := 41) dX4_greatest_41 rfl ?_
        refine t_if_lt (pc := 43) (tgt := 55) dX4_greatest_43 (by decide) (by omega) (fun c43 => ?_) (fun c43 => ?_)
        · refine Rn.pick (lv' := [(0, .ref s), (1, .ref ga), (2, .int (iv v12_2)), (3, .int (iv v12_3))]) [1, 2, 3, 4] rfl ?_
          exact B55 _ ht6 v12_2 ⟨by omega, by omega⟩
        · refine r_aload_n (pc := 46) dX4_greatest_46 (i := 0) rfl rfl ?_
          refine r_iload (pc := 47) dX4_greatest_47 rfl ?_
          refine t_callVV (pc := 49) (as := [.int (iv y4)]) (st := []) hF36 (rd_of (eq_ov (by omega) (eq_ov (by omega) hO))) kX4_43 rfl dX4_greatest_49 (t_X4_flip (d := d - 1) (Γ := ov (ov Γ (s + 1) (tI cI 16 (rg (-1) ((gn : Int) - 1)))) (s + 2) (tI cI 16 (rg (-1) ((gn : Int) - 1)))) (s := s) (N := gn) (x1 := y4) (by omega) (by omega) (rd_of (eq_ov (by omega) (eq_ov (by omega) hO))) (eq_ov (by omega) (ov_s _ _ _)) (rd_of (ov_s _ _ _)) hF36 (by omega)) rfl (by omega) (Nat.le_of_ble_eq_true rfl) rfl (fun hp8 ht10 => ?_)
          have ht9 : Tw (ov Γ (s + 1) (tI cI 16 (rg (-1) ((gn : Int) - 1)))) hp8 := Tw.weak ht10 (eq_ov (by omega) hpar) (tI_imp (fun i v _ h => ⟨h.1, by have := h.2; omega⟩))
          obtain ⟨z11, hz11, bz11⟩ := any_i (iv v12_2 + iv 1)
          refine r_iinc (pc := 52) (v := iv z11) (lv' := [(2, .int (iv z11)), (4, .int (iv y4)), (0, .ref s), (1, .ref ga), (3, .int (iv v12_3))]) dX4_greatest_52 rfl hz11 (by decide) rfl ?_
          refine Rn.pick (lv' := [(0, .ref s), (1, .ref ga), (2, .int (iv z11)), (3, .int (iv v12_3))]) [2, 3, 0, 4] rfl ?_
          exact B55 _ ht9 z11 ⟨by omega, by omega⟩
  refine Rn.pick (lv' := [(0, .ref s), (1, .ref ga), (2, .int (iv 0)), (3, .int (iv 0))]) [2, 3, 1, 0] rfl ?_
  exact B12 (Int.toNat (16 - 0)) _ ht2 0 0 ⟨by omega, by omega, by omega, by omega⟩ (by omega)
set_option maxHeartbeats 4000000 in
set_option maxRecDepth 100000 in
theorem t_X4_missed {D : va_G} {cI cJ cZ cT : ClassId} {lo b L : Nat} {xs : Nat → Int32} {hp : MH} {n d : Nat} {Γ : TG} {s : Nat} {ga : Nat} {gF : Nat} {gT : Nat} {gW : Nat} {gC : Nat} {gTl : Nat} {gHd : Nat} {gBy : Nat} {gOu : Nat} {gIn : Nat} {gJo : Nat} {gn : Nat} {gm : Nat} {gq : Nat} {gdr : Int} (hd0 : 4 ≤ d) (hO : Γ s = some (tO 4 (prR s))) (hmate : Γ (s + 1) = some (tI cI 16 (rg (-1) 15))) (hpar : Γ (s + 2) = some (tI cI 16 (rg (-1) 15))) (hbase : Γ (s + 3) = some (tI cI 16 (rg 0 15))) (hq : Γ (s + 4) = some (tI cI 16 (rg 0 15))) (hg : TyG Γ cI cJ cZ ga gF gT gW gC gTl gHd gBy gOu gIn gJo gn gm gq gdr) (hsep : s + 5 ≤ gJo ∧ s + 5 ≤ ga) (ht : Tw Γ hp) : Mt (gG D cI cJ cZ cT lo b L xs) mX4_missed d 0 0 [.ref s, .ref ga] hp n (pR (ov Γ (s + 1) (tI cI 16 (rg (-1) ((gn : Int) - 1)))) n 0 65535) := by
  refine Mt.of rfl (Nat.le_of_ble_eq_true rfl) ?_
  refine Rn.pick (lv' := [(0, .ref s), (1, .ref ga)]) [0, 1] rfl ?_
  obtain ⟨hg_O, hg_from, hg_to, hg_weight, hg_cost, hg_tail, hg_head, hg_by, hg_out, hg_in, hg_joined, hg_b⟩ := id hg
  refine r_aload_n (pc := 0) dX4_missed_0 (i := 0) rfl rfl ?_
  refine r_aload_n (pc := 1) dX4_missed_1 (i := 1) rfl rfl ?_
  refine t_callVR' (pc := 2) (as := [.ref ga]) (st := []) ht (rd_of hO) kX4_47 rfl dX4_missed_2 (t_X4_greatest (d := d - 1) (by omega) hO hmate hpar hbase hq hg (by omega) ht) rfl (by omega) (Nat.le_of_ble_eq_true rfl) rfl (fun hp2 y1 ht3 by1 => ?_)
  refine r_pop (pc := 5) dX4_missed_5 rfl ?_
  refine r_iconst (pc := 6) (v := iv 0) dX4_missed_6 (by decide) ?_
  refine r_istore_n (pc := 7) (lv' := [(2, .int (iv 0)), (0, .ref s), (1, .ref ga)]) dX4_missed_7 (i := 2) rfl (by decide) rfl ?_
  refine r_iconst (pc := 8) (v := iv 0) dX4_missed_8 (by decide) ?_
  refine r_istore_n (pc := 9) (lv' := [(3, .int (iv 0)), (2, .int (iv 0)), (0, .ref s), (1, .ref ga)]) dX4_missed_9 (i := 3) rfl (by decide) rfl ?_
  have B10 : ∀ k : Nat, ∀ hp10 : MH, Tw (ov Γ (s + 1) (tI cI 16 (rg (-1) ((gn : Int) - 1)))) hp10 → ∀  (v10_2 : Int) (v10_3 : Int), 0 ≤ v10_2 ∧ v10_2 ≤ 65535 ∧ 0 ≤ v10_3 ∧ v10_3 ≤ 16 → 16 - v10_3 ≤ (k : Int) → Rn (gG D cI cJ cZ cT lo b L xs) mX4_missed d 10 [(0, .ref s), (1, .ref ga), (2, .int (iv v10_2)), (3, .int (iv v10_3))] [] hp10 n 0 0 (pR (ov Γ (s + 1) (tI cI 16 (rg (-1) ((gn : Int) - 1)))) n 0 65535) := by
    refine lpS _ ?_
    intro k10 ih10 hp10 ht10 v10_2 v10_3 hf10 hm10
    refine r_iload_n (pc := 10) dX4_missed_10 (i := 3) rfl rfl ?_
    refine r_aload_n (pc := 11) dX4_missed_11 (i := 1) rfl rfl ?_
    refine t_getE (pc := 12) (.int (iv (gn : Int))) ht10 (rd_ov (by omega) hg_O) fX4_30 dX4_missed_12 rfl ?_
    refine t_icmp_ge (pc := 15) (tgt := 88) dX4_missed_15 (by decide) (by omega) (by omega) (fun c15 => ?_) (fun c15 => ?_)
    · refine r_iload_n (pc := 88) dX4_missed_88 (i := 2) rfl rfl ?_
      exact r_iret (pc := 89) dX4_missed_89 rfl ⟨rfl, ht10, _, rfl, by omega, by omega⟩
    · refine r_aload_n (pc := 18) dX4_missed_18 (i := 0) rfl rfl ?_
      refine t_getE (pc := 19) (.ref (s + 1)) ht10 (rd_ov (by omega) (rd_of hO)) fX4_9 dX4_missed_19 rfl ?_
      refine r_iload_n (pc := 22) dX4_missed_22 (i := 3) rfl rfl ?_
      refine t_ialdR (pc := 23) (t0 := 0) ht10 (rd_of (ov_s _ _ _)) dX4_missed_23 rfl (by decide) (by omega) (fun y4 by4 => ?_)
      refine r_istore (pc := 24) (lv' := [(4, .int (iv y4)), (0, .ref s), (1, .ref ga), (2, .int (iv v10_2)), (3, .int (iv v10_3))]) dX4_missed_24 (by decide) rfl ?_
      refine r_iload (pc := 26) dX4_missed_26 rfl ?_
      have B82 : ∀ hp82 : MH, Tw (ov Γ (s + 1) (tI cI 16 (rg (-1) ((gn : Int) - 1)))) hp82 → ∀  (v82_2 : Int), 0 ≤ v82_2 ∧ v82_2 ≤ 65535 ∧ v10_2 ≤ v82_2 → Rn (gG D cI cJ cZ cT lo b L xs) mX4_missed d 82 [(0, .ref s), (1, .ref ga), (2, .int (iv v82_2)), (3, .int (iv v10_3))] [] hp82 n 0 0 (pR (ov Γ (s + 1) (tI cI 16 (rg (-1) ((gn : Int) - 1)))) n 0 65535) := by
        intro hp82 ht82 v82_2 hf82
        refine r_iinc (pc := 82) (v := iv (v10_3 + 1)) (lv' := [(3, .int (iv (v10_3 + 1))), (0, .ref s), (1, .ref ga), (2, .int (iv v82_2))]) dX4_missed_82 rfl (iv_add _ _) (by decide) rfl ?_
        refine r_goto (pc := 85) (tgt := 10) dX4_missed_85 (by decide) ?_
        refine Rn.pick (lv' := [(0, .ref s), (1, .ref ga), (2, .int (iv v82_2)), (3, .int (iv (v10_3 + 1)))]) [1, 2, 3, 0] rfl ?_
        exact ih10 (Int.toNat (16 - (v10_3 + 1))) (by omega) _ ht82 v82_2 (v10_3 + 1) ⟨by omega, by omega, by omega, by omega⟩ (by omega)
      refine t_if_ge (pc := 28) (tgt := 40) dX4_missed_28 (by decide) (by omega) (fun c28 => ?_) (fun c28 => ?_)
      · refine r_aload_n (pc := 40) dX4_missed_40 (i := 0) rfl rfl ?_
        refine t_getE (pc := 41) (.ref (s + 1)) ht10 (rd_ov (by omega) (rd_of hO)) fX4_9 dX4_missed_41 rfl ?_
        refine r_iload (pc := 44) dX4_missed_44 rfl ?_
        refine r_iconst (pc := 46) (v := iv (-1)) dX4_missed_46 (by decide) ?_
        refine t_iastR (pc := 47) (t0 := 0) ht10 (ov_s _ _ _) dX4_missed_47 rfl (by decide) (by omega) (by omega) (by omega) (fun hp5 ht6 => ?_)
        refine r_iload_n (pc := 48) dX4_missed_48 (i := 2) rfl rfl ?_
        refine r_aload_n (pc := 49) dX4_missed_49 (i := 0) rfl rfl ?_
        refine r_aload_n (pc := 50) dX4_missed_50 (i := 1) rfl rfl ?_
        refine t_getE (pc := 51) (.ref gJo) ht6 (rd_ov (by omega) hg_O) fX4_36 dX4_missed_51 rfl ?_
        refine r_iload (pc := 54) dX4_missed_54 rfl ?_
        refine r_iconst (pc := 56) (v := iv 1) dX4_missed_56 (by decide) ?_
        refine r_iload_n (pc := 57) dX4_missed_57 (i := 3) rfl rfl ?_
        obtain ⟨z7, hz7, bz7⟩ := shl_1 0 15 v10_3 (by omega) (by omega) (by decide)
        refine r_ishl (pc := 58) (v := iv z7) dX4_missed_58 hz7 ?_
        obtain ⟨Mf59, hMf59, hx59⟩ := ht6.unI
        have hR59 : Rfx 16 (-1) ((gn : Int) - 1) Mf59 := fun i hi => (hMf59 i hi).1
        refine t_callVI' (pc := 59) (as := [.ref gJo, .int (iv y4), .int (iv z7)]) (st := [.int (iv v10_2)]) hx59 (rd_of (eq_ov (by omega) hO)) kX4_39 rfl dX4_missed_59 (t_X4_search (d := d - 1) (Γ := ov Γ (s + 1) (xI cI 16 Mf59)) (s := s) (N := gn) (Mf := Mf59) (rA := gJo) (x1 := y4) (x2 := z7) (by omega) (by omega) (rd_of (ov_s _ _ _)) hR59 (eq_ov (by omega) hO) (eq_ov (by omega) hpar) (eq_ov (by omega) hbase) (eq_ov (by omega) hq) (rd_ov (by omega) hg_joined) (by omega) hx59 (by omega) (by omega)) rfl (by omega) (Nat.le_of_ble_eq_true rfl) rfl (fun hp9 y8 ht11 by8 => ?_)
        obtain ⟨by81, by82, by83⟩ := by8
        have hF59 : Tw (ov (ov Γ (s + 1) (tI cI 16 (rg (-1) ((gn : Int) - 1)))) (s + 2) (tI cI 16 (rg (-1) ((gn : Int) - 1)))) hp9 := prSwap ht11 hR59
        have ht10 : Tw (ov Γ (s + 1) (tI cI 16 (rg (-1) ((gn : Int) - 1)))) hp9 := Tw.weak hF59 (eq_ov (by omega) hpar) (tI_imp (fun i v _ h => ⟨h.1, by have := h.2; omega⟩))
        have B72 : ∀ hp72 : MH, Tw (ov Γ (s + 1) (tI cI 16 (rg (-1) ((gn : Int) - 1)))) hp72 → ∀  (u72_1 : Int), 0 ≤ u72_1 ∧ u72_1 ≤ 32768 → Rn (gG D cI cJ cZ cT lo b L xs) mX4_missed d 72 [(0, .ref s), (1, .ref ga), (3, .int (iv v10_3)), (4, .int (iv y4))] [.int (iv u72_1), .int (iv v10_2)] hp72 n 0 0 (pR (ov Γ (s + 1) (tI cI 16 (rg (-1) ((gn : Int) - 1)))) n 0 65535) := by
          intro hp72 ht72 u72_1 hf72
          obtain ⟨z12, hz12, bz12⟩ := or_2 16 v10_2 u72_1 (by omega) (by omega) (by decide)
          refine r_ior (pc := 72) (v := iv z12) dX4_missed_72 hz12 ?_
          refine r_istore_n (pc := 73) (lv' := [(2, .int (iv z12)), (0, .ref s), (1, .ref ga), (3, .int (iv v10_3)), (4, .int (iv y4))]) dX4_missed_73 (i := 2) rfl (by decide) rfl ?_
          refine r_aload_n (pc := 74) dX4_missed_74 (i := 0) rfl rfl ?_
          refine t_getE (pc := 75) (.ref (s + 1)) ht72 (rd_ov (by omega) (rd_of hO)) fX4_9 dX4_missed_75 rfl ?_
          refine r_iload (pc := 78) dX4_missed_78 rfl ?_
          refine r_iload_n (pc := 80) dX4_missed_80 (i := 3) rfl rfl ?_
          refine t_iastR (pc := 81) (t0 := 0) ht72 (ov_s _ _ _) dX4_missed_81 rfl (by decide) (by omega) (by omega) (by omega) (fun hp13 ht14 => ?_)
          refine Rn.pick (lv' := [(0, .ref s), (1, .ref ga), (2, .int (iv z12)), (3, .int (iv v10_3))]) [1, 2, 0, 3] rfl ?_
          exact B82 _ ht14 z12 ⟨by omega, by omega, by omega⟩
        refine t_if_lt (pc := 62) (tgt := 71) dX4_missed_62 (by decide) (by omega) (fun c62 => ?_) (fun c62 => ?_)
        · refine r_iconst (pc := 71) (v := iv 0) dX4_missed_71 (by decide) ?_
          refine Rn.pick (lv' := [(0, .ref s), (1, .ref ga), (3, .int (iv v10_3)), (4, .int (iv y4))]) [1, 2, 4, 0] rfl ?_
          exact B72 _ ht10 0 ⟨by omega, by omega⟩
        · refine r_iconst (pc := 65) (v := iv 1) dX4_missed_65 (by decide) ?_
          refine r_iload_n (pc := 66) dX4_missed_66 (i := 3) rfl rfl ?_
          obtain ⟨z15, hz15, bz15⟩ := shl_1 0 15 v10_3 (by omega) (by omega) (by decide)
          refine r_ishl (pc := 67) (v := iv z15) dX4_missed_67 hz15 ?_
          refine r_goto (pc := 68) (tgt := 72) dX4_missed_68 (by decide) ?_
          refine Rn.pick (lv' := [(0, .ref s), (1, .ref ga), (3, .int (iv v10_3)), (4, .int (iv y4))]) [1, 2, 4, 0] rfl ?_
          exact B72 _ ht10 z15 ⟨by omega, by omega⟩
      · refine r_iload_n (pc := 31) dX4_missed_31 (i := 2) rfl rfl ?_
        refine r_iconst (pc := 32) (v := iv 1) dX4_missed_32 (by decide) ?_
        refine r_iload_n (pc := 33) dX4_missed_33 (i := 3) rfl rfl ?_
        obtain ⟨z16, hz16, bz16⟩ := shl_1 0 15 v10_3 (by omega) (by omega) (by decide)
        refine r_ishl (pc := 34) (v := iv z16) dX4_missed_34 hz16 ?_
        obtain ⟨z17, hz17, bz17⟩ := or_2 16 v10_2 z16 (by omega) (by omega) (by decide)
        refine r_ior (pc := 35) (v := iv z17) dX4_missed_35 hz17 ?_
        refine r_istore_n (pc := 36) (lv' := [(2, .int (iv z17)), (4, .int (iv y4)), (0, .ref s), (1, .ref ga), (3, .int (iv v10_3))]) dX4_missed_36 (i := 2) rfl (by decide) rfl ?_
        refine r_goto (pc := 37) (tgt := 82) dX4_missed_37 (by decide) ?_
        refine Rn.pick (lv' := [(0, .ref s), (1, .ref ga), (2, .int (iv z17)), (3, .int (iv v10_3))]) [2, 3, 0, 4] rfl ?_
        exact B82 _ ht10 z17 ⟨by omega, by omega, by omega⟩
  refine Rn.pick (lv' := [(0, .ref s), (1, .ref ga), (2, .int (iv 0)), (3, .int (iv 0))]) [2, 3, 1, 0] rfl ?_
  exact B10 (Int.toNat (16 - 0)) _ ht3 0 0 ⟨by omega, by omega, by omega, by omega⟩ (by omega)
