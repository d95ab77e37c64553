abbrev prG9 (s : Nat) (W qd : Int) : List (Value → Prop) := [fE (.ref (s + 1)), fE (.ref (s + 2)), fE (.ref (s + 3)), fE (.ref (s + 4)), fE (.int (iv W)), fE (.int (iv qd))]
/-- the cells of pairs told exactly -/
abbrev PrS (Γ : TG) (cI : ClassId) (s : Nat) (W qd : Int) (mt pa ba Q : Nat → Int) : TG := ov (ov (ov (ov (ov Γ s (tO 4 (prG9 s W qd))) (s + 1) (xI cI 16 mt)) (s + 2) (xI cI 16 pa)) (s + 3) (xI cI 16 ba)) (s + 4) (xI cI 16 Q)
theorem cb1_s {R : Nat → Nat → Prop} {S : Nat → Prop} {mt pa ba : Nat → Int} {ev : Nat → Prop} {root : Nat} {rk : Nat → Nat} {L : Nat → List Nat} (hI : bmI R S mt pa ba ev root rk L) {n : Nat} {a : Int} (hS : ∀ a, S a → a < n) (hn : n ≤ 16) (h0 : 0 ≤ a) (ha : ev a.toNat) : cb1 ba ev L a.toNat 0 a 0 := by
  have h9 := cb1_0 hI hS hn ha
  rw [show ((a.toNat : Nat) : Int) = a by omega] at h9
  exact h9
theorem cb2_s {R : Nat → Nat → Prop} {S : Nat → Prop} {mt pa ba : Nat → Int} {ev : Nat → Prop} {root : Nat} {rk : Nat → Nat} {L : Nat → List Nat} (hI : bmI R S mt pa ba ev root rk L) {n : Nat} {a sn : Int} (hS : ∀ a, S a → a < n) (hn : n ≤ 16) (h0 : 0 ≤ a) (ha : ev a.toNat) : cb2 ba ev L a.toNat sn a 0 := by
  have h9 := cb2_0 (sn := sn) hI hS hn ha
  rw [show ((a.toNat : Nat) : Int) = a by omega] at h9
  exact h9
theorem tu_s {R : Nat → Nat → Prop} {S : Nat → Prop} {mt pa ba : Nat → Int} {ev : Nat → Prop} {root : Nat} {rk : Nat → Nat} {L : Nat → List Nat} (hI : bmI R S mt pa ba ev root rk L) {pc0 : Nat → Int} {n : Nat} {a w top : Int} (hS : ∀ a, S a → a < n) (hn : n ≤ 16) (h0 : 0 ≤ a) (hw : 0 ≤ w) (ha : ev a.toNat) (ht : chP9 ba L a.toNat top) : tuI mt pa ba ev root L pc0 pc0 a.toNat w.toNat top 0 a w (Int.toNat 0) := by
  have h9 := tu_0 (w := w.toNat) (pc0 := pc0) hI hS hn ha ht
  rw [show ((a.toNat : Nat) : Int) = a by omega, show ((w.toNat : Nat) : Int) = w by omega] at h9
  exact h9
theorem tu_h {mt pa ba : Nat → Int} {ev : Nat → Prop} {root : Nat} {L : Nat → List Nat} {pc0 pc : Nat → Int} {v w i : Nat} {top rg here ch : Int} (h : tuI mt pa ba ev root L pc0 pc v w top rg here ch i) : here.toNat = esF mt pa v i ∧ 0 ≤ here := by
  have := h.1.1
  omega
theorem mn_e {mt : Nat → Int} {a : Nat} (h : 0 ≤ mt a) : ((mN mt a : Nat) : Int) = mt a := by
  unfold mN; omega
set_option maxHeartbeats 4000000 in
set_option maxRecDepth 100000 in
theorem c_X4_enqueuex {D : va_G} {cI cJ cZ cT : ClassId} {lo b L : Nat} {xs : Nat → Int32} {hp : MH} {n d : Nat} {Γ : TG} {s : Nat} {W qd : Int} {mt pa ba Q : Nat → Int} {x1 : Int} (hd0 : 0 ≤ d) (hm0 : Rfx 16 (-1) 15 mt) (hp0 : Rfx 16 (-1) 15 pa) (hb0 : Rfx 16 0 15 ba) (hQ0 : Rfx 16 0 15 Q) (hW0 : 0 ≤ W ∧ W ≤ 16) (hqd0 : 0 ≤ qd ∧ qd ≤ 65535) (ht : Tw (PrS Γ cI s W qd mt pa ba Q) hp) (hx1 : 0 ≤ x1 ∧ x1 ≤ 15) (hq : quI Q W qd) : Mt (gG D cI cJ cZ cT lo b L xs) mX4_enqueue d 0 0 [.ref s, .int (iv x1)] hp n (fun r9 hp1 n1 => n1 = n ∧ r9 = none ∧ ∃ (W1 qd1 : Int) (Q1 : Nat → Int), Tw (PrS Γ cI s W1 qd1 mt pa ba Q1) hp1 ∧ Rfx 16 0 15 Q1 ∧ (0 ≤ qd1 ∧ qd1 ≤ 65535) ∧ quI Q1 W1 qd1 ∧ (∀ x, Me qd1 x ↔ Me qd x ∨ x = Int.toNat x1) ∧ W ≤ W1 ∧ ∀ j : Nat, (j : Int) < W → Q1 j = Q j) := by
  refine Mt.of rfl (Nat.le_of_ble_eq_true rfl) ?_
  refine Rn.pick (lv' := [(0, .ref s), (1, .int (iv x1))]) [0, 1] rfl ?_
  have t0 : Tw (ov (ov (ov (ov (ov Γ s (tO 4 (prG9 s W qd))) (s + 1) (xI cI 16 mt)) (s + 2) (xI cI 16 pa)) (s + 3) (xI cI 16 ba)) (s + 4) (xI cI 16 Q)) hp := ht
  refine r_aload_n (pc := 0) dX4_enqueue_0 (i := 0) rfl rfl ?_
  refine t_getE (pc := 1) (.int (iv qd)) t0 (rd_ov (by omega) (rd_ov (by omega) (rd_ov (by omega) (rd_ov (by omega) (rd_of (ov_s _ _ _)))))) fX4_54 dX4_enqueue_1 rfl ?_
  refine r_iload_n (pc := 4) dX4_enqueue_4 (i := 1) rfl rfl ?_
  have hq5_1 := shr_le (Int.toNat qd) (Int.toNat x1)
  refine r_ishr (pc := 5) (v := iv ((Int.toNat qd >>> Int.toNat x1 : Nat) : Int)) dX4_enqueue_5 (shr_e (by omega) (by omega)) ?_
  refine r_iconst (pc := 6) (v := iv 1) dX4_enqueue_6 (by decide) ?_
  refine r_iand (pc := 7) (v := iv (((Int.toNat qd >>> Int.toNat x1 : Nat) : Int) % 2)) dX4_enqueue_7 (and1_e _ (by omega)) ?_
  have mb7 := @Me_bit qd x1
  refine t_if_ne (pc := 8) (tgt := 52) dX4_enqueue_8 (by decide) (by omega) (fun c8 => ?_) (fun c8 => ?_)
  · have pm8 : Me qd (Int.toNat x1) := Me_bit.mp (by omega)
    exact r_vret (pc := 52) dX4_enqueue_52 rfl ⟨rfl, rfl, W, qd, Q, t0, hQ0, hqd0, hq, fun x9 => ⟨Or.inl, fun g9 => g9.elim id (fun e9 => by rw [e9]; exact pm8)⟩, Int.le_refl W, fun _ _ => rfl⟩
  · have nm8 : ¬ Me qd (Int.toNat x1) := fun h9 => absurd (Me_bit.mpr h9) (by omega)
    have hlt := qu_lt hq (v := Int.toNat x1) (by omega) nm8
    refine r_aload_n (pc := 11) dX4_enqueue_11 (i := 0) rfl rfl ?_
    refine t_getE (pc := 12) (.int (iv W)) t0 (rd_ov (by omega) (rd_ov (by omega) (rd_ov (by omega) (rd_ov (by omega) (rd_of (ov_s _ _ _)))))) fX4_51 dX4_enqueue_12 rfl ?_
    refine r_bipush (pc := 15) (v := iv 16) dX4_enqueue_15 (by decide) ?_
    refine t_icmp_ge (pc := 17) (tgt := 52) dX4_enqueue_17 (by decide) (by omega) (by omega) (fun c17 => ?_) (fun c17 => ?_)
    · exfalso
      omega
    · refine r_aload_n (pc := 20) dX4_enqueue_20 (i := 0) rfl rfl ?_
      refine r_dup (pc := 21) dX4_enqueue_21 rfl ?_
      refine t_getE (pc := 22) (.int (iv qd)) t0 (rd_ov (by omega) (rd_ov (by omega) (rd_ov (by omega) (rd_ov (by omega) (rd_of (ov_s _ _ _)))))) fX4_54 dX4_enqueue_22 rfl ?_
      refine r_iconst (pc := 25) (v := iv 1) dX4_enqueue_25 (by decide) ?_
      refine r_iload_n (pc := 26) dX4_enqueue_26 (i := 1) rfl rfl ?_
      refine r_ishl (pc := 27) (v := iv ((2 ^ Int.toNat x1 : Nat) : Int)) dX4_enqueue_27 (shl_e (by omega)) ?_
      have mp27_2 : 1 ≤ 2 ^ Int.toNat x1 := Nat.one_le_two_pow
      have mq27_3 : 2 ^ Int.toNat x1 ≤ 2 ^ 15 := Nat.pow_le_pow_right (by omega) (by omega)
      have ms27 := Me_shl (Int.toNat x1)
      obtain ⟨z4, hz4, bz4⟩ := or_2 16 qd ((2 ^ Int.toNat x1 : Nat) : Int) (by omega) (by omega) (by decide)
      refine r_ior (pc := 28) (v := iv z4) dX4_enqueue_28 hz4 ?_
      have mez4 := Me_or hz4 (by omega) (by omega) (by omega)
      have hz1 : ∀ x9, Me z4 x9 ↔ Me qd x9 ∨ x9 = Int.toNat x1 := fun x9 => by rw [mez4 x9, ms27 x9]
      refine t_putX (pc := 29) (ty := .int) t0 (eq_ov (by omega) (eq_ov (by omega) (eq_ov (by omega) (eq_ov (by omega) (ov_s _ _ _))))) fX4_54 tyX4 tyX4_ok nmX4 (by decide +kernel) (Or.inl rfl) dX4_enqueue_29 (Nat.le_of_ble_eq_true rfl) rfl rfl rfl (fun hp5 ht6 => ?_)
      rw [ov_in5 (by omega) (by omega) (by omega) (by omega) ] at ht6
      refine r_aload_n (pc := 32) dX4_enqueue_32 (i := 0) rfl rfl ?_
      refine t_getE (pc := 33) (.ref (s + 4)) ht6 (rd_ov (by omega) (rd_ov (by omega) (rd_ov (by omega) (rd_ov (by omega) (rd_of (ov_s _ _ _)))))) fX4_21 dX4_enqueue_33 rfl ?_
      refine r_aload_n (pc := 36) dX4_enqueue_36 (i := 0) rfl rfl ?_
      refine t_getE (pc := 37) (.int (iv W)) ht6 (rd_ov (by omega) (rd_ov (by omega) (rd_ov (by omega) (rd_ov (by omega) (rd_of (ov_s _ _ _)))))) fX4_51 dX4_enqueue_37 rfl ?_
      refine r_iload_n (pc := 40) dX4_enqueue_40 (i := 1) rfl rfl ?_
      refine t_iastX (pc := 41) (t0 := 0) ht6 (ov_s _ _ _) dX4_enqueue_41 rfl (by decide) (by omega) (by omega) (fun hp7 ht8 => ?_)
      rw [ov_ov] at ht8
      have hQ1 : Rfx 16 0 15 (fup Q (Int.toNat W) x1) := Rfx_up (by assumption) (by omega)
      have hq1 : quI (fup Q (Int.toNat W) x1) (W + 1) z4 := qu_up hq (by omega) nm8 (by omega) hz1
      refine r_aload_n (pc := 42) dX4_enqueue_42 (i := 0) rfl rfl ?_
      refine r_dup (pc := 43) dX4_enqueue_43 rfl ?_
      refine t_getE (pc := 44) (.int (iv W)) ht8 (rd_ov (by omega) (rd_ov (by omega) (rd_ov (by omega) (rd_ov (by omega) (rd_of (ov_s _ _ _)))))) fX4_51 dX4_enqueue_44 rfl ?_
      refine r_iconst (pc := 47) (v := iv 1) dX4_enqueue_47 (by decide) ?_
      refine r_iadd (pc := 48) (v := iv (W + 1)) dX4_enqueue_48 (iv_add _ _) ?_
      refine t_putX (pc := 49) (ty := .int) ht8 (eq_ov (by omega) (eq_ov (by omega) (eq_ov (by omega) (eq_ov (by omega) (ov_s _ _ _))))) fX4_51 tyX4 tyX4_ok nmX4 (by decide +kernel) (Or.inl rfl) dX4_enqueue_49 (Nat.le_of_ble_eq_true rfl) rfl rfl rfl (fun hp9 ht10 => ?_)
      rw [ov_in5 (by omega) (by omega) (by omega) (by omega) ] at ht10
      exact r_vret (pc := 52) dX4_enqueue_52 rfl ⟨rfl, rfl, _, _, _, ht10, hQ1, by omega, hq1, hz1, by omega, fun j9 hj9 => if_neg (by omega)⟩
