set_option maxHeartbeats 4000000 in
set_option maxRecDepth 100000 in
theorem c_X0_totalx {D : va_G} {cI cJ cZ cT : ClassId} {lo b L : Nat} {xs : Nat → Int32} {hp : MH} {n d : Nat} {Γ : TG} {gn aa aM : Nat} {fa : Nat → Int64} (hd0 : 0 ≤ d) (hgn : 1 ≤ gn ∧ gn ≤ 16) (haO : rd Γ aa (tO 0 [fE (.int (iv (gn : Int))), fE (.ref aM)])) (haM : rd Γ aM (xJ cJ gn fa)) (ht : Tw Γ hp) : Mt (gG D cI cJ cZ cT lo b L xs) mX0_total d 0 0 [.ref aa] hp n (pJ Γ n (fun r => r = suA fa gn)) := by
  refine Mt.of rfl (Nat.le_of_ble_eq_true rfl) ?_
  refine Rn.pick (lv' := [(0, .ref aa)]) [0] rfl ?_
  have hb9 := hgn
  refine r_lconst (pc := 0) (v := 0) dX0_total_0 (by decide) ?_
  have hk0 : (0 : Int64).toInt = 0 := by decide
  refine r_lstore_n (pc := 1) (lv' := [(1, .long (0 : Int64)), (0, .ref aa)]) dX0_total_1 (i := 1) rfl (by decide) rfl ?_
  refine r_iconst (pc := 2) (v := iv 0) dX0_total_2 (by decide) ?_
  refine r_istore_n (pc := 3) (lv' := [(3, .int (iv 0)), (1, .long (0 : Int64)), (0, .ref aa)]) dX0_total_3 (i := 3) rfl (by decide) rfl ?_
  have B4 : ∀ k : Nat, ∀ hp4 : MH, Tw Γ hp4 → ∀  (v4_3 : Int) (w4_1 : Int64), 0 ≤ v4_3 ∧ v4_3 ≤ 16 ∧ (v4_3 ≤ (gn : Int)) ∧ (w4_1 = suA fa (Int.toNat v4_3)) → 16 - v4_3 ≤ (k : Int) → Rn (gG D cI cJ cZ cT lo b L xs) mX0_total d 4 [(0, .ref aa), (1, .long w4_1), (3, .int (iv v4_3))] [] hp4 n 0 0 (pJ Γ n (fun r => r = suA fa gn)) := by
    refine lpS _ ?_
    intro k4 ih4 hp4 ht4 v4_3 w4_1 hf4 hm4
    obtain ⟨hf4_0, hf4_1, hf4_2, ha4_3⟩ := hf4
    refine r_iload_n (pc := 4) dX0_total_4 (i := 3) rfl rfl ?_
    refine r_aload_n (pc := 5) dX0_total_5 (i := 0) rfl rfl ?_
    refine t_getE (pc := 6) (.int (iv (gn : Int))) ht4 haO fX0_15 dX0_total_6 rfl ?_
    refine t_icmp_ge (pc := 9) (tgt := 27) dX0_total_9 (by decide) (by omega) (by omega) (fun c9 => ?_) (fun c9 => ?_)
    · refine r_lload_n (pc := 27) dX0_total_27 (i := 1) rfl rfl ?_
      exact r_lret (pc := 28) dX0_total_28 rfl ⟨rfl, ht4, _, rfl, by have h8 : w4_1 = suA fa (Int.toNat v4_3) := (by assumption); rw [show v4_3 = (gn : Int) by omega, Int.toNat_natCast] at h8; exact h8⟩
    · refine r_lload_n (pc := 12) dX0_total_12 (i := 1) rfl rfl ?_
      refine r_aload_n (pc := 13) dX0_total_13 (i := 0) rfl rfl ?_
      refine t_getE (pc := 14) (.ref aM) ht4 haO fX0_9 dX0_total_14 rfl ?_
      refine r_iload_n (pc := 17) dX0_total_17 (i := 3) rfl rfl ?_
      refine t_laldX (pc := 18) (t0 := 1) ht4 haM dX0_total_18 rfl (by omega) (by omega) ?_
      refine r_ladd (pc := 19) (v := w4_1 + (fa (Int.toNat v4_3))) dX0_total_19 rfl ?_
      refine r_lstore_n (pc := 20) (lv' := [(1, .long (w4_1 + (fa (Int.toNat v4_3)))), (0, .ref aa), (3, .int (iv v4_3))]) dX0_total_20 (i := 1) rfl (by decide) rfl ?_
      refine r_iinc (pc := 21) (v := iv (v4_3 + 1)) (lv' := [(3, .int (iv (v4_3 + 1))), (1, .long (w4_1 + (fa (Int.toNat v4_3)))), (0, .ref aa)]) dX0_total_21 rfl (iv_add _ _) (by decide) rfl ?_
      refine r_goto (pc := 24) (tgt := 4) dX0_total_24 (by decide) ?_
      refine Rn.pick (lv' := [(0, .ref aa), (1, .long (w4_1 + (fa (Int.toNat v4_3)))), (3, .int (iv (v4_3 + 1)))]) [2, 1, 0] rfl ?_
      exact ih4 (Int.toNat (16 - (v4_3 + 1))) (by omega) _ ht4 (v4_3 + 1) (w4_1 + (fa (Int.toNat v4_3))) ⟨by omega, by omega, by omega, by (first | rfl | exact su_up (by assumption) (by omega))⟩ (by omega)
  refine Rn.pick (lv' := [(0, .ref aa), (1, .long (0 : Int64)), (3, .int (iv 0))]) [2, 1, 0] rfl ?_
  exact B4 (Int.toNat (16 - 0)) _ ht 0 (0 : Int64) ⟨by omega, by omega, by omega, by (first | rfl | exact su_up (by assumption) (by omega))⟩ (by omega)
