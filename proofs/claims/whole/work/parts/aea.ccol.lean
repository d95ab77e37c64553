set_option maxHeartbeats 4000000 in
set_option maxRecDepth 100000 in
theorem c_X0_blendx {D : va_G} {cI cJ cZ cT : ClassId} {lo b L : Nat} {xs : Nat → Int32} {hp : MH} {n d : Nat} {Γ : TG} {gn ca cM aa aM ba bM : Nat} {f0 fa fb : Nat → Int64} {x3 : Int} (hd0 : 1 ≤ d) (hc : TyCw Γ cI cJ cZ ca cM gn) (haO : rd Γ aa (tO 0 [fE (.int (iv (gn : Int))), fE (.ref aM)])) (hbO : rd Γ ba (tO 0 [fE (.int (iv (gn : Int))), fE (.ref bM)])) (haM : rd Γ aM (xJ cJ gn fa)) (hbM : rd Γ bM (xJ cJ gn fb)) (hne : nE cM ca ∧ nE cM aa ∧ nE cM ba ∧ nE cM aM ∧ nE cM bM) (ht : Tw (ov Γ cM (xJ cJ gn f0)) hp) (hx3 : 0 ≤ x3 ∧ x3 ≤ 6) : Mt (gG D cI cJ cZ cT lo b L xs) mX0_blend d 0 0 [.ref ca, .ref aa, .ref ba, .int (iv x3)] hp n (pCx Γ cJ cM gn n (fun f => ∀ v, v < gn → f v = mxV x3 (fa v) (fb v))) := by
  refine Mt.of rfl (Nat.le_of_ble_eq_true rfl) ?_
  refine Rn.pick (lv' := [(0, .ref ca), (1, .ref aa), (2, .ref ba), (3, .int (iv x3))]) [0, 1, 2, 3] rfl ?_
  obtain ⟨hq_ca, hq_aa, hq_ba, hq_aM, hq_bM⟩ := id hne
  obtain ⟨hc_O, hc_numbers, hc_b⟩ := id hc
  refine r_iconst (pc := 0) (v := iv 0) dX0_blend_0 (by decide) ?_
  refine r_istore (pc := 1) (lv' := [(4, .int (iv 0)), (0, .ref ca), (1, .ref aa), (2, .ref ba), (3, .int (iv x3))]) dX0_blend_1 (by decide) rfl ?_
  have B3 : ∀ k : Nat, ∀ nu3 : Nat → Int64, ∀ hp3 : MH, Tw (ov Γ cM (xJ cJ gn nu3)) hp3 → ∀  (v3_4 : Int), 0 ≤ v3_4 ∧ v3_4 ≤ 16 ∧ (v3_4 ≤ (gn : Int)) ∧ (eqB nu3 (fun v => mxV x3 (fa v) (fb v)) v3_4) → 16 - v3_4 ≤ (k : Int) → Rn (gG D cI cJ cZ cT lo b L xs) mX0_blend d 3 [(0, .ref ca), (1, .ref aa), (2, .ref ba), (3, .int (iv x3)), (4, .int (iv v3_4))] [] hp3 n 0 0 (pCx Γ cJ cM gn n (fun f => ∀ v, v < gn → f v = mxV x3 (fa v) (fb v))) := by
    refine lpS _ ?_
    intro k3 ih3 nu3 hp3 ht3 v3_4 hf3 hm3
    obtain ⟨hf3_0, hf3_1, hf3_2, ha3_3⟩ := hf3
    refine r_iload (pc := 3) dX0_blend_3 rfl ?_
    refine r_aload_n (pc := 5) dX0_blend_5 (i := 0) rfl rfl ?_
    refine t_getE (pc := 6) (.int (iv (gn : Int))) ht3 (rd_ov (Ne.symm hq_ca) hc_O) fX0_15 dX0_blend_6 rfl ?_
    refine t_icmp_ge (pc := 9) (tgt := 43) dX0_blend_9 (by decide) (by omega) (by omega) (fun c9 => ?_) (fun c9 => ?_)
    · exact r_vret (pc := 43) dX0_blend_43 rfl ⟨by omega, rfl, nu3, ht3, fun v hv => (by assumption : eqB nu3 (fun v => mxV x3 (fa v) (fb v)) v3_4) v (by omega)⟩
    · refine r_aload_n (pc := 12) dX0_blend_12 (i := 0) rfl rfl ?_
      refine t_getE (pc := 13) (.ref cM) ht3 (rd_ov (Ne.symm hq_ca) hc_O) fX0_9 dX0_blend_13 rfl ?_
      refine r_iload (pc := 16) dX0_blend_16 rfl ?_
      refine r_aload_n (pc := 18) dX0_blend_18 (i := 1) rfl rfl ?_
      refine t_getE (pc := 19) (.ref aM) ht3 (rd_ov (Ne.symm hq_aa) haO) fX0_9 dX0_blend_19 rfl ?_
      refine r_iload (pc := 22) dX0_blend_22 rfl ?_
      refine t_laldX (pc := 24) (t0 := 1) ht3 (rd_ov (Ne.symm hq_aM) haM) dX0_blend_24 rfl (by omega) (by omega) ?_
      refine r_aload_n (pc := 25) dX0_blend_25 (i := 2) rfl rfl ?_
      refine t_getE (pc := 26) (.ref bM) ht3 (rd_ov (Ne.symm hq_ba) hbO) fX0_9 dX0_blend_26 rfl ?_
      refine r_iload (pc := 29) dX0_blend_29 rfl ?_
      refine t_laldX (pc := 31) (t0 := 1) ht3 (rd_ov (Ne.symm hq_bM) hbM) dX0_blend_31 rfl (by omega) (by omega) ?_
      refine r_iload_n (pc := 32) dX0_blend_32 (i := 3) rfl rfl ?_
      refine t_callSJ (pc := 33) (as := [.long (fa (Int.toNat v3_4)), .long (fb (Int.toNat v3_4)), .int (iv x3)]) (st := [.int (iv v3_4), .ref cM]) kX0_107 dX0_blend_33 (c_X0_blendOfx (d := d - 1) (j0 := fa (Int.toNat v3_4)) (j1 := fb (Int.toNat v3_4)) (x2 := x3) (by omega) ht3 (by omega)) rfl (by omega) (Nat.le_of_ble_eq_true rfl) rfl (fun hp1 y2 ht3 ey2 => ?_)
      subst ey2
      refine t_lastX (pc := 36) (t0 := 1) ht3 (ov_s _ _ _) dX0_blend_36 rfl (by omega) (by omega) (fun hp4 ht5 => ?_)
      rw [ov_ov] at ht5
      refine r_iinc (pc := 37) (v := iv (v3_4 + 1)) (lv' := [(4, .int (iv (v3_4 + 1))), (0, .ref ca), (1, .ref aa), (2, .ref ba), (3, .int (iv x3))]) dX0_blend_37 rfl (iv_add _ _) (by decide) rfl ?_
      refine r_goto (pc := 40) (tgt := 3) dX0_blend_40 (by decide) ?_
      refine Rn.pick (lv' := [(0, .ref ca), (1, .ref aa), (2, .ref ba), (3, .int (iv x3)), (4, .int (iv (v3_4 + 1)))]) [1, 2, 3, 4, 0] rfl ?_
      exact ih3 (Int.toNat (16 - (v3_4 + 1))) (by omega) (fuj nu3 (Int.toNat v3_4) (mxV x3 (fa (Int.toNat v3_4)) (fb (Int.toNat v3_4)))) _ ht5 (v3_4 + 1) ⟨by omega, by omega, by omega, by (first | (intro u hu; exfalso; omega) | exact eqB_up (by assumption) (by omega) rfl)⟩ (by omega)
  refine Rn.pick (lv' := [(0, .ref ca), (1, .ref aa), (2, .ref ba), (3, .int (iv x3)), (4, .int (iv 0))]) [1, 2, 3, 4, 0] rfl ?_
  exact B3 (Int.toNat (16 - 0)) f0 _ ht 0 ⟨by omega, by omega, by omega, by (first | (intro u hu; exfalso; omega) | exact eqB_up (by assumption) (by omega) rfl)⟩ (by omega)
