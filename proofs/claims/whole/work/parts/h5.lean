set_option maxHeartbeats 4000000 in
set_option maxRecDepth 100000 in
theorem c_X2_addLinkx {D : va_G} {cI cJ cZ cT : ClassId} {lo b L : Nat} {xs : Nat → Int32} {hp : MH} {n d : Nat} {Γ : TG} {s : Nat} {Lk : Int} {B lt lh lr lc : Nat → Int} {De : Nat → Int64} {x1 x2 x3 x4 : Int} (hd0 : 0 ≤ d) (hL0 : 0 ≤ Lk ∧ Lk ≤ 240) (hB0 : Rfx 16 0 239 B) (hlt0 : Rfx 240 0 15 lt) (hlh0 : Rfx 240 0 15 lh) (ht : Tw (LSt Γ cI cJ s Lk B lt lh lr lc De) hp) (hL1 : Lk < 240) (hx1 : 0 ≤ x1 ∧ x1 ≤ 15) (hx2 : 0 ≤ x2 ∧ x2 ≤ 15) (hx3 : -1000 ≤ x3 ∧ x3 ≤ 1000) (hx4 : -1000 ≤ x4 ∧ x4 ≤ 1000) : Mt (gG D cI cJ cZ cT lo b L xs) mX2_addLink d 0 0 [.ref s, .int (iv x1), .int (iv x2), .int (iv x3), .int (iv x4)] hp n (fun r9 hp1 n1 => n1 = n ∧ r9 = none ∧ Tw (LSt Γ cI cJ s (Lk + 1) B (fup lt (Int.toNat Lk) x1) (fup lh (Int.toNat Lk) x2) (fup lr (Int.toNat Lk) x3) (fup lc (Int.toNat Lk) x4) De) hp1 ∧ Rfx 240 0 15 (fup lt (Int.toNat Lk) x1) ∧ Rfx 240 0 15 (fup lh (Int.toNat Lk) x2)) := by
  refine Mt.of rfl (Nat.le_of_ble_eq_true rfl) ?_
  refine Rn.pick (lv' := [(0, .ref s), (1, .int (iv x1)), (2, .int (iv x2)), (3, .int (iv x3)), (4, .int (iv x4))]) [0, 1, 2, 3, 4] rfl ?_
  have t0 : Tw (ov (ov (ov (ov (ov (ov (ov Γ s (tO 2 (flG s Lk))) (s + 2) (xI cI 16 B)) (s + 4) (xI cI 240 lt)) (s + 5) (xI cI 240 lh)) (s + 6) (xI cI 240 lr)) (s + 7) (xI cI 240 lc)) (s + 8) (xJ cJ 16 De)) hp := ht
  refine r_aload_n (pc := 0) dX2_addLink_0 (i := 0) rfl rfl ?_
  refine t_getE (pc := 1) (.int (iv Lk)) t0 (rd_ov (by omega) (rd_ov (by omega) (rd_ov (by omega) (rd_ov (by omega) (rd_ov (by omega) (rd_ov (by omega) (rd_of (ov_s _ _ _)))))))) fX2_89 dX2_addLink_1 rfl ?_
  refine r_istore (pc := 4) (lv' := [(5, .int (iv Lk)), (0, .ref s), (1, .int (iv x1)), (2, .int (iv x2)), (3, .int (iv x3)), (4, .int (iv x4))]) dX2_addLink_4 (by decide) rfl ?_
  refine r_iload (pc := 6) dX2_addLink_6 rfl ?_
  refine t_if_lt (pc := 8) (tgt := 60) dX2_addLink_8 (by decide) (by omega) (fun c8 => ?_) (fun c8 => ?_)
  · exfalso
    omega
  · refine r_iload (pc := 11) dX2_addLink_11 rfl ?_
    refine r_sipush (pc := 13) (v := iv 240) dX2_addLink_13 (by decide) ?_
    refine t_icmp_ge (pc := 16) (tgt := 60) dX2_addLink_16 (by decide) (by omega) (by omega) (fun c16 => ?_) (fun c16 => ?_)
    · exfalso
      omega
    · refine r_aload_n (pc := 19) dX2_addLink_19 (i := 0) rfl rfl ?_
      refine t_getE (pc := 20) (.ref (s + 4)) t0 (rd_ov (by omega) (rd_ov (by omega) (rd_ov (by omega) (rd_ov (by omega) (rd_ov (by omega) (rd_ov (by omega) (rd_of (ov_s _ _ _)))))))) fX2_21 dX2_addLink_20 rfl ?_
      refine r_iload (pc := 23) dX2_addLink_23 rfl ?_
      refine r_iload_n (pc := 25) dX2_addLink_25 (i := 1) rfl rfl ?_
      refine t_iastX (pc := 26) (t0 := 0) t0 (eq_ov (by omega) (eq_ov (by omega) (eq_ov (by omega) (eq_ov (by omega) (ov_s _ _ _))))) dX2_addLink_26 rfl (by decide) (by omega) (by omega) (fun hp1 ht2 => ?_)
      rw [ov_in5 (by omega) (by omega) (by omega) (by omega) ] at ht2
      have hlt1 : Rfx 240 0 15 (fup lt (Int.toNat Lk) x1) := Rfx_up (by assumption) (by omega)
      refine r_aload_n (pc := 27) dX2_addLink_27 (i := 0) rfl rfl ?_
      refine t_getE (pc := 28) (.ref (s + 5)) ht2 (rd_ov (by omega) (rd_ov (by omega) (rd_ov (by omega) (rd_ov (by omega) (rd_ov (by omega) (rd_ov (by omega) (rd_of (ov_s _ _ _)))))))) fX2_24 dX2_addLink_28 rfl ?_
      refine r_iload (pc := 31) dX2_addLink_31 rfl ?_
      refine r_iload_n (pc := 33) dX2_addLink_33 (i := 2) rfl rfl ?_
      refine t_iastX (pc := 34) (t0 := 0) ht2 (eq_ov (by omega) (eq_ov (by omega) (eq_ov (by omega) (ov_s _ _ _)))) dX2_addLink_34 rfl (by decide) (by omega) (by omega) (fun hp3 ht4 => ?_)
      rw [ov_in4 (by omega) (by omega) (by omega) ] at ht4
      have hlh1 : Rfx 240 0 15 (fup lh (Int.toNat Lk) x2) := Rfx_up (by assumption) (by omega)
      refine r_aload_n (pc := 35) dX2_addLink_35 (i := 0) rfl rfl ?_
      refine t_getE (pc := 36) (.ref (s + 6)) ht4 (rd_ov (by omega) (rd_ov (by omega) (rd_ov (by omega) (rd_ov (by omega) (rd_ov (by omega) (rd_ov (by omega) (rd_of (ov_s _ _ _)))))))) fX2_27 dX2_addLink_36 rfl ?_
      refine r_iload (pc := 39) dX2_addLink_39 rfl ?_
      refine r_iload_n (pc := 41) dX2_addLink_41 (i := 3) rfl rfl ?_
      refine t_iastX (pc := 42) (t0 := 0) ht4 (eq_ov (by omega) (eq_ov (by omega) (ov_s _ _ _))) dX2_addLink_42 rfl (by decide) (by omega) (by omega) (fun hp5 ht6 => ?_)
      rw [ov_in3 (by omega) (by omega) ] at ht6
      refine r_aload_n (pc := 43) dX2_addLink_43 (i := 0) rfl rfl ?_
      refine t_getE (pc := 44) (.ref (s + 7)) ht6 (rd_ov (by omega) (rd_ov (by omega) (rd_ov (by omega) (rd_ov (by omega) (rd_ov (by omega) (rd_ov (by omega) (rd_of (ov_s _ _ _)))))))) fX2_30 dX2_addLink_44 rfl ?_
      refine r_iload (pc := 47) dX2_addLink_47 rfl ?_
      refine r_iload (pc := 49) dX2_addLink_49 rfl ?_
      refine t_iastX (pc := 51) (t0 := 0) ht6 (eq_ov (by omega) (ov_s _ _ _)) dX2_addLink_51 rfl (by decide) (by omega) (by omega) (fun hp7 ht8 => ?_)
      rw [ov_in2 (by omega) ] at ht8
      refine r_aload_n (pc := 52) dX2_addLink_52 (i := 0) rfl rfl ?_
      refine r_iload (pc := 53) dX2_addLink_53 rfl ?_
      refine r_iconst (pc := 55) (v := iv 1) dX2_addLink_55 (by decide) ?_
      refine r_iadd (pc := 56) (v := iv (Lk + 1)) dX2_addLink_56 (iv_add _ _) ?_
      refine t_putX (pc := 57) (ty := .int) ht8 (eq_ov (by omega) (eq_ov (by omega) (eq_ov (by omega) (eq_ov (by omega) (eq_ov (by omega) (eq_ov (by omega) (ov_s _ _ _))))))) fX2_89 tyX2 tyX2_ok nmX2 (by decide +kernel) (Or.inl rfl) dX2_addLink_57 (Nat.le_of_ble_eq_true rfl) rfl rfl rfl (fun hp9 ht10 => ?_)
      rw [ov_in7 (by omega) (by omega) (by omega) (by omega) (by omega) (by omega) ] at ht10
      exact r_vret (pc := 60) dX2_addLink_60 rfl ⟨rfl, rfl, ht10, hlt1, hlh1⟩
