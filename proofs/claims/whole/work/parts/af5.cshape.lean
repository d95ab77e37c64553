set_option maxHeartbeats 4000000 in
set_option maxRecDepth 100000 in
theorem c_X8_cutx {D : va_G} {cI cJ cZ cT : ClassId} {lo b L : Nat} {xs : Nat → Int32} {hp : MH} {n d : Nat} {Γ : TG} {rA rL : Nat} {e0 : Nat → Int} {x1 x2 : Int} (hd0 : 0 ≤ d) (hR0 : Rfx rL 0 65535 e0) (hrL : rL ≤ 16) (ht : Tw (ov Γ rA (xI cI rL e0)) hp) (hx1 : 0 ≤ x1 ∧ x1 < (rL : Int)) (hx2 : 0 ≤ x2 ∧ x2 < (rL : Int)) (hne : x1 ≠ x2) : Mt (gG D cI cJ cZ cT lo b L xs) mX8_cut d 0 0 [.ref rA, .int (iv x1), .int (iv x2)] hp n (pEx Γ cI rA rL n (fun f => Rfx rL 0 65535 f ∧ ∀ u, ∀ j, Me (f u) j ↔ Me (e0 u) j ∧ ¬ ((u = Int.toNat x1 ∧ j = Int.toNat x2) ∨ (u = Int.toNat x2 ∧ j = Int.toNat x1)))) := by
  refine Mt.of rfl (Nat.le_of_ble_eq_true rfl) ?_
  refine Rn.pick (lv' := [(0, .ref rA), (1, .int (iv x1)), (2, .int (iv x2))]) [0, 1, 2] rfl ?_
  refine r_aload_n (pc := 0) dX8_cut_0 (i := 0) rfl rfl ?_
  refine r_iload_n (pc := 1) dX8_cut_1 (i := 1) rfl rfl ?_
  refine r_dup2_11 (pc := 2) dX8_cut_2 rfl rfl ?_
  refine t_ialdX (pc := 3) (t0 := 0) ht (rd_of (ov_s _ _ _)) dX8_cut_3 rfl (by omega) (by omega) (fun b1 => ?_)
  have rb1 := (show Rfx rL 0 65535 e0 by assumption) (Int.toNat x1) (by omega)
  refine r_iconst (pc := 4) (v := iv 1) dX8_cut_4 (by decide) ?_
  refine r_iload_n (pc := 5) dX8_cut_5 (i := 2) rfl rfl ?_
  refine r_ishl (pc := 6) (v := iv ((2 ^ Int.toNat x2 : Nat) : Int)) dX8_cut_6 (shl_e (by omega)) ?_
  have mp6_2 : 1 ≤ 2 ^ Int.toNat x2 := Nat.one_le_two_pow
  have mq6_3 : 2 ^ Int.toNat x2 ≤ 2 ^ 15 := Nat.pow_le_pow_right (by omega) (by omega)
  have ms6 := Me_shl (Int.toNat x2)
  refine r_iconst (pc := 7) (v := iv (-1)) dX8_cut_7 (by decide) ?_
  refine r_ixor (pc := 8) (v := iv (-((2 ^ Int.toNat x2 : Nat) : Int) - 1)) dX8_cut_8 (iv_not _) ?_
  obtain ⟨z4, hz4, bz4⟩ := and_l (e0 (Int.toNat x1)) (-((2 ^ Int.toNat x2 : Nat) : Int) - 1) (by omega) (by omega)
  refine r_iand (pc := 9) (v := iv z4) dX8_cut_9 hz4 ?_
  have mez4 := Me_not (y := ((2 ^ Int.toNat x2 : Nat) : Int)) hz4 (by omega) (by omega) (by omega)
  have hc9 := mez4
  refine t_iastX (pc := 10) (t0 := 0) ht (ov_s _ _ _) dX8_cut_10 rfl (by omega) (by omega) (by omega) (fun hp5 ht6 => ?_)
  rw [ov_ov] at ht6
  have hR10 : Rfx rL 0 65535 (fup e0 (Int.toNat x1) z4) := Rfx_up (by assumption) (by omega)
  refine r_aload_n (pc := 11) dX8_cut_11 (i := 0) rfl rfl ?_
  refine r_iload_n (pc := 12) dX8_cut_12 (i := 2) rfl rfl ?_
  refine r_dup2_11 (pc := 13) dX8_cut_13 rfl rfl ?_
  refine t_ialdX (pc := 14) (t0 := 0) ht6 (rd_of (ov_s _ _ _)) dX8_cut_14 rfl (by omega) (by omega) (fun b7 => ?_)
  have rb7 := (show Rfx rL 0 65535 (fup e0 (Int.toNat x1) z4) by assumption) (Int.toNat x2) (by omega)
  refine r_iconst (pc := 15) (v := iv 1) dX8_cut_15 (by decide) ?_
  refine r_iload_n (pc := 16) dX8_cut_16 (i := 1) rfl rfl ?_
  refine r_ishl (pc := 17) (v := iv ((2 ^ Int.toNat x1 : Nat) : Int)) dX8_cut_17 (shl_e (by omega)) ?_
  have mp17_8 : 1 ≤ 2 ^ Int.toNat x1 := Nat.one_le_two_pow
  have mq17_9 : 2 ^ Int.toNat x1 ≤ 2 ^ 15 := Nat.pow_le_pow_right (by omega) (by omega)
  have ms17 := Me_shl (Int.toNat x1)
  refine r_iconst (pc := 18) (v := iv (-1)) dX8_cut_18 (by decide) ?_
  refine r_ixor (pc := 19) (v := iv (-((2 ^ Int.toNat x1 : Nat) : Int) - 1)) dX8_cut_19 (iv_not _) ?_
  obtain ⟨z10, hz10, bz10⟩ := and_l ((fup e0 (Int.toNat x1) z4) (Int.toNat x2)) (-((2 ^ Int.toNat x1 : Nat) : Int) - 1) (by omega) (by omega)
  refine r_iand (pc := 20) (v := iv z10) dX8_cut_20 hz10 ?_
  have mez10 := Me_not (y := ((2 ^ Int.toNat x1 : Nat) : Int)) hz10 (by omega) (by omega) (by omega)
  have hc20 := mez10
  refine t_iastX (pc := 21) (t0 := 0) ht6 (ov_s _ _ _) dX8_cut_21 rfl (by omega) (by omega) (by omega) (fun hp11 ht12 => ?_)
  rw [ov_ov] at ht12
  have hR21 : Rfx rL 0 65535 (fup (fup e0 (Int.toNat x1) z4) (Int.toNat x2) z10) := Rfx_up (by assumption) (by omega)
  exact r_vret (pc := 22) dX8_cut_22 rfl ⟨rfl, rfl, _, ht12, hR21, cut_x hc9 ms6 hc20 ms17 (by omega)⟩
