set_option maxHeartbeats 4000000 in
set_option maxRecDepth 100000 in
theorem c_X6_markPairx {D : va_G} {cI cJ cZ cT : ClassId} {lo b L : Nat} {xs : Nat → Int32} {hp : MH} {n d : Nat} {Γ : TG} {s gn rw9 : Nat} {Ti Co Fr : Nat → Int64} {Nu : Nat → Int} {x1 x2 x3 : Int} (hd0 : 3 ≤ d) (hgb : 1 ≤ gn ∧ gn ≤ 16) (ht : Tw (SmS Γ cI cJ s Ti Co Fr Nu) hp) (hx1 : 0 ≤ x1 ∧ x1 ≤ 15) (hx2 : 0 ≤ x2 ∧ x2 ≤ 15) (hx3 : 0 ≤ x3 ∧ x3 ≤ 15) (hxn : x1 < (gn : Int)) (hrw : (rw9 : Int) = x3 * 32) : Mt (gG D cI cJ cZ cT lo b L xs) mX6_markPair d 0 0 [.ref s, .int (iv (gn : Int)), .int (iv x1), .int (iv x2), .int (iv x3)] hp n (fun r9 hp1 n1 => n1 = n ∧ ∃ (Co1 Fr1 : Nat → Int64) (v : Int), Tw (SmS Γ cI cJ s Ti Co1 Fr1 Nu) hp1 ∧ r9 = some (.int (iv v)) ∧ (0 ≤ v ∧ v ≤ 1) ∧ (∀ i, i < rw9 + 32 → Co1 i = Co i) ∧ ∀ p, tpP Ti gn p → cvP Co rw9 gn p → p (Int.toNat x1) = Int.toNat x2 → v = 1 ∧ cvP Co1 (rw9 + 32) gn p) := by
  refine Mt.of rfl (Nat.le_of_ble_eq_true rfl) ?_
  refine Rn.pick (lv' := [(0, .ref s), (1, .int (iv (gn : Int))), (2, .int (iv x1)), (3, .int (iv x2)), (4, .int (iv x3))]) [0, 1, 2, 3, 4] rfl ?_
  have t0 : Tw (ov (ov (ov (ov (ov Γ s (tO 6 (smnR s))) (s + 1) (xJ cJ 512 Ti)) (s + 2) (xJ cJ 544 Co)) (s + 3) (xJ cJ 32 Fr)) (s + 4) (xI cI 16 Nu)) hp := ht
  refine r_iload (pc := 0) dX6_markPair_0 rfl ?_
  refine r_bipush (pc := 2) (v := iv 32) dX6_markPair_2 (by decide) ?_
  refine r_imul (pc := 4) (v := iv (x3 * 32)) dX6_markPair_4 (iv_mul _ _) ?_
  refine r_istore (pc := 5) (lv' := [(5, .int (iv (x3 * 32))), (0, .ref s), (1, .int (iv (gn : Int))), (2, .int (iv x1)), (3, .int (iv x2)), (4, .int (iv x3))]) dX6_markPair_5 (by decide) rfl ?_
  refine r_aload_n (pc := 7) dX6_markPair_7 (i := 0) rfl rfl ?_
  refine t_getE (pc := 8) (.ref (s + 2)) t0 (rd_ov (by omega) (rd_ov (by omega) (rd_ov (by omega) (rd_ov (by omega) (rd_of (ov_s _ _ _)))))) fX6_15 dX6_markPair_8 rfl ?_
  refine r_iload (pc := 11) dX6_markPair_11 rfl ?_
  refine r_aload_n (pc := 13) dX6_markPair_13 (i := 0) rfl rfl ?_
  refine t_getE (pc := 14) (.ref (s + 2)) t0 (rd_ov (by omega) (rd_ov (by omega) (rd_ov (by omega) (rd_ov (by omega) (rd_of (ov_s _ _ _)))))) fX6_15 dX6_markPair_14 rfl ?_
  refine r_iload (pc := 17) dX6_markPair_17 rfl ?_
  refine r_bipush (pc := 19) (v := iv 32) dX6_markPair_19 (by decide) ?_
  refine r_iadd (pc := 21) (v := iv ((x3 * 32) + 32)) dX6_markPair_21 (iv_add _ _) ?_
  refine r_bipush (pc := 22) (v := iv 32) dX6_markPair_22 (by decide) ?_
  refine t_copyJX (pc := 24) (t0 := 1) t0 (rd_ov (by omega) (rd_ov (by omega) (rd_of (ov_s _ _ _)))) (rd_ov (by omega) (rd_ov (by omega) (rd_of (ov_s _ _ _)))) aX6_88 dX6_markPair_24 rfl (by decide) (by omega) (Nat.le_of_ble_eq_true rfl) (fun hp1 ht2 => ?_)
  rw [ov_in3 (by omega) (by omega)] at ht2
  refine r_aload_n (pc := 27) dX6_markPair_27 (i := 0) rfl rfl ?_
  refine t_getE (pc := 28) (.ref (s + 2)) ht2 (rd_ov (by omega) (rd_ov (by omega) (rd_ov (by omega) (rd_ov (by omega) (rd_of (ov_s _ _ _)))))) fX6_15 dX6_markPair_28 rfl ?_
  refine r_iload (pc := 31) dX6_markPair_31 rfl ?_
  refine r_iload_n (pc := 33) dX6_markPair_33 (i := 2) rfl rfl ?_
  refine r_iadd (pc := 34) (v := iv ((x3 * 32) + x1)) dX6_markPair_34 (iv_add _ _) ?_
  refine t_laldX (pc := 35) (t0 := 1) ht2 (rd_ov (by omega) (rd_ov (by omega) (rd_of (ov_s _ _ _)))) dX6_markPair_35 rfl (by decide) (by omega) ?_
  refine r_iload_n (pc := 36) dX6_markPair_36 (i := 2) rfl rfl ?_
  refine r_i2l (pc := 37) (v := (iv x1).toInt64) dX6_markPair_37 rfl ?_
  refine r_ladd (pc := 38) (v := ((cpJ Co Co (Int.toNat (x3 * 32)) (Int.toNat ((x3 * 32) + 32)) (Int.toNat 32)) (Int.toNat ((x3 * 32) + x1))) + ((iv x1).toInt64)) dX6_markPair_38 rfl ?_
  refine r_lconst (pc := 39) (v := 1) dX6_markPair_39 (by decide) ?_
  refine r_ladd (pc := 40) (v := (((cpJ Co Co (Int.toNat (x3 * 32)) (Int.toNat ((x3 * 32) + 32)) (Int.toNat 32)) (Int.toNat ((x3 * 32) + x1))) + ((iv x1).toInt64)) + (1 : Int64)) dX6_markPair_40 rfl ?_
  refine t_callSJ (pc := 41) (as := [.long ((((cpJ Co Co (Int.toNat (x3 * 32)) (Int.toNat ((x3 * 32) + 32)) (Int.toNat 32)) (Int.toNat ((x3 * 32) + x1))) + ((iv x1).toInt64)) + (1 : Int64))]) (st := []) kX6_70 dX6_markPair_41 (c_X6_scramblex (d := d - 1) (j0 := (((cpJ Co Co (Int.toNat (x3 * 32)) (Int.toNat ((x3 * 32) + 32)) (Int.toNat 32)) (Int.toNat ((x3 * 32) + x1))) + ((iv x1).toInt64)) + (1 : Int64)) (by omega) ht2) rfl (by omega) (Nat.le_of_ble_eq_true rfl) rfl (fun hp4 y3 ht5 by3 => ?_)
  subst by3
  refine r_lstore (pc := 44) (lv' := [(6, .long (scR ((((cpJ Co Co (Int.toNat (x3 * 32)) (Int.toNat ((x3 * 32) + 32)) (Int.toNat 32)) (Int.toNat ((x3 * 32) + x1))) + ((iv x1).toInt64)) + (1 : Int64)))), (5, .int (iv (x3 * 32))), (0, .ref s), (1, .int (iv (gn : Int))), (2, .int (iv x1)), (3, .int (iv x2)), (4, .int (iv x3))]) dX6_markPair_44 (by decide) rfl ?_
  refine r_aload_n (pc := 46) dX6_markPair_46 (i := 0) rfl rfl ?_
  refine t_getE (pc := 47) (.ref (s + 2)) ht5 (rd_ov (by omega) (rd_ov (by omega) (rd_ov (by omega) (rd_ov (by omega) (rd_of (ov_s _ _ _)))))) fX6_15 dX6_markPair_47 rfl ?_
  refine r_iload (pc := 50) dX6_markPair_50 rfl ?_
  refine r_bipush (pc := 52) (v := iv 32) dX6_markPair_52 (by decide) ?_
  refine r_iadd (pc := 54) (v := iv ((x3 * 32) + 32)) dX6_markPair_54 (iv_add _ _) ?_
  refine r_iload_n (pc := 55) dX6_markPair_55 (i := 2) rfl rfl ?_
  refine r_iadd (pc := 56) (v := iv (((x3 * 32) + 32) + x1)) dX6_markPair_56 (iv_add _ _) ?_
  refine r_lload (pc := 57) dX6_markPair_57 rfl ?_
  refine t_lastX (pc := 59) (t0 := 1) ht5 (eq_ov (by omega) (eq_ov (by omega) (ov_s _ _ _))) dX6_markPair_59 rfl (by decide) (by omega) (fun hp6 ht7 => ?_)
  rw [ov_in3 (by omega) (by omega) ] at ht7
  refine r_aload_n (pc := 60) dX6_markPair_60 (i := 0) rfl rfl ?_
  refine t_getE (pc := 61) (.ref (s + 2)) ht7 (rd_ov (by omega) (rd_ov (by omega) (rd_ov (by omega) (rd_ov (by omega) (rd_of (ov_s _ _ _)))))) fX6_15 dX6_markPair_61 rfl ?_
  refine r_iload (pc := 64) dX6_markPair_64 rfl ?_
  refine r_bipush (pc := 66) (v := iv 32) dX6_markPair_66 (by decide) ?_
  refine r_iadd (pc := 68) (v := iv ((x3 * 32) + 32)) dX6_markPair_68 (iv_add _ _) ?_
  refine r_bipush (pc := 69) (v := iv 16) dX6_markPair_69 (by decide) ?_
  refine r_iadd (pc := 71) (v := iv (((x3 * 32) + 32) + 16)) dX6_markPair_71 (iv_add _ _) ?_
  refine r_iload_n (pc := 72) dX6_markPair_72 (i := 3) rfl rfl ?_
  refine r_iadd (pc := 73) (v := iv ((((x3 * 32) + 32) + 16) + x2)) dX6_markPair_73 (iv_add _ _) ?_
  refine r_lload (pc := 74) dX6_markPair_74 rfl ?_
  refine t_lastX (pc := 76) (t0 := 1) ht7 (eq_ov (by omega) (eq_ov (by omega) (ov_s _ _ _))) dX6_markPair_76 rfl (by decide) (by omega) (fun hp8 ht9 => ?_)
  rw [ov_in3 (by omega) (by omega) ] at ht9
  refine r_aload_n (pc := 77) dX6_markPair_77 (i := 0) rfl rfl ?_
  refine r_iload_n (pc := 78) dX6_markPair_78 (i := 1) rfl rfl ?_
  refine r_iload (pc := 79) dX6_markPair_79 rfl ?_
  refine r_iconst (pc := 81) (v := iv 1) dX6_markPair_81 (by decide) ?_
  refine r_iadd (pc := 82) (v := iv (x3 + 1)) dX6_markPair_82 (iv_add _ _) ?_
  obtain ⟨fs15, hfs15⟩ := t_obj ht9 (rd_ov (by omega) (rd_ov (by omega) (rd_ov (by omega) (rd_ov (by omega) (rd_of (ov_s _ _ _))))))
  refine r_callV (pc := 83) (as := [.int (iv (gn : Int)), .int (iv (x3 + 1))]) (st := []) kX6_52 rfl dX6_markPair_83 hfs15 (c_X6_refinex (d := d - 1) (x1 := x3 + 1) (rw9 := rw9 + 32) (by omega) hgb ht9 (by omega) (by omega)) rfl (by omega) (Nat.le_of_ble_eq_true rfl) (Nat.zero_le _) (Nat.zero_le _) rfl (fun r10 hp11 n12 q13 => ?_)
  obtain ⟨hnn12, Co80, Fr80, v80, ht14, hrr10, bv80, hlo80, hcv80⟩ := q13
  subst n12 r10
  change Rn _ _ _ 86 _ [.int (iv v80)] _ _ _ _ _
  exact r_zret (pc := 86) dX6_markPair_86 rfl (iv_nar (by omega)) ⟨rfl, Co80, Fr80, _, ht14, rfl, bv80, fun i9 hi9 => (hlo80 i9 (Or.inl hi9)).trans (mk_lo (row := rw9) (by omega) (show _ = rw9 + 32 + Int.toNat x1 by omega) (show _ = rw9 + 32 + 16 + Int.toNat x2 by omega) i9 hi9), fun p9 h9 g9 k9 => hcv80 p9 h9 (mk_cv (row := rw9) (v := Int.toNat x1) (u := Int.toNat x2) (by omega) (by omega) (by omega) h9.1 h9.2.1 k9 (by omega) (by omega) (by omega) (by omega) g9 rfl)⟩
