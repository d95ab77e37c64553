set_option maxHeartbeats 4000000 in
set_option maxRecDepth 100000 in
theorem c_X6_markPairx {D : va_G} {cI cJ cZ cT : ClassId} {lo b L : Nat} {xs : Nat → Int32} {hp : MH} {n d : Nat} {Γ : TG} {ga : Nat} {gF : Nat} {gT : Nat} {gW : Nat} {gC : Nat} {gTl : Nat} {gHd : Nat} {gBy : Nat} {gOu : Nat} {gIn : Nat} {gJo : Nat} {gn : Nat} {gm : Nat} {gq : Nat} {gdr : Int} {s ka rw9 : Nat} {Ti Co Fr : Nat → Int64} {Nu : Nat → Int} {x1 x2 x3 : Int} (hd0 : 3 ≤ d) (hg : TyG Γ cI cJ cZ ga gF gT gW gC gTl gHd gBy gOu gIn gJo gn gm gq gdr) (hsp : s + 5 ≤ ga ∧ s + 5 ≤ gF ∧ s + 5 ≤ gT ∧ s + 5 ≤ gW ∧ s + 5 ≤ gC ∧ s + 5 ≤ gTl ∧ s + 5 ≤ gHd ∧ s + 5 ≤ gBy ∧ s + 5 ≤ gOu ∧ s + 5 ≤ gIn ∧ s + 5 ≤ gJo) (ht : Tw (SmS Γ cI cJ s ga ka Ti Co Fr Nu) hp) (hx1 : 0 ≤ x1 ∧ x1 ≤ 15) (hx2 : 0 ≤ x2 ∧ x2 ≤ 15) (hx3 : 0 ≤ x3 ∧ x3 ≤ 15) (hxn : x1 < (gn : Int)) (hrw : (rw9 : Int) = x3 * 32) : Mt (gG D cI cJ cZ cT lo b L xs) mX6_markPair d 0 0 [.ref s, .int (iv x1), .int (iv x2), .int (iv x3)] hp n (fun r9 hp1 n1 => n1 = n ∧ ∃ (Co1 Fr1 : Nat → Int64) (v : Int), Tw (SmS Γ cI cJ s ga ka Ti Co1 Fr1 Nu) hp1 ∧ r9 = some (.int (iv v)) ∧ (0 ≤ v ∧ v ≤ 1) ∧ (∀ i, i < rw9 + 32 → Co1 i = Co i) ∧ ∀ p, tpP Ti gn p → cvP Co rw9 gn p → p (Int.toNat x1) = Int.toNat x2 → v = 1 ∧ cvP Co1 (rw9 + 32) gn p) := by
  refine Mt.of rfl (Nat.le_of_ble_eq_true rfl) ?_
  refine Rn.pick (lv' := [(0, .ref s), (1, .int (iv x1)), (2, .int (iv x2)), (3, .int (iv x3))]) [0, 1, 2, 3] rfl ?_
  have t0 : Tw (ov (ov (ov (ov (ov Γ s (tO 6 (smnF s ga ka))) (s + 1) (xJ cJ 512 Ti)) (s + 2) (xJ cJ 544 Co)) (s + 3) (xJ cJ 32 Fr)) (s + 4) (xI cI 16 Nu)) hp := ht
  obtain ⟨hg_O, hg_from, hg_to, hg_weight, hg_cost, hg_tail, hg_head, hg_by, hg_out, hg_in, hg_joined, hg_b⟩ := id hg
  have hgb := hg_b
  refine r_iload_n (pc := 0) dX6_markPair_0 (i := 3) rfl rfl ?_
  refine r_bipush (pc := 1) (v := iv 32) dX6_markPair_1 (by decide) ?_
  refine r_imul (pc := 3) (v := iv (x3 * 32)) dX6_markPair_3 (iv_mul _ _) ?_
  refine r_istore (pc := 4) (lv' := [(4, .int (iv (x3 * 32))), (0, .ref s), (1, .int (iv x1)), (2, .int (iv x2)), (3, .int (iv x3))]) dX6_markPair_4 (by decide) rfl ?_
  refine r_aload_n (pc := 6) dX6_markPair_6 (i := 0) rfl rfl ?_
  refine t_getE (pc := 7) (.ref (s + 2)) t0 (rd_ov (by omega) (rd_ov (by omega) (rd_ov (by omega) (rd_ov (by omega) (rd_of (ov_s _ _ _)))))) fX6_15 dX6_markPair_7 rfl ?_
  refine r_iload (pc := 10) dX6_markPair_10 rfl ?_
  refine r_aload_n (pc := 12) dX6_markPair_12 (i := 0) rfl rfl ?_
  refine t_getE (pc := 13) (.ref (s + 2)) t0 (rd_ov (by omega) (rd_ov (by omega) (rd_ov (by omega) (rd_ov (by omega) (rd_of (ov_s _ _ _)))))) fX6_15 dX6_markPair_13 rfl ?_
  refine r_iload (pc := 16) dX6_markPair_16 rfl ?_
  refine r_bipush (pc := 18) (v := iv 32) dX6_markPair_18 (by decide) ?_
  refine r_iadd (pc := 20) (v := iv ((x3 * 32) + 32)) dX6_markPair_20 (iv_add _ _) ?_
  refine r_bipush (pc := 21) (v := iv 32) dX6_markPair_21 (by decide) ?_
  refine t_copyJX (pc := 23) (t0 := 1) t0 (rd_ov (by omega) (rd_ov (by omega) (rd_of (ov_s _ _ _)))) (rd_ov (by omega) (rd_ov (by omega) (rd_of (ov_s _ _ _)))) aX6_95 dX6_markPair_23 rfl (by decide) (by omega) (Nat.le_of_ble_eq_true rfl) (fun hp1 ht2 => ?_)
  rw [ov_in3 (by omega) (by omega)] at ht2
  refine r_aload_n (pc := 26) dX6_markPair_26 (i := 0) rfl rfl ?_
  refine t_getE (pc := 27) (.ref (s + 2)) ht2 (rd_ov (by omega) (rd_ov (by omega) (rd_ov (by omega) (rd_ov (by omega) (rd_of (ov_s _ _ _)))))) fX6_15 dX6_markPair_27 rfl ?_
  refine r_iload (pc := 30) dX6_markPair_30 rfl ?_
  refine r_iload_n (pc := 32) dX6_markPair_32 (i := 1) rfl rfl ?_
  refine r_iadd (pc := 33) (v := iv ((x3 * 32) + x1)) dX6_markPair_33 (iv_add _ _) ?_
  refine t_laldX (pc := 34) (t0 := 1) ht2 (rd_ov (by omega) (rd_ov (by omega) (rd_of (ov_s _ _ _)))) dX6_markPair_34 rfl (by decide) (by omega) ?_
  refine r_iload_n (pc := 35) dX6_markPair_35 (i := 1) rfl rfl ?_
  refine r_i2l (pc := 36) (v := (iv x1).toInt64) dX6_markPair_36 rfl ?_
  refine r_ladd (pc := 37) (v := ((cpJ Co Co (Int.toNat (x3 * 32)) (Int.toNat ((x3 * 32) + 32)) (Int.toNat 32)) (Int.toNat ((x3 * 32) + x1))) + ((iv x1).toInt64)) dX6_markPair_37 rfl ?_
  refine r_lconst (pc := 38) (v := 1) dX6_markPair_38 (by decide) ?_
  refine r_ladd (pc := 39) (v := (((cpJ Co Co (Int.toNat (x3 * 32)) (Int.toNat ((x3 * 32) + 32)) (Int.toNat 32)) (Int.toNat ((x3 * 32) + x1))) + ((iv x1).toInt64)) + (1 : Int64)) dX6_markPair_39 rfl ?_
  refine t_callSJ (pc := 40) (as := [.long ((((cpJ Co Co (Int.toNat (x3 * 32)) (Int.toNat ((x3 * 32) + 32)) (Int.toNat 32)) (Int.toNat ((x3 * 32) + x1))) + ((iv x1).toInt64)) + (1 : Int64))]) (st := []) kX6_77 dX6_markPair_40 (c_X6_scramblex (d := d - 1) (j0 := (((cpJ Co Co (Int.toNat (x3 * 32)) (Int.toNat ((x3 * 32) + 32)) (Int.toNat 32)) (Int.toNat ((x3 * 32) + x1))) + ((iv x1).toInt64)) + (1 : Int64)) (by omega) ht2) rfl (by omega) (Nat.le_of_ble_eq_true rfl) rfl (fun hp4 y3 ht5 by3 => ?_)
  subst by3
  refine r_lstore (pc := 43) (lv' := [(5, .long (scR ((((cpJ Co Co (Int.toNat (x3 * 32)) (Int.toNat ((x3 * 32) + 32)) (Int.toNat 32)) (Int.toNat ((x3 * 32) + x1))) + ((iv x1).toInt64)) + (1 : Int64)))), (4, .int (iv (x3 * 32))), (0, .ref s), (1, .int (iv x1)), (2, .int (iv x2)), (3, .int (iv x3))]) dX6_markPair_43 (by decide) rfl ?_
  refine r_aload_n (pc := 45) dX6_markPair_45 (i := 0) rfl rfl ?_
  refine t_getE (pc := 46) (.ref (s + 2)) ht5 (rd_ov (by omega) (rd_ov (by omega) (rd_ov (by omega) (rd_ov (by omega) (rd_of (ov_s _ _ _)))))) fX6_15 dX6_markPair_46 rfl ?_
  refine r_iload (pc := 49) dX6_markPair_49 rfl ?_
  refine r_bipush (pc := 51) (v := iv 32) dX6_markPair_51 (by decide) ?_
  refine r_iadd (pc := 53) (v := iv ((x3 * 32) + 32)) dX6_markPair_53 (iv_add _ _) ?_
  refine r_iload_n (pc := 54) dX6_markPair_54 (i := 1) rfl rfl ?_
  refine r_iadd (pc := 55) (v := iv (((x3 * 32) + 32) + x1)) dX6_markPair_55 (iv_add _ _) ?_
  refine r_lload (pc := 56) dX6_markPair_56 rfl ?_
  refine t_lastX (pc := 58) (t0 := 1) ht5 (eq_ov (by omega) (eq_ov (by omega) (ov_s _ _ _))) dX6_markPair_58 rfl (by decide) (by omega) (fun hp6 ht7 => ?_)
  rw [ov_in3 (by omega) (by omega) ] at ht7
  refine r_aload_n (pc := 59) dX6_markPair_59 (i := 0) rfl rfl ?_
  refine t_getE (pc := 60) (.ref (s + 2)) ht7 (rd_ov (by omega) (rd_ov (by omega) (rd_ov (by omega) (rd_ov (by omega) (rd_of (ov_s _ _ _)))))) fX6_15 dX6_markPair_60 rfl ?_
  refine r_iload (pc := 63) dX6_markPair_63 rfl ?_
  refine r_bipush (pc := 65) (v := iv 32) dX6_markPair_65 (by decide) ?_
  refine r_iadd (pc := 67) (v := iv ((x3 * 32) + 32)) dX6_markPair_67 (iv_add _ _) ?_
  refine r_bipush (pc := 68) (v := iv 16) dX6_markPair_68 (by decide) ?_
  refine r_iadd (pc := 70) (v := iv (((x3 * 32) + 32) + 16)) dX6_markPair_70 (iv_add _ _) ?_
  refine r_iload_n (pc := 71) dX6_markPair_71 (i := 2) rfl rfl ?_
  refine r_iadd (pc := 72) (v := iv ((((x3 * 32) + 32) + 16) + x2)) dX6_markPair_72 (iv_add _ _) ?_
  refine r_lload (pc := 73) dX6_markPair_73 rfl ?_
  refine t_lastX (pc := 75) (t0 := 1) ht7 (eq_ov (by omega) (eq_ov (by omega) (ov_s _ _ _))) dX6_markPair_75 rfl (by decide) (by omega) (fun hp8 ht9 => ?_)
  rw [ov_in3 (by omega) (by omega) ] at ht9
  refine r_aload_n (pc := 76) dX6_markPair_76 (i := 0) rfl rfl ?_
  refine r_iload_n (pc := 77) dX6_markPair_77 (i := 3) rfl rfl ?_
  refine r_iconst (pc := 78) (v := iv 1) dX6_markPair_78 (by decide) ?_
  refine r_iadd (pc := 79) (v := iv (x3 + 1)) dX6_markPair_79 (iv_add _ _) ?_
  obtain ⟨fs15, hfs15⟩ := t_obj ht9 (rd_ov (by omega) (rd_ov (by omega) (rd_ov (by omega) (rd_ov (by omega) (rd_of (ov_s _ _ _))))))
  refine r_callV (pc := 80) (as := [.int (iv (x3 + 1))]) (st := []) kX6_59 rfl dX6_markPair_80 hfs15 (c_X6_refinex (d := d - 1) (x1 := x3 + 1) (rw9 := rw9 + 32) (by omega) hg hsp ht9 (by omega) (by omega)) rfl (by omega) (Nat.le_of_ble_eq_true rfl) (Nat.zero_le _) (Nat.zero_le _) rfl (fun r10 hp11 n12 q13 => ?_)
  obtain ⟨hnn12, Co80, Fr80, v80, ht14, hrr10, bv80, hlo80, hcv80⟩ := q13
  subst n12 r10
  change Rn _ _ _ 83 _ [.int (iv v80)] _ _ _ _ _
  exact r_zret (pc := 83) dX6_markPair_83 rfl (iv_nar (by omega)) ⟨rfl, Co80, Fr80, _, ht14, rfl, bv80, fun i9 hi9 => (hlo80 i9 (Or.inl hi9)).trans (mk_lo (row := rw9) (by omega) (show _ = rw9 + 32 + Int.toNat x1 by omega) (show _ = rw9 + 32 + 16 + Int.toNat x2 by omega) i9 hi9), fun p9 h9 g9 k9 => hcv80 p9 h9 (mk_cv (row := rw9) (v := Int.toNat x1) (u := Int.toNat x2) (by omega) (by omega) (by omega) h9.1 h9.2.1 k9 (by omega) (by omega) (by omega) (by omega) g9 rfl)⟩
