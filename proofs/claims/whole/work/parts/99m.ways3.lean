set_option maxHeartbeats 4000000 in
set_option maxRecDepth 100000 in
theorem t_X10_traceWide {D : va_G} {cI cJ cZ cT : ClassId} {lo b L : Nat} {xs : Nat → Int32} {hp : MH} {n d : Nat} {Γ : TG} {ga : Nat} {gF : Nat} {gT : Nat} {gW : Nat} {gC : Nat} {gTl : Nat} {gHd : Nat} {gBy : Nat} {gOu : Nat} {gIn : Nat} {gJo : Nat} {gn : Nat} {gm : Nat} {gq : Nat} {gdr : Int} {wa : Nat} {x1 : Int} (hd0 : 2 ≤ d) (hg : TyG Γ cI cJ cZ ga gF gT gW gC gTl gHd gBy gOu gIn gJo gn gm gq gdr) (hwO : rd Γ wa (tO 9 [fE (.int (iv (gn : Int))), fE (.ref (wa + 1)), fE (.ref (wa + 2)), fE (.ref (wa + 3)), fE (.ref (wa + 4)), fE (.ref (wa + 5))])) (hS : Γ (wa + 1) = some (tI cI gn (rg 0 2))) (hWo : Γ (wa + 2) = some (tJ cJ gn anyJ)) (hL : Γ (wa + 3) = some (tI cI gn (rg (-1) ((gn : Int) - 1)))) (hwM : Γ (wa + 4) = some (tJ cJ gn anyJ)) (hwR : Γ (wa + 5) = some (tI cI (gn * gn) (rg 0 59))) (ht : Tw Γ hp) (hx1 : 0 ≤ x1 ∧ x1 < (gn : Int)) : Mt (gG D cI cJ cZ cT lo b L xs) mX10_traceWide d 2 (gn + gn) [.ref wa, .ref ga, .int (iv x1)] hp n (pV Γ (n + 2)) := by
  refine Mt.of rfl (Nat.le_of_ble_eq_true rfl) ?_
  refine Rn.pick (lv' := [(0, .ref wa), (1, .ref ga), (2, .int (iv x1))]) [0, 1, 2] rfl ?_
  obtain ⟨hg_O, hg_from, hg_to, hg_weight, hg_cost, hg_tail, hg_head, hg_by, hg_out, hg_in, hg_joined, hg_b⟩ := id hg
  have hsq : gn * gn ≤ 256 := Nat.le_trans (Nat.mul_le_mul (show gn ≤ 16 by omega) (show gn ≤ 16 by omega)) (by decide)
  refine r_aload_n (pc := 0) dX10_traceWide_0 (i := 0) rfl rfl ?_
  refine t_getE (pc := 1) (.int (iv (gn : Int))) ht hwO fX10_15 dX10_traceWide_1 rfl ?_
  refine t_newI (pc := 4) (t0 := 0) (N := gn) (-1) ((gn : Int) - 1) ht dX10_traceWide_4 (tb_t (k := 68) (w := Cond.arrayClass .int) (by decide +kernel)) rfl (by omega) (by omega) (by omega) (by omega) (by omega) (fun hp1 Γ2 hE3 hN4 ht5 => ?_)
  refine r_astore_n (pc := 6) (lv' := [(3, .ref n), (0, .ref wa), (1, .ref ga), (2, .int (iv x1))]) dX10_traceWide_6 (i := 3) rfl (by decide) rfl ?_
  refine r_aload_n (pc := 7) dX10_traceWide_7 (i := 0) rfl rfl ?_
  refine t_getE (pc := 8) (.int (iv (gn : Int))) ht5 (rd_ext hE3 hwO) fX10_15 dX10_traceWide_8 rfl ?_
  refine t_newJ (pc := 11) (t0 := 1) (N := gn) ht5 dX10_traceWide_11 (tb_t (k := 79) (w := Cond.arrayClass .long) (by decide +kernel)) rfl (by omega) (by omega) (by omega) (by omega) (fun hp6 Γ7 hE8 hN9 ht10 => ?_)
  refine r_astore (pc := 13) (lv' := [(4, .ref (n + 1)), (3, .ref n), (0, .ref wa), (1, .ref ga), (2, .int (iv x1))]) dX10_traceWide_13 (by decide) rfl ?_
  refine r_iconst (pc := 15) (v := iv 0) dX10_traceWide_15 (by decide) ?_
  refine r_istore (pc := 16) (lv' := [(5, .int (iv 0)), (4, .ref (n + 1)), (3, .ref n), (0, .ref wa), (1, .ref ga), (2, .int (iv x1))]) dX10_traceWide_16 (by decide) rfl ?_
  have B18 : ∀ k : Nat, ∀ hp18 : MH, Tw Γ7 hp18 → ∀  (v18_5 : Int), 0 ≤ v18_5 ∧ v18_5 ≤ 16 → 16 - v18_5 ≤ (k : Int) → Rn (gG D cI cJ cZ cT lo b L xs) mX10_traceWide d 18 [(0, .ref wa), (1, .ref ga), (2, .int (iv x1)), (3, .ref n), (4, .ref (n + 1)), (5, .int (iv v18_5))] [] hp18 (n + 2) ((2 - 1) - 1) (((gn + gn) - gn) - gn) (pV Γ (n + 2)) := by
    refine lpS _ ?_
    intro k18 ih18 hp18 ht18 v18_5 hf18 hm18
    refine r_iload (pc := 18) dX10_traceWide_18 rfl ?_
    refine r_aload_n (pc := 20) dX10_traceWide_20 (i := 0) rfl rfl ?_
    refine t_getE (pc := 21) (.int (iv (gn : Int))) ht18 (rd_ext hE8 (rd_ext hE3 hwO)) fX10_15 dX10_traceWide_21 rfl ?_
    refine t_icmp_ge (pc := 24) (tgt := 92) dX10_traceWide_24 (by decide) (by omega) (by omega) (fun c24 => ?_) (fun c24 => ?_)
    · exact r_vret (pc := 92) dX10_traceWide_92 rfl ⟨rfl, (Tw_ext hE3 (Tw_ext hE8 ht18)), rfl⟩
    · refine r_iload (pc := 27) dX10_traceWide_27 rfl ?_
      refine r_iload_n (pc := 29) dX10_traceWide_29 (i := 2) rfl rfl ?_
      have B86 : ∀ hp86 : MH, Tw Γ7 hp86 → True → Rn (gG D cI cJ cZ cT lo b L xs) mX10_traceWide d 86 [(0, .ref wa), (1, .ref ga), (2, .int (iv x1)), (3, .ref n), (4, .ref (n + 1)), (5, .int (iv v18_5))] [] hp86 (n + 2) ((2 - 1) - 1) (((gn + gn) - gn) - gn) (pV Γ (n + 2)) := by
        intro hp86 ht86 hf86
        refine r_iinc (pc := 86) (v := iv (v18_5 + 1)) (lv' := [(5, .int (iv (v18_5 + 1))), (0, .ref wa), (1, .ref ga), (2, .int (iv x1)), (3, .ref n), (4, .ref (n + 1))]) dX10_traceWide_86 rfl (iv_add _ _) (by decide) rfl ?_
        refine r_goto (pc := 89) (tgt := 18) dX10_traceWide_89 (by decide) ?_
        refine Rn.pick (lv' := [(0, .ref wa), (1, .ref ga), (2, .int (iv x1)), (3, .ref n), (4, .ref (n + 1)), (5, .int (iv (v18_5 + 1)))]) [1, 2, 3, 4, 5, 0] rfl ?_
        exact ih18 (Int.toNat (16 - (v18_5 + 1))) (by omega) _ ht86 (v18_5 + 1) ⟨by omega, by omega⟩ (by omega)
      refine t_icmp_eq (pc := 30) (tgt := 86) dX10_traceWide_30 (by decide) (by omega) (by omega) (fun c30 => ?_) (fun c30 => ?_)
      · refine Rn.pick (lv' := [(0, .ref wa), (1, .ref ga), (2, .int (iv x1)), (3, .ref n), (4, .ref (n + 1)), (5, .int (iv v18_5))]) [0, 1, 2, 3, 4, 5] rfl ?_
        exact B86 _ ht18 trivial
      · refine r_aload_n (pc := 33) dX10_traceWide_33 (i := 0) rfl rfl ?_
        refine t_getE (pc := 34) (.ref (wa + 1)) ht18 (rd_ext hE8 (rd_ext hE3 hwO)) fX10_18 dX10_traceWide_34 rfl ?_
        refine r_iload (pc := 37) dX10_traceWide_37 rfl ?_
        refine t_ialdR (pc := 39) (t0 := 0) ht18 (rd_ext hE8 (rd_ext hE3 (rd_of hS))) dX10_traceWide_39 rfl (by omega) (by omega) (fun y11 by11 => ?_)
        refine r_iconst (pc := 40) (v := iv 1) dX10_traceWide_40 (by decide) ?_
        refine t_icmp_ne (pc := 41) (tgt := 86) dX10_traceWide_41 (by decide) (by omega) (by omega) (fun c41 => ?_) (fun c41 => ?_)
        · refine Rn.pick (lv' := [(0, .ref wa), (1, .ref ga), (2, .int (iv x1)), (3, .ref n), (4, .ref (n + 1)), (5, .int (iv v18_5))]) [0, 1, 2, 3, 4, 5] rfl ?_
          exact B86 _ ht18 trivial
        · refine r_aload_n (pc := 44) dX10_traceWide_44 (i := 0) rfl rfl ?_
          refine r_aload_n (pc := 45) dX10_traceWide_45 (i := 1) rfl rfl ?_
          refine r_iload_n (pc := 46) dX10_traceWide_46 (i := 2) rfl rfl ?_
          refine r_iload (pc := 47) dX10_traceWide_47 rfl ?_
          refine r_aload_n (pc := 49) dX10_traceWide_49 (i := 3) rfl rfl ?_
          refine r_aload (pc := 50) dX10_traceWide_50 rfl ?_
          refine t_callVV (pc := 52) (as := [.ref ga, .int (iv x1), .int (iv v18_5), .ref n, .ref (n + 1)]) (st := []) ht18 (rd_ext hE8 (rd_ext hE3 hwO)) kX10_113 rfl dX10_traceWide_52 (t_X10_countWide (d := d - 1) (x1 := x1) (x2 := v18_5) (by omega) (TyG.ext hE8 (TyG.ext hE3 hg)) (rd_ext hE8 (rd_ext hE3 hwO)) (hE8 _ _ (hE3 _ _ hS)) (hE8 _ _ (hE3 _ _ hWo)) (hE8 _ _ (hE3 _ _ hL)) (hE8 _ _ (hE3 _ _ hwM)) (hE8 _ _ (hE3 _ _ hwR)) (hE8 _ _ hN4) hN9 ht18 (by omega) (by omega)) rfl (by omega) (Nat.le_of_ble_eq_true rfl) rfl (fun hp12 ht13 => ?_)
          refine r_aload_n (pc := 55) dX10_traceWide_55 (i := 0) rfl rfl ?_
          refine t_getE (pc := 56) (.ref (wa + 3)) ht13 (rd_ext hE8 (rd_ext hE3 hwO)) fX10_26 dX10_traceWide_56 rfl ?_
          refine r_iload (pc := 59) dX10_traceWide_59 rfl ?_
          refine r_aload_n (pc := 61) dX10_traceWide_61 (i := 3) rfl rfl ?_
          refine r_iload (pc := 62) dX10_traceWide_62 rfl ?_
          refine t_ialdR (pc := 64) (t0 := 0) ht13 (rd_ext hE8 (rd_of hN4)) dX10_traceWide_64 rfl (by omega) (by omega) (fun y14 by14 => ?_)
          refine t_iastR (pc := 65) (t0 := 0) ht13 (hE8 _ _ (hE3 _ _ hL)) dX10_traceWide_65 rfl (by omega) (by omega) (by omega) (by omega) (fun hp15 ht16 => ?_)
          refine r_aload_n (pc := 66) dX10_traceWide_66 (i := 0) rfl rfl ?_
          refine t_getE (pc := 67) (.ref (wa + 4)) ht16 (rd_ext hE8 (rd_ext hE3 hwO)) fX10_29 dX10_traceWide_67 rfl ?_
          refine r_iload (pc := 70) dX10_traceWide_70 rfl ?_
          refine r_aload (pc := 72) dX10_traceWide_72 rfl ?_
          refine r_iload (pc := 74) dX10_traceWide_74 rfl ?_
          refine t_lald (pc := 76) (t0 := 1) ht16 (rd_of hN9) dX10_traceWide_76 rfl (by omega) (by omega) (fun w17 _ => ?_)
          refine t_last (pc := 77) (t0 := 1) ht16 (hE8 _ _ (hE3 _ _ hwM)) dX10_traceWide_77 rfl (by omega) (by omega) trivial (fun hp18 ht19 => ?_)
          refine r_aload_n (pc := 78) dX10_traceWide_78 (i := 0) rfl rfl ?_
          refine r_aload_n (pc := 79) dX10_traceWide_79 (i := 1) rfl rfl ?_
          refine r_iload (pc := 80) dX10_traceWide_80 rfl ?_
          refine r_aload_n (pc := 82) dX10_traceWide_82 (i := 3) rfl rfl ?_
          refine t_callVV (pc := 83) (as := [.ref ga, .int (iv v18_5), .ref n]) (st := []) ht19 (rd_ext hE8 (rd_ext hE3 hwO)) kX10_117 rfl dX10_traceWide_83 (t_X10_followBack (d := d - 1) (x1 := v18_5) (by omega) (TyG.ext hE8 (TyG.ext hE3 hg)) (rd_ext hE8 (rd_ext hE3 hwO)) (hE8 _ _ (hE3 _ _ hS)) (hE8 _ _ (hE3 _ _ hWo)) (hE8 _ _ (hE3 _ _ hL)) (hE8 _ _ (hE3 _ _ hwM)) (hE8 _ _ (hE3 _ _ hwR)) (hE8 _ _ hN4) hN9 ht19 (by omega)) rfl (by omega) (Nat.le_of_ble_eq_true rfl) rfl (fun hp20 ht21 => ?_)
          refine Rn.pick (lv' := [(0, .ref wa), (1, .ref ga), (2, .int (iv x1)), (3, .ref n), (4, .ref (n + 1)), (5, .int (iv v18_5))]) [0, 1, 2, 3, 4, 5] rfl ?_
          exact B86 _ ht21 trivial
  refine Rn.pick (lv' := [(0, .ref wa), (1, .ref ga), (2, .int (iv x1)), (3, .ref n), (4, .ref (n + 1)), (5, .int (iv 0))]) [3, 4, 5, 2, 1, 0] rfl ?_
  exact B18 (Int.toNat (16 - 0)) _ ht10 0 ⟨by omega, by omega⟩ (by omega)
set_option maxHeartbeats 4000000 in
set_option maxRecDepth 100000 in
theorem t_X10_detail {D : va_G} {cI cJ cZ cT : ClassId} {lo b L : Nat} {xs : Nat → Int32} {hp : MH} {n d : Nat} {Γ : TG} {wa gn : Nat} {x1 x2 : Int} (hd0 : 0 ≤ d)  (hwO : rd Γ wa (tO 9 [fE (.int (iv (gn : Int))), fE (.ref (wa + 1)), fE (.ref (wa + 2)), fE (.ref (wa + 3)), fE (.ref (wa + 4)), fE (.ref (wa + 5))])) (hS : rd Γ (wa + 1) (tI cI gn (rg 0 2))) (hWo : rd Γ (wa + 2) (tJ cJ gn anyJ)) (hL : rd Γ (wa + 3) (tI cI gn (rg (-1) ((gn : Int) - 1)))) (hwM : rd Γ (wa + 4) (tJ cJ gn anyJ)) (hwR : rd Γ (wa + 5) (tI cI (gn * gn) (rg 0 59))) (hgn : 1 ≤ gn ∧ gn ≤ 16) (ht : Tw Γ hp) (hx1 : 0 ≤ x1 ∧ x1 < (gn : Int)) (hx2 : 0 ≤ x2 ∧ x2 ≤ 3) : Mt (gG D cI cJ cZ cT lo b L xs) mX10_detail d 0 0 [.ref wa, .int (iv x1), .int (iv x2)] hp n (pJ Γ n yes64) := by
  refine Mt.of rfl (Nat.le_of_ble_eq_true rfl) ?_
  refine Rn.pick (lv' := [(0, .ref wa), (1, .int (iv x1)), (2, .int (iv x2))]) [0, 1, 2] rfl ?_
  have hsq : gn * gn ≤ 256 := Nat.le_trans (Nat.mul_le_mul (show gn ≤ 16 by omega) (show gn ≤ 16 by omega)) (by decide)
  refine r_iload_n (pc := 0) dX10_detail_0 (i := 2) rfl rfl ?_
  by_cases c1 : x2 = 0
  · refine r_tableIn (pc := 1) (off := 27) (tgt := 28) dX10_detail_1 (by rw [iv_toInt (by omega) (by omega)]; omega) (by rw [iv_toInt (by omega) (by omega)]; omega) (by rw [iv_toInt (by omega) (by omega), c1]; decide) (by decide) ?_
    refine r_aload_n (pc := 28) dX10_detail_28 (i := 0) rfl rfl ?_
    refine t_getE (pc := 29) (.ref (wa + 1)) ht hwO fX10_18 dX10_detail_29 rfl ?_
    refine r_iload_n (pc := 32) dX10_detail_32 (i := 1) rfl rfl ?_
    refine t_ialdR (pc := 33) (t0 := 0) ht hS dX10_detail_33 rfl (by omega) (by omega) (fun y2 by2 => ?_)
    refine r_i2l (pc := 34) (v := (iv y2).toInt64) dX10_detail_34 rfl ?_
    exact r_lret (pc := 35) dX10_detail_35 rfl ⟨rfl, ht, _, rfl, trivial⟩
  by_cases c3 : x2 = 1
  · refine r_tableIn (pc := 1) (off := 35) (tgt := 36) dX10_detail_1 (by rw [iv_toInt (by omega) (by omega)]; omega) (by rw [iv_toInt (by omega) (by omega)]; omega) (by rw [iv_toInt (by omega) (by omega), c3]; decide) (by decide) ?_
    refine r_aload_n (pc := 36) dX10_detail_36 (i := 0) rfl rfl ?_
    refine t_getE (pc := 37) (.ref (wa + 2)) ht hwO fX10_22 dX10_detail_37 rfl ?_
    refine r_iload_n (pc := 40) dX10_detail_40 (i := 1) rfl rfl ?_
    refine t_lald (pc := 41) (t0 := 1) ht hWo dX10_detail_41 rfl (by omega) (by omega) (fun w4 _ => ?_)
    exact r_lret (pc := 42) dX10_detail_42 rfl ⟨rfl, ht, _, rfl, trivial⟩
  by_cases c5 : x2 = 2
  · refine r_tableIn (pc := 1) (off := 42) (tgt := 43) dX10_detail_1 (by rw [iv_toInt (by omega) (by omega)]; omega) (by rw [iv_toInt (by omega) (by omega)]; omega) (by rw [iv_toInt (by omega) (by omega), c5]; decide) (by decide) ?_
    refine r_aload_n (pc := 43) dX10_detail_43 (i := 0) rfl rfl ?_
    refine t_getE (pc := 44) (.ref (wa + 3)) ht hwO fX10_26 dX10_detail_44 rfl ?_
    refine r_iload_n (pc := 47) dX10_detail_47 (i := 1) rfl rfl ?_
    refine t_ialdR (pc := 48) (t0 := 0) ht hL dX10_detail_48 rfl (by omega) (by omega) (fun y6 by6 => ?_)
    refine r_i2l (pc := 49) (v := (iv y6).toInt64) dX10_detail_49 rfl ?_
    exact r_lret (pc := 50) dX10_detail_50 rfl ⟨rfl, ht, _, rfl, trivial⟩
  refine r_tableOut (pc := 1) (tgt := 51) dX10_detail_1 (by rw [iv_toInt (by omega) (by omega)]; omega) (by decide) ?_
  refine r_aload_n (pc := 51) dX10_detail_51 (i := 0) rfl rfl ?_
  refine t_getE (pc := 52) (.ref (wa + 4)) ht hwO fX10_29 dX10_detail_52 rfl ?_
  refine r_iload_n (pc := 55) dX10_detail_55 (i := 1) rfl rfl ?_
  refine t_lald (pc := 56) (t0 := 1) ht hwM dX10_detail_56 rfl (by omega) (by omega) (fun w7 _ => ?_)
  exact r_lret (pc := 57) dX10_detail_57 rfl ⟨rfl, ht, _, rfl, trivial⟩
set_option maxHeartbeats 4000000 in
set_option maxRecDepth 100000 in
theorem t_X10_arcOnWay {D : va_G} {cI cJ cZ cT : ClassId} {lo b L : Nat} {xs : Nat → Int32} {hp : MH} {n d : Nat} {Γ : TG} {wa gn : Nat} {x1 x2 : Int} (hd0 : 0 ≤ d)  (hwO : rd Γ wa (tO 9 [fE (.int (iv (gn : Int))), fE (.ref (wa + 1)), fE (.ref (wa + 2)), fE (.ref (wa + 3)), fE (.ref (wa + 4)), fE (.ref (wa + 5))])) (hS : rd Γ (wa + 1) (tI cI gn (rg 0 2))) (hWo : rd Γ (wa + 2) (tJ cJ gn anyJ)) (hL : rd Γ (wa + 3) (tI cI gn (rg (-1) ((gn : Int) - 1)))) (hwM : rd Γ (wa + 4) (tJ cJ gn anyJ)) (hwR : rd Γ (wa + 5) (tI cI (gn * gn) (rg 0 59))) (hgn : 1 ≤ gn ∧ gn ≤ 16) (ht : Tw Γ hp) (hx1 : 0 ≤ x1 ∧ x1 < (gn : Int)) (hx2 : -2147483648 ≤ x2 ∧ x2 ≤ 2147483647) : Mt (gG D cI cJ cZ cT lo b L xs) mX10_arcOnWay d 0 0 [.ref wa, .int (iv x1), .int (iv x2)] hp n (pR Γ n (-1) 59) := by
  refine Mt.of rfl (Nat.le_of_ble_eq_true rfl) ?_
  refine Rn.pick (lv' := [(0, .ref wa), (1, .int (iv x1)), (2, .int (iv x2))]) [0, 1, 2] rfl ?_
  have hsq : gn * gn ≤ 256 := Nat.le_trans (Nat.mul_le_mul (show gn ≤ 16 by omega) (show gn ≤ 16 by omega)) (by decide)
  refine r_iload_n (pc := 0) dX10_arcOnWay_0 (i := 2) rfl rfl ?_
  have B31 : ∀ hp31 : MH, Tw Γ hp31 → ∀  (u31_0 : Int), (-1) ≤ u31_0 ∧ u31_0 ≤ 59 → Rn (gG D cI cJ cZ cT lo b L xs) mX10_arcOnWay d 31 [] [.int (iv u31_0)] hp31 n 0 0 (pR Γ n (-1) 59) := by
    intro hp31 ht31 u31_0 hf31
    exact r_iret (pc := 31) dX10_arcOnWay_31 rfl ⟨rfl, ht31, _, rfl, by omega, by omega⟩
  have B30 : ∀ hp30 : MH, Tw Γ hp30 → True → Rn (gG D cI cJ cZ cT lo b L xs) mX10_arcOnWay d 30 [] [] hp30 n 0 0 (pR Γ n (-1) 59) := by
    intro hp30 ht30 hf30
    refine r_iconst (pc := 30) (v := iv (-1)) dX10_arcOnWay_30 (by decide) ?_
    refine Rn.pick (lv' := []) [] rfl ?_
    exact B31 _ ht30 (-1) ⟨by omega, by omega⟩
  refine t_if_lt (pc := 1) (tgt := 30) dX10_arcOnWay_1 (by decide) (by omega) (fun c1 => ?_) (fun c1 => ?_)
  · refine Rn.pick (lv' := []) [] rfl ?_
    exact B30 _ ht trivial
  · refine r_iload_n (pc := 4) dX10_arcOnWay_4 (i := 2) rfl rfl ?_
    refine r_aload_n (pc := 5) dX10_arcOnWay_5 (i := 0) rfl rfl ?_
    refine t_getE (pc := 6) (.ref (wa + 3)) ht hwO fX10_26 dX10_arcOnWay_6 rfl ?_
    refine r_iload_n (pc := 9) dX10_arcOnWay_9 (i := 1) rfl rfl ?_
    refine t_ialdR (pc := 10) (t0 := 0) ht hL dX10_arcOnWay_10 rfl (by omega) (by omega) (fun y1 by1 => ?_)
    refine t_icmp_ge (pc := 11) (tgt := 30) dX10_arcOnWay_11 (by decide) (by omega) (by omega) (fun c11 => ?_) (fun c11 => ?_)
    · refine Rn.pick (lv' := []) [] rfl ?_
      exact B30 _ ht trivial
    · refine r_aload_n (pc := 14) dX10_arcOnWay_14 (i := 0) rfl rfl ?_
      refine t_getE (pc := 15) (.ref (wa + 5)) ht hwO fX10_32 dX10_arcOnWay_15 rfl ?_
      refine r_iload_n (pc := 18) dX10_arcOnWay_18 (i := 1) rfl rfl ?_
      refine r_aload_n (pc := 19) dX10_arcOnWay_19 (i := 0) rfl rfl ?_
      refine t_getE (pc := 20) (.int (iv (gn : Int))) ht hwO fX10_15 dX10_arcOnWay_20 rfl ?_
      have hmul23 := mul_nn (n := gn) (u := x1) (by omega) (by omega)
      refine r_imul (pc := 23) (v := iv (x1 * (gn : Int))) dX10_arcOnWay_23 (iv_mul _ _) ?_
      refine r_iload_n (pc := 24) dX10_arcOnWay_24 (i := 2) rfl rfl ?_
      refine r_iadd (pc := 25) (v := iv ((x1 * (gn : Int)) + x2)) dX10_arcOnWay_25 (iv_add _ _) ?_
      refine t_ialdR (pc := 26) (t0 := 0) ht hwR dX10_arcOnWay_26 rfl (by omega) (by omega) (fun y2 by2 => ?_)
      refine r_goto (pc := 27) (tgt := 31) dX10_arcOnWay_27 (by decide) ?_
      refine Rn.pick (lv' := []) [] rfl ?_
      exact B31 _ ht y2 ⟨by omega, by omega⟩
theorem TyG.ov1 {Γ : TG} {cI cJ cZ : ClassId} {ga : Nat} {gF : Nat} {gT : Nat} {gW : Nat} {gC : Nat} {gTl : Nat} {gHd : Nat} {gBy : Nat} {gOu : Nat} {gIn : Nat} {gJo : Nat} {gn : Nat} {gm : Nat} {gq : Nat} {gdr : Int} {s : Nat} {T : va_E → Prop} (hlt : s < ga ∧ s < gTl ∧ s < gHd ∧ s < gBy ∧ s < gW ∧ s < gOu ∧ s < gF ∧ s < gT ∧ s < gC ∧ s < gIn ∧ s < gJo) (h : TyG Γ cI cJ cZ ga gF gT gW gC gTl gHd gBy gOu gIn gJo gn gm gq gdr) : TyG (ov Γ s T) cI cJ cZ ga gF gT gW gC gTl gHd gBy gOu gIn gJo gn gm gq gdr := ⟨rd_ov (by omega) h.1, rd_ov (by omega) h.2.1, rd_ov (by omega) h.2.2.1, rd_ov (by omega) h.2.2.2.1, rd_ov (by omega) h.2.2.2.2.1, rd_ov (by omega) h.2.2.2.2.2.1, rd_ov (by omega) h.2.2.2.2.2.2.1, rd_ov (by omega) h.2.2.2.2.2.2.2.1, rd_ov (by omega) h.2.2.2.2.2.2.2.2.1, rd_ov (by omega) h.2.2.2.2.2.2.2.2.2.1, rd_ov (by omega) h.2.2.2.2.2.2.2.2.2.2.1, h.2.2.2.2.2.2.2.2.2.2.2⟩
abbrev smnR (s : Nat) : List (Value → Prop) := [fE (.ref (s + 1)), fE (.ref (s + 2)), fE (.ref (s + 3)), fE (.ref (s + 4))]
set_option maxHeartbeats 4000000 in
set_option maxRecDepth 100000 in
theorem t_X6_find {D : va_G} {cI cJ cZ cT : ClassId} {lo b L : Nat} {xs : Nat → Int32} {hp : MH} {n d : Nat} {Γ : TG} {s : Nat} {ga : Nat} {gF : Nat} {gT : Nat} {gW : Nat} {gC : Nat} {gTl : Nat} {gHd : Nat} {gBy : Nat} {gOu : Nat} {gIn : Nat} {gJo : Nat} {gn : Nat} {gm : Nat} {gq : Nat} {gdr : Int} {ka : Nat} {kF : Nat} {kT : Nat} {kW : Nat} {kC : Nat} {kTl : Nat} {kHd : Nat} {kBy : Nat} {kOu : Nat} {kIn : Nat} {kJo : Nat} {kn : Nat} {km : Nat} {kq : Nat} {kdr : Int} (hd0 : 21 ≤ d) (hO : Γ s = some (tO 6 (smnR s))) (hA1 : Γ (s + 1) = some (tJ cJ 512 anyJ)) (hA2 : Γ (s + 2) = some (tJ cJ 544 anyJ)) (hA3 : Γ (s + 3) = some (tJ cJ 32 anyJ)) (hA4 : Γ (s + 4) = some (tI cI 16 (rg 0 15))) (hg : TyG Γ cI cJ cZ ga gF gT gW gC gTl gHd gBy gOu gIn gJo gn gm gq gdr) (hk : TyG Γ cI cJ cZ ka kF kT kW kC kTl kHd kBy kOu kIn kJo kn km kq kdr) (hltg : s < ga ∧ s < gTl ∧ s < gHd ∧ s < gBy ∧ s < gW ∧ s < gOu ∧ s < gF ∧ s < gT ∧ s < gC ∧ s < gIn ∧ s < gJo) (hltk : s < ka ∧ s < kTl ∧ s < kHd ∧ s < kBy ∧ s < kW ∧ s < kOu ∧ s < kF ∧ s < kT ∧ s < kC ∧ s < kIn ∧ s < kJo) (ht : Tw Γ hp) : Mt (gG D cI cJ cZ cT lo b L xs) mX6_find d 0 0 [.ref s, .ref ga, .ref ka] hp n (pR Γ n 0 1) := by
  refine Mt.of rfl (Nat.le_of_ble_eq_true rfl) ?_
  refine Rn.pick (lv' := [(0, .ref s), (1, .ref ga), (2, .ref ka)]) [0, 1, 2] rfl ?_
  obtain ⟨hg_O, hg_from, hg_to, hg_weight, hg_cost, hg_tail, hg_head, hg_by, hg_out, hg_in, hg_joined, hg_b⟩ := id hg
  obtain ⟨hk_O, hk_from, hk_to, hk_weight, hk_cost, hk_tail, hk_head, hk_by, hk_out, hk_in, hk_joined, hk_b⟩ := id hk
  have hs : TySame Γ cI cJ cZ s := ⟨rd_of hO, hA1, hA2, hA3, hA4⟩
  refine r_aload_n (pc := 0) dX6_find_0 (i := 1) rfl rfl ?_
  refine t_getE (pc := 1) (.int (iv (gn : Int))) ht hg_O fX6_25 dX6_find_1 rfl ?_
  refine r_aload_n (pc := 4) dX6_find_4 (i := 2) rfl rfl ?_
  refine t_getE (pc := 5) (.int (iv (kn : Int))) ht hk_O fX6_25 dX6_find_5 rfl ?_
  refine t_icmp_ne (pc := 8) (tgt := 33) dX6_find_8 (by decide) (by omega) (by omega) (fun c8 => ?_) (fun c8 => ?_)
  · refine r_iconst (pc := 33) (v := iv 0) dX6_find_33 (by decide) ?_
    exact r_zret (pc := 34) dX6_find_34 rfl (iv_nar (by omega)) ⟨rfl, ht, _, rfl, by omega, by omega⟩
  · refine r_aload_n (pc := 11) dX6_find_11 (i := 1) rfl rfl ?_
    refine t_getE (pc := 12) (.int (iv gdr)) ht hg_O fX6_31 dX6_find_12 rfl ?_
    refine r_aload_n (pc := 15) dX6_find_15 (i := 2) rfl rfl ?_
    refine t_getE (pc := 16) (.int (iv kdr)) ht hk_O fX6_31 dX6_find_16 rfl ?_
    refine t_icmp_ne (pc := 19) (tgt := 33) dX6_find_19 (by decide) (by omega) (by omega) (fun c19 => ?_) (fun c19 => ?_)
    · refine r_iconst (pc := 33) (v := iv 0) dX6_find_33 (by decide) ?_
      exact r_zret (pc := 34) dX6_find_34 rfl (iv_nar (by omega)) ⟨rfl, ht, _, rfl, by omega, by omega⟩
    · refine r_aload_n (pc := 22) dX6_find_22 (i := 1) rfl rfl ?_
      refine t_getE (pc := 23) (.int (iv (gm : Int))) ht hg_O fX6_35 dX6_find_23 rfl ?_
      refine r_aload_n (pc := 26) dX6_find_26 (i := 2) rfl rfl ?_
      refine t_getE (pc := 27) (.int (iv (km : Int))) ht hk_O fX6_35 dX6_find_27 rfl ?_
      refine t_icmp_eq (pc := 30) (tgt := 35) dX6_find_30 (by decide) (by omega) (by omega) (fun c30 => ?_) (fun c30 => ?_)
      · refine r_aload_n (pc := 35) dX6_find_35 (i := 0) rfl rfl ?_
        refine t_getE (pc := 36) (.ref (s + 1)) ht (rd_of hO) fX6_9 dX6_find_36 rfl ?_
        refine r_lconst (pc := 39) (v := 0) dX6_find_39 (by decide) ?_
        refine t_fillJ (pc := 40) ht hA1 kX6_38 dX6_find_40 (by omega) (by omega) (Nat.le_of_ble_eq_true rfl) (fun hp1 ht2 => ?_)
        refine r_aload_n (pc := 43) dX6_find_43 (i := 0) rfl rfl ?_
        refine r_aload_n (pc := 44) dX6_find_44 (i := 1) rfl rfl ?_
        refine r_iconst (pc := 45) (v := iv 0) dX6_find_45 (by decide) ?_
        refine t_callVV (pc := 46) (as := [.ref ga, .int (iv 0)]) (st := []) ht2 (rd_of hO) kX6_44 rfl dX6_find_46 (t_X6_fillTies (d := d - 1) (x2 := 0) (by omega) hs hg  ht2 (by omega) ) rfl (by omega) (Nat.le_of_ble_eq_true rfl) rfl (fun hp3 ht4 => ?_)
        refine r_aload_n (pc := 49) dX6_find_49 (i := 0) rfl rfl ?_
        refine r_aload_n (pc := 50) dX6_find_50 (i := 2) rfl rfl ?_
        refine r_sipush (pc := 51) (v := iv 256) dX6_find_51 (by decide) ?_
        refine t_callVV (pc := 54) (as := [.ref ka, .int (iv 256)]) (st := []) ht4 (rd_of hO) kX6_44 rfl dX6_find_54 (t_X6_fillTies (d := d - 1) (x2 := 256) (by omega) hs hk  ht4 (by omega) ) rfl (by omega) (Nat.le_of_ble_eq_true rfl) rfl (fun hp6 ht7 => ?_)
        refine r_aload_n (pc := 57) dX6_find_57 (i := 0) rfl rfl ?_
        refine r_aload_n (pc := 58) dX6_find_58 (i := 1) rfl rfl ?_
        refine t_getE (pc := 59) (.int (iv (gn : Int))) ht7 hg_O fX6_25 dX6_find_59 rfl ?_
        refine t_callVV (pc := 62) (as := [.int (iv (gn : Int))]) (st := []) ht7 (rd_of hO) kX6_48 rfl dX6_find_62 (t_X6_startColours (d := d - 1) (x1 := (gn : Int)) (by omega) hs  ht7 (by omega) ) rfl (by omega) (Nat.le_of_ble_eq_true rfl) rfl (fun hp9 ht10 => ?_)
        refine r_aload_n (pc := 65) dX6_find_65 (i := 0) rfl rfl ?_
        refine r_aload_n (pc := 66) dX6_find_66 (i := 1) rfl rfl ?_
        refine t_getE (pc := 67) (.int (iv (gn : Int))) ht10 hg_O fX6_25 dX6_find_67 rfl ?_
        refine r_iconst (pc := 70) (v := iv 0) dX6_find_70 (by decide) ?_
        refine t_callVR (pc := 71) (as := [.int (iv (gn : Int)), .int (iv 0)]) (st := []) ht10 (rd_of hO) kX6_52 rfl dX6_find_71 (t_X6_refine (d := d - 1) (x1 := (gn : Int)) (x2 := 0) (by omega) hs  ht10 (by omega) (by omega) ) rfl (by omega) (Nat.le_of_ble_eq_true rfl) rfl (fun hp12 y14 ht13 by14 => ?_)
        refine t_if_eq (pc := 74) (tgt := 92) dX6_find_74 (by decide) (by omega) (fun c74 => ?_) (fun c74 => ?_)
        · refine r_iconst (pc := 92) (v := iv 0) dX6_find_92 (by decide) ?_
          exact r_zret (pc := 93) dX6_find_93 rfl (iv_nar (by omega)) ⟨rfl, ht13, _, rfl, by omega, by omega⟩
        · refine r_aload_n (pc := 77) dX6_find_77 (i := 0) rfl rfl ?_
          refine r_aload_n (pc := 78) dX6_find_78 (i := 1) rfl rfl ?_
          refine r_aload_n (pc := 79) dX6_find_79 (i := 2) rfl rfl ?_
          refine r_iconst (pc := 80) (v := iv 0) dX6_find_80 (by decide) ?_
          refine r_iconst (pc := 81) (v := iv 0) dX6_find_81 (by decide) ?_
          refine t_callVR (pc := 82) (as := [.ref ga, .ref ka, .int (iv 0), .int (iv 0)]) (st := []) ht13 (rd_of hO) kX6_56 rfl dX6_find_82 (t_X6_canNumber (Int.toNat (16 - 0)) _ _ (d - 1) Γ _ _ _ _ _ _ _ _ _ _ _ _ _ _ _ _ _ _ _ _ _ _ _ _ _ _ _ _ _ _ _ _ _ (by omega) hs hg hk  ht13 (by omega) (by omega)  (by omega)) rfl (by omega) (Nat.le_of_ble_eq_true rfl) rfl (fun hp15 y17 ht16 by17 => ?_)
          refine t_if_eq (pc := 85) (tgt := 92) dX6_find_85 (by decide) (by omega) (fun c85 => ?_) (fun c85 => ?_)
          · refine r_iconst (pc := 92) (v := iv 0) dX6_find_92 (by decide) ?_
            exact r_zret (pc := 93) dX6_find_93 rfl (iv_nar (by omega)) ⟨rfl, ht16, _, rfl, by omega, by omega⟩
          · refine r_iconst (pc := 88) (v := iv 1) dX6_find_88 (by decide) ?_
            refine r_goto (pc := 89) (tgt := 93) dX6_find_89 (by decide) ?_
            exact r_zret (pc := 93) dX6_find_93 rfl (iv_nar (by omega)) ⟨rfl, ht16, _, rfl, by omega, by omega⟩
      · refine r_iconst (pc := 33) (v := iv 0) dX6_find_33 (by decide) ?_
        exact r_zret (pc := 34) dX6_find_34 rfl (iv_nar (by omega)) ⟨rfl, ht, _, rfl, by omega, by omega⟩
