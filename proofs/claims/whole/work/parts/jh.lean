def pJq (Γ : TG) (n : Nat) (Q : Int64 → Prop) : Option Value → MH → Nat → Prop := fun r hp1 n1 => n ≤ n1 ∧ Tw Γ hp1 ∧ ∃ y : Int64, r = some (.long y) ∧ Q y
set_option maxHeartbeats 4000000 in
set_option maxRecDepth 100000 in
theorem v_X11_answer {D : va_G} {cI cJ cZ cT : ClassId} {lo b L : Nat} {xs : Nat → Int32} {hp : MH} {n d : Nat} {Γ : TG} {a : Nat} {ct : Int} {rv : Int} {th : Nat → Option Nat} {dn : Int} {dd : Int} {da : Int} {df : Nat → Int} {dt : Nat → Int} {dw : Nat → Int} {dc : Nat → Int} {kn : Int} {kd : Int} {ka : Int} {kf : Nat → Int} {kt : Nat → Int} {kw : Nat → Int} {kc : Nat → Int} {ga : Nat} {gF : Nat} {gT : Nat} {gW : Nat} {gC : Nat} {gTl : Nat} {gHd : Nat} {gBy : Nat} {gOu : Nat} {gIn : Nat} {gJo : Nat} {gn : Nat} {gm : Nat} {gq : Nat} {gdr : Int} {F T W C Tl Hd By Ou In Jo : Nat → Int} {pos : Nat → Nat} {x2 x3 x4 : Int} (hd0 : 22 ≤ d) (hk : EK Γ cI cJ cZ a ct th dn dd da df dt dw dc kn kd ka) (hg : TyG Γ cI cJ cZ ga gF gT gW gC gTl gHd gBy gOu gIn gJo gn gm gq gdr) (hxg : XG Γ cI gF gT gW gC gTl gHd gBy gOu gIn gJo gn gm gq F T W C Tl Hd By Ou In Jo) (hgo : GoS gm gq gdr F T Tl Hd By pos) (hou : rwP Ou gn (stP gm gdr F T)) (hin : rwP In gn (fun i j => stP gm gdr F T j i)) (hjo : rwP Jo gn (joX gm F T (fun _ => True))) (hltg : a + 84 ≤ ga ∧ a + 84 ≤ gF ∧ a + 84 ≤ gT ∧ a + 84 ≤ gW ∧ a + 84 ≤ gC ∧ a + 84 ≤ gTl ∧ a + 84 ≤ gHd ∧ a + 84 ≤ gBy ∧ a + 84 ≤ gOu ∧ a + 84 ≤ gIn ∧ a + 84 ≤ gJo) (hq : (x2 = 0 ∨ x2 = 2 → 0 ≤ x3 ∧ x3 < (gn : Int)) ∧ (x2 = 11 → 0 ≤ x3 ∧ x3 < (gm : Int)) ∧ (12 ≤ x2 ∧ x2 ≤ 15 → (0 ≤ x3 ∧ x3 < (gn : Int)) ∧ (0 ≤ x4 ∧ x4 < (gn : Int)) ∧ x3 ≠ x4)) (ht : Tw (CG Γ cI cJ cZ cT a ct rv th dn dd da df dt dw dc kn kd ka kf kt kw kc) hp) (hx2 : 0 ≤ x2 ∧ x2 ≤ 15) (hx3 : -2147483648 ≤ x3 ∧ x3 ≤ 2147483647) (hx4 : -2147483648 ≤ x4 ∧ x4 ≤ 2147483647) : Mt (gG D cI cJ cZ cT lo b L xs) mX11_answer d 1 16 [.ref a, .ref ga, .int (iv x2), .int (iv x3), .int (iv x4)] hp n (pJq (CG Γ cI cJ cZ cT a ct rv th dn dd da df dt dw dc kn kd ka kf kt kw kc) n (fun v => akB gn gm gdr F T W C x2 x3 x4 v.toInt)) := by
  refine Mt.of rfl (Nat.le_of_ble_eq_true rfl) ?_
  refine Rn.pick (lv' := [(0, .ref a), (1, .ref ga), (2, .int (iv x2)), (3, .int (iv x3)), (4, .int (iv x4))]) [0, 1, 2, 3, 4] rfl ?_
  obtain ⟨hct, hth, ⟨hdn, hdd1, hda, har⟩, ⟨hkn, hkd, hka⟩, hsh, hse, hpr, hfl, hsm⟩ := id hk
  obtain ⟨hg_O, hg_from, hg_to, hg_weight, hg_cost, hg_tail, hg_head, hg_by, hg_out, hg_in, hg_joined, hg_b⟩ := id hg
  refine r_iload_n (pc := 0) dX11_answer_0 (i := 2) rfl rfl ?_
  by_cases c1 : x2 = 0
  · refine r_tableIn (pc := 1) (off := 75) (tgt := 76) dX11_answer_1 (by rw [iv_toInt (by omega) (by omega)]; omega) (by rw [iv_toInt (by omega) (by omega)]; omega) (by rw [iv_toInt (by omega) (by omega), c1]; decide) (by decide) ?_
    refine r_aload_n (pc := 76) dX11_answer_76 (i := 1) rfl rfl ?_
    refine r_iload_n (pc := 77) dX11_answer_77 (i := 3) rfl rfl ?_
    refine t_callSI (pc := 78) (as := [.ref ga, .int (iv x3)]) (st := []) kX11_259 dX11_answer_78 (c_X8_orderx (d := d - 1) (x1 := x3) (by omega) (TyG.cg (by omega) hg) (XG.cg (by omega) hxg) ht (by omega) (by omega) hin) rfl (by omega) (Nat.le_of_ble_eq_true rfl) rfl (fun hp3 y2 ht4 hans => ?_)
    have by2 := or_b (by omega) hans
    refine r_i2l (pc := 81) (v := (iv y2).toInt64) dX11_answer_81 rfl ?_
    exact r_lret (pc := 82) dX11_answer_82 rfl ⟨by omega, ht4, _, rfl, by show akB gn gm gdr F T W C x2 x3 x4 (Int64.toInt _); rw [iv_long (by omega)]; exact akb_0 (by omega) hans⟩
  by_cases c5 : x2 = 1
  · refine r_tableIn (pc := 1) (off := 82) (tgt := 83) dX11_answer_1 (by rw [iv_toInt (by omega) (by omega)]; omega) (by rw [iv_toInt (by omega) (by omega)]; omega) (by rw [iv_toInt (by omega) (by omega), c5]; decide) (by decide) ?_
    refine r_aload_n (pc := 83) dX11_answer_83 (i := 1) rfl rfl ?_
    refine r_callS (pc := 84) (as := [.ref ga]) (st := []) kX11_263 dX11_answer_84 (c_X8_ringx (d := d - 1) (by omega) (TyG.cg (by omega) hg) (XG.cg (by omega) hxg) ht hou hjo) rfl (by omega) (Nat.le_of_ble_eq_true rfl) (by omega) (by omega) rfl (fun r6 hp7 n8 q9 => ?_)
    obtain ⟨hnn8, ht10, y12, hrr6, by12, hans⟩ := q9
    subst r6
    change Rn _ _ _ 87 _ [.int (iv y12)] _ _ _ _ _
    refine r_i2l (pc := 87) (v := (iv y12).toInt64) dX11_answer_87 rfl ?_
    exact r_lret (pc := 88) dX11_answer_88 rfl ⟨by omega, ht10, _, rfl, by show akB gn gm gdr F T W C x2 x3 x4 (Int64.toInt _); rw [iv_long (by omega)]; exact akb_1 (by omega) hans⟩
  by_cases c14 : x2 = 2
  · refine r_tableIn (pc := 1) (off := 88) (tgt := 89) dX11_answer_1 (by rw [iv_toInt (by omega) (by omega)]; omega) (by rw [iv_toInt (by omega) (by omega)]; omega) (by rw [iv_toInt (by omega) (by omega), c14]; decide) (by decide) ?_
    refine r_aload_n (pc := 89) dX11_answer_89 (i := 1) rfl rfl ?_
    refine r_iload_n (pc := 90) dX11_answer_90 (i := 3) rfl rfl ?_
    refine t_callSI (pc := 91) (as := [.ref ga, .int (iv x3)]) (st := []) kX11_267 dX11_answer_91 (c_X8_sidex (d := d - 1) (x1 := x3) (by omega) (TyG.cg (by omega) hg) (XG.cg (by omega) hxg) ht (by omega) (by omega) hjo) rfl (by omega) (Nat.le_of_ble_eq_true rfl) rfl (fun hp16 y15 ht17 hans => ?_)
    obtain ⟨by15, hans⟩ := hans
    refine r_i2l (pc := 94) (v := (iv y15).toInt64) dX11_answer_94 rfl ?_
    exact r_lret (pc := 95) dX11_answer_95 rfl ⟨by omega, ht17, _, rfl, by show akB gn gm gdr F T W C x2 x3 x4 (Int64.toInt _); rw [iv_long (by omega)]; exact akb_2 (by omega) hans⟩
  by_cases c18 : x2 = 3
  · refine r_tableIn (pc := 1) (off := 95) (tgt := 96) dX11_answer_1 (by rw [iv_toInt (by omega) (by omega)]; omega) (by rw [iv_toInt (by omega) (by omega)]; omega) (by rw [iv_toInt (by omega) (by omega), c18]; decide) (by decide) ?_
    refine r_aload_n (pc := 96) dX11_answer_96 (i := 0) rfl rfl ?_
    refine t_getE (pc := 97) (.ref (a + 16)) ht (rd_of CG_0) fX11_42 dX11_answer_97 rfl ?_
    refine r_aload_n (pc := 100) dX11_answer_100 (i := 1) rfl rfl ?_
    refine t_callVI (pc := 101) (as := [.ref ga]) (st := []) ht (rd_CG (by omega) (rd_of hse.1)) kX11_270 rfl dX11_answer_101 (c_X7_greatestJoinedx (d := d - 1) (s := a + 16) (by omega) (TyG.cg (by omega) hg) (XG.cg (by omega) hxg) (by unfold nE; omega) (TySets.cg (by omega) hse) ht hjo) rfl (by omega) (Nat.le_of_ble_eq_true rfl) rfl (fun hp20 y19 ht21 hans => ?_)
    obtain ⟨by19, hans⟩ := hans
    refine r_i2l (pc := 104) (v := (iv y19).toInt64) dX11_answer_104 rfl ?_
    exact r_lret (pc := 105) dX11_answer_105 rfl ⟨by omega, ht21, _, rfl, by show akB gn gm gdr F T W C x2 x3 x4 (Int64.toInt _); rw [iv_long (by omega)]; exact akb_3 (by omega) hans⟩
  by_cases c22 : x2 = 4
  · refine r_tableIn (pc := 1) (off := 105) (tgt := 106) dX11_answer_1 (by rw [iv_toInt (by omega) (by omega)]; omega) (by rw [iv_toInt (by omega) (by omega)]; omega) (by rw [iv_toInt (by omega) (by omega), c22]; decide) (by decide) ?_
    refine r_aload_n (pc := 106) dX11_answer_106 (i := 0) rfl rfl ?_
    refine t_getE (pc := 107) (.ref (a + 16)) ht (rd_of CG_0) fX11_42 dX11_answer_107 rfl ?_
    refine r_aload_n (pc := 110) dX11_answer_110 (i := 1) rfl rfl ?_
    refine t_callVI (pc := 111) (as := [.ref ga]) (st := []) ht (rd_CG (by omega) (rd_of hse.1)) kX11_273 rfl dX11_answer_111 (c_X7_greatestApartx (d := d - 1) (s := a + 16) (by omega) (TyG.cg (by omega) hg) (XG.cg (by omega) hxg) ht hjo) rfl (by omega) (Nat.le_of_ble_eq_true rfl) rfl (fun hp24 y23 ht25 hans => ?_)
    obtain ⟨by23, hans⟩ := hans
    refine r_i2l (pc := 114) (v := (iv y23).toInt64) dX11_answer_114 rfl ?_
    exact r_lret (pc := 115) dX11_answer_115 rfl ⟨by omega, ht25, _, rfl, by show akB gn gm gdr F T W C x2 x3 x4 (Int64.toInt _); rw [iv_long (by omega)]; exact akb_4 (by omega) hans⟩
  by_cases c26 : x2 = 5
  · refine r_tableIn (pc := 1) (off := 115) (tgt := 116) dX11_answer_1 (by rw [iv_toInt (by omega) (by omega)]; omega) (by rw [iv_toInt (by omega) (by omega)]; omega) (by rw [iv_toInt (by omega) (by omega), c26]; decide) (by decide) ?_
    refine r_aload_n (pc := 116) dX11_answer_116 (i := 0) rfl rfl ?_
    refine t_getE (pc := 117) (.ref (a + 16)) ht (rd_of CG_0) fX11_42 dX11_answer_117 rfl ?_
    refine r_aload_n (pc := 120) dX11_answer_120 (i := 1) rfl rfl ?_
    refine t_callVI (pc := 121) (as := [.ref ga]) (st := []) ht (rd_CG (by omega) (rd_of hse.1)) kX11_276 rfl dX11_answer_121 (c_X7_coloursx (d := d - 1) (s := a + 16) (by omega) (TyG.cg (by omega) hg) (XG.cg (by omega) hxg) (by unfold nE; omega) (by unfold nE; omega) (TySets.cg (by omega) hse) ht hjo) rfl (by omega) (Nat.le_of_ble_eq_true rfl) rfl (fun hp28 y27 ht29 hans => ?_)
    obtain ⟨by27, hans⟩ := hans
    refine r_i2l (pc := 124) (v := (iv y27).toInt64) dX11_answer_124 rfl ?_
    exact r_lret (pc := 125) dX11_answer_125 rfl ⟨by omega, ht29, _, rfl, by show akB gn gm gdr F T W C x2 x3 x4 (Int64.toInt _); rw [iv_long (by omega)]; exact akb_5 (by omega) hans⟩
  by_cases c30 : x2 = 6
  · refine r_tableIn (pc := 1) (off := 125) (tgt := 126) dX11_answer_1 (by rw [iv_toInt (by omega) (by omega)]; omega) (by rw [iv_toInt (by omega) (by omega)]; omega) (by rw [iv_toInt (by omega) (by omega), c30]; decide) (by decide) ?_
    refine r_aload_n (pc := 126) dX11_answer_126 (i := 0) rfl rfl ?_
    refine t_getE (pc := 127) (.ref (a + 16)) ht (rd_of CG_0) fX11_42 dX11_answer_127 rfl ?_
    refine r_aload_n (pc := 130) dX11_answer_130 (i := 1) rfl rfl ?_
    refine t_callVI (pc := 131) (as := [.ref ga]) (st := []) ht (rd_CG (by omega) (rd_of hse.1)) kX11_279 rfl dX11_answer_131 (c_X7_widthx (d := d - 1) (s := a + 16) (by omega) (TyG.cg (by omega) hg) (XG.cg (by omega) hxg) (by unfold nE; omega) (by unfold nE; omega) (by unfold nE; omega) (by unfold nE; omega) (TySets.cg (by omega) hse) ht hjo) rfl (by omega) (Nat.le_of_ble_eq_true rfl) rfl (fun hp32 y31 ht33 hans => ?_)
    obtain ⟨by31, hans⟩ := hans
    refine r_i2l (pc := 134) (v := (iv y31).toInt64) dX11_answer_134 rfl ?_
    exact r_lret (pc := 135) dX11_answer_135 rfl ⟨by omega, ht33, _, rfl, by show akB gn gm gdr F T W C x2 x3 x4 (Int64.toInt _); rw [iv_long (by omega)]; exact akb_6 (by omega) hans⟩
  by_cases c34 : x2 = 7
  · refine r_tableIn (pc := 1) (off := 135) (tgt := 136) dX11_answer_1 (by rw [iv_toInt (by omega) (by omega)]; omega) (by rw [iv_toInt (by omega) (by omega)]; omega) (by rw [iv_toInt (by omega) (by omega), c34]; decide) (by decide) ?_
    refine r_aload_n (pc := 136) dX11_answer_136 (i := 0) rfl rfl ?_
    refine t_getE (pc := 137) (.ref (a + 22)) ht (rd_of CG_0) fX11_49 dX11_answer_137 rfl ?_
    refine r_aload_n (pc := 140) dX11_answer_140 (i := 1) rfl rfl ?_
    obtain ⟨fs42, hfs42⟩ := t_obj ht (rd_CG (by omega) (rd_of hpr.1))
    obtain ⟨Wt, qd, mt, pa, ba, Q9, hm0, hp0, hb0, hQ0, hW0, hqd0, t9⟩ := PrS_op (TyPairs.cg (by omega) hpr) ht
    refine r_callV (pc := 141) (as := [.ref ga]) (st := []) kX11_282 rfl dX11_answer_141 hfs42 (c_X4_greatestx (d := d - 1) (s := a + 22) (by omega) (TyG.cg (by omega) hg) (XG.cg (by omega) hxg) (by omega) hm0 hp0 hb0 hQ0 hW0 hqd0 t9 hjo) rfl (by omega) (Nat.le_of_ble_eq_true rfl) (Nat.zero_le _) (Nat.zero_le _) rfl (fun r35 hp36 n37 q38 => ?_)
    obtain ⟨hnn37, W1, qd1, mt1, pa1, ba1, Q1, y41, ht39, hm1, hp1, hb1, hQ1, hW1, hqd1, hrr35, by41, hans⟩ := q38
    subst r35
    subst n37
    have ht40 := PrS_cl (TyPairs.cg (by omega) hpr) hm1 hp1 hb1 hQ1 hW1 hqd1 ht39
    change Rn _ _ _ 144 _ [.int (iv y41)] _ _ _ _ _
    refine r_i2l (pc := 144) (v := (iv y41).toInt64) dX11_answer_144 rfl ?_
    exact r_lret (pc := 145) dX11_answer_145 rfl ⟨by omega, ht40, _, rfl, by show akB gn gm gdr F T W C x2 x3 x4 (Int64.toInt _); rw [iv_long (by omega)]; exact akb_7 (by omega) (ma_all hans.2.2)⟩
  by_cases c43 : x2 = 8
  · refine r_tableIn (pc := 1) (off := 145) (tgt := 146) dX11_answer_1 (by rw [iv_toInt (by omega) (by omega)]; omega) (by rw [iv_toInt (by omega) (by omega)]; omega) (by rw [iv_toInt (by omega) (by omega), c43]; decide) (by decide) ?_
    refine r_aload_n (pc := 146) dX11_answer_146 (i := 0) rfl rfl ?_
    refine t_getE (pc := 147) (.ref (a + 22)) ht (rd_of CG_0) fX11_49 dX11_answer_147 rfl ?_
    refine r_aload_n (pc := 150) dX11_answer_150 (i := 1) rfl rfl ?_
    obtain ⟨fs51, hfs51⟩ := t_obj ht (rd_CG (by omega) (rd_of hpr.1))
    obtain ⟨Wt, qd, mt, pa, ba, Q9, hm0, hp0, hb0, hQ0, hW0, hqd0, t9⟩ := PrS_op (TyPairs.cg (by omega) hpr) ht
    refine r_callV (pc := 151) (as := [.ref ga]) (st := []) kX11_285 rfl dX11_answer_151 hfs51 (c_X4_missedx (d := d - 1) (s := a + 22) (by omega) (TyG.cg (by omega) hg) (XG.cg (by omega) hxg) (by omega) hm0 hp0 hb0 hQ0 hW0 hqd0 t9 hjo) rfl (by omega) (Nat.le_of_ble_eq_true rfl) (Nat.zero_le _) (Nat.zero_le _) rfl (fun r44 hp45 n46 q47 => ?_)
    obtain ⟨hnn46, W1, qd1, mt1, pa1, ba1, Q1, y50, ht48, hm1, hp1, hb1, hQ1, hW1, hqd1, hrr44, by50, hans⟩ := q47
    subst r44
    subst n46
    have ht49 := PrS_cl (TyPairs.cg (by omega) hpr) hm1 hp1 hb1 hQ1 hW1 hqd1 ht48
    change Rn _ _ _ 154 _ [.int (iv y50)] _ _ _ _ _
    refine r_i2l (pc := 154) (v := (iv y50).toInt64) dX11_answer_154 rfl ?_
    exact r_lret (pc := 155) dX11_answer_155 rfl ⟨by omega, ht49, _, rfl, by show akB gn gm gdr F T W C x2 x3 x4 (Int64.toInt _); rw [iv_long (by omega)]; exact akb_8 (by omega) ⟨hans, by omega⟩⟩
  by_cases c52 : x2 = 9
  · refine r_tableIn (pc := 1) (off := 155) (tgt := 156) dX11_answer_1 (by rw [iv_toInt (by omega) (by omega)]; omega) (by rw [iv_toInt (by omega) (by omega)]; omega) (by rw [iv_toInt (by omega) (by omega), c52]; decide) (by decide) ?_
    refine r_aload_n (pc := 156) dX11_answer_156 (i := 0) rfl rfl ?_
    refine t_getE (pc := 157) (.ref (a + 14)) ht (rd_of CG_0) fX11_35 dX11_answer_157 rfl ?_
    refine r_aload_n (pc := 160) dX11_answer_160 (i := 1) rfl rfl ?_
    obtain ⟨fs60, hfs60⟩ := t_obj ht (rd_CG (by omega) (rd_of hsh.1))
    obtain ⟨tb, -, t9⟩ := Tw.openJ ht (rd_of (eq_CG (by omega) hsh.2))
    refine r_callV (pc := 161) (as := [.ref ga]) (st := []) kX11_288 rfl dX11_answer_161 hfs60 (c_X8_treesx (d := d - 1) (s := a + 14) (by omega) (TyG.cg (by omega) hg) (XG.cg (by omega) hxg) (by omega) (rd_CG (by omega) (rd_of hsh.1)) t9) rfl (by omega) (Nat.le_of_ble_eq_true rfl) (Nat.zero_le _) (Nat.zero_le _) rfl (fun r53 hp54 n55 q56 => ?_)
    obtain ⟨hnn55, tb1, y59, ht57, hrr53, hans⟩ := q56
    subst r53
    subst n55
    have ht58 := Tw.closeJ ht57 (eq_CG (by omega) hsh.2) (fun _ _ => trivial)
    change Rn _ _ _ 164 _ [.long y59] _ _ _ _ _
    exact r_lret (pc := 164) dX11_answer_164 rfl ⟨by omega, ht58, _, rfl, by exact akb_9 (by omega) hans⟩
  by_cases c61 : x2 = 10
  · refine r_tableIn (pc := 1) (off := 164) (tgt := 165) dX11_answer_1 (by rw [iv_toInt (by omega) (by omega)]; omega) (by rw [iv_toInt (by omega) (by omega)]; omega) (by rw [iv_toInt (by omega) (by omega), c61]; decide) (by decide) ?_
    refine r_aload_n (pc := 165) dX11_answer_165 (i := 1) rfl rfl ?_
    refine r_callS (pc := 166) (as := [.ref ga]) (st := []) kX11_292 dX11_answer_166 (c_X8_lightWeightx (d := d - 1) (by omega) (TyG.cg (by omega) hg) (XG.cg (by omega) hxg) ht) rfl (by omega) (Nat.le_of_ble_eq_true rfl) (by omega) (by omega) rfl (fun r62 hp63 n64 q65 => ?_)
    obtain ⟨hnn64, ht66, y68, hrr62, hans⟩ := q65
    subst r62
    change Rn _ _ _ 169 _ [.long y68] _ _ _ _ _
    exact r_lret (pc := 169) dX11_answer_169 rfl ⟨by omega, ht66, _, rfl, by exact akb_10 (by omega) (Or.inl ⟨by omega, hans⟩)⟩
  by_cases c70 : x2 = 11
  · refine r_tableIn (pc := 1) (off := 169) (tgt := 170) dX11_answer_1 (by rw [iv_toInt (by omega) (by omega)]; omega) (by rw [iv_toInt (by omega) (by omega)]; omega) (by rw [iv_toInt (by omega) (by omega), c70]; decide) (by decide) ?_
    refine r_aload_n (pc := 170) dX11_answer_170 (i := 1) rfl rfl ?_
    refine r_callS (pc := 171) (as := [.ref ga]) (st := []) kX11_295 dX11_answer_171 (c_X8_lightArcsx (d := d - 1) (by omega) (TyG.cg (by omega) hg) (XG.cg (by omega) hxg) ht) rfl (by omega) (Nat.le_of_ble_eq_true rfl) (by omega) (by omega) rfl (fun r71 hp72 n73 q74 => ?_)
    obtain ⟨hnn73, ht75, y77, hrr71, hans⟩ := q74
    subst r71
    change Rn _ _ _ 174 _ [.long y77] _ _ _ _ _
    refine r_iload_n (pc := 174) dX11_answer_174 (i := 3) rfl rfl ?_
    refine r_lshr (pc := 175) dX11_answer_175 ?_
    refine r_lconst (pc := 176) (v := 1) dX11_answer_176 (by decide) ?_
    refine r_land (pc := 177) (v := (y77 >>> ((iv x3).toInt64 &&& 63)) &&& (1 : Int64)) dX11_answer_177 rfl ?_
    exact r_lret (pc := 178) dX11_answer_178 rfl ⟨by omega, ht75, _, rfl, by exact akb_11 (by omega) (lw_bit (by omega) hans)⟩
  by_cases c79 : x2 = 12
  · refine r_tableIn (pc := 1) (off := 178) (tgt := 179) dX11_answer_1 (by rw [iv_toInt (by omega) (by omega)]; omega) (by rw [iv_toInt (by omega) (by omega)]; omega) (by rw [iv_toInt (by omega) (by omega), c79]; decide) (by decide) ?_
    refine r_aload_n (pc := 179) dX11_answer_179 (i := 0) rfl rfl ?_
    refine t_getE (pc := 180) (.ref (a + 27)) ht (rd_of CG_0) fX11_56 dX11_answer_180 rfl ?_
    refine r_aload_n (pc := 183) dX11_answer_183 (i := 1) rfl rfl ?_
    refine r_iconst (pc := 184) (v := iv 0) dX11_answer_184 (by decide) ?_
    refine r_iload_n (pc := 185) dX11_answer_185 (i := 3) rfl rfl ?_
    refine r_iload (pc := 186) dX11_answer_186 rfl ?_
    obtain ⟨fs87, hfs87⟩ := t_obj ht (rd_CG (by omega) (rd_of hfl.1))
    obtain ⟨R9, r8, B9, Q9, hR9, hB9, hQ9, t9⟩ := FS_op (TyFlows.cg (by omega) hfl) ht
    refine r_callV (pc := 188) (as := [.ref ga, .int (iv 0), .int (iv x3), .int (iv x4)]) (st := []) kX11_298 rfl dX11_answer_188 hfs87 (c_X2_mostx (d := d - 1) (s := a + 27) (x2 := 0) (x3 := x3) (x4 := x4) (by omega) (TyG.cg (by omega) hg) (XG.cg (by omega) hxg) (by omega) hR9 hB9 hQ9 t9 (by omega) (by omega) (by omega) (by omega) hgo) rfl (by omega) (Nat.le_of_ble_eq_true rfl) (Nat.zero_le _) (Nat.zero_le _) rfl (fun r80 hp81 n82 q83 => ?_)
    obtain ⟨hnn82, R1, r1, B1, Q1, y86, ht84, hR1, hB1, hQ1, hrr80, hans, -⟩ := q83
    subst r80
    subst n82
    have ht85 := FS_cl (TyFlows.cg (by omega) hfl) hR1 hB1 hQ1 ht84
    change Rn _ _ _ 191 _ [.long y86] _ _ _ _ _
    exact r_lret (pc := 191) dX11_answer_191 rfl ⟨by omega, ht85, _, rfl, by exact akb_12 (by omega) hans⟩
  by_cases c88 : x2 = 13
  · refine r_tableIn (pc := 1) (off := 191) (tgt := 192) dX11_answer_1 (by rw [iv_toInt (by omega) (by omega)]; omega) (by rw [iv_toInt (by omega) (by omega)]; omega) (by rw [iv_toInt (by omega) (by omega), c88]; decide) (by decide) ?_
    refine r_aload_n (pc := 192) dX11_answer_192 (i := 0) rfl rfl ?_
    refine t_getE (pc := 193) (.ref (a + 27)) ht (rd_of CG_0) fX11_56 dX11_answer_193 rfl ?_
    refine r_aload_n (pc := 196) dX11_answer_196 (i := 1) rfl rfl ?_
    refine r_iload_n (pc := 197) dX11_answer_197 (i := 3) rfl rfl ?_
    refine r_iload (pc := 198) dX11_answer_198 rfl ?_
    obtain ⟨fs96, hfs96⟩ := t_obj ht (rd_CG (by omega) (rd_of hfl.1))
    obtain ⟨R9, r8, B9, Q9, hR9, hB9, hQ9, t9⟩ := FS_op (TyFlows.cg (by omega) hfl) ht
    refine r_callV (pc := 200) (as := [.ref ga, .int (iv x3), .int (iv x4)]) (st := []) kX11_302 rfl dX11_answer_200 hfs96 (c_X2_cutx (d := d - 1) (s := a + 27) (x3 := x3) (x4 := x4) (by omega) (TyG.cg (by omega) hg) (XG.cg (by omega) hxg) (by omega) hR9 hB9 hQ9 t9 (by omega) (by omega) (by omega) hgo) rfl (by omega) (Nat.le_of_ble_eq_true rfl) (Nat.zero_le _) (Nat.zero_le _) rfl (fun r89 hp90 n91 q92 => ?_)
    obtain ⟨hnn91, y95, r1, B1, Q1, ht93, hR1, hB1, hQ1, hrr89, hans⟩ := q92
    subst r89
    subst n91
    have ht94 := FS_cl (TyFlows.cg (by omega) hfl) hR1 hB1 hQ1 ht93
    change Rn _ _ _ 203 _ [.int (iv y95)] _ _ _ _ _
    refine r_i2l (pc := 203) (v := (iv y95).toInt64) dX11_answer_203 rfl ?_
    exact r_lret (pc := 204) dX11_answer_204 rfl ⟨by omega, ht94, _, rfl, by show akB gn gm gdr F T W C x2 x3 x4 (Int64.toInt _); rw [iv_long (by omega)]; exact akb_13 (by omega) hans⟩
  by_cases c97 : x2 = 14
  · refine r_tableIn (pc := 1) (off := 204) (tgt := 205) dX11_answer_1 (by rw [iv_toInt (by omega) (by omega)]; omega) (by rw [iv_toInt (by omega) (by omega)]; omega) (by rw [iv_toInt (by omega) (by omega), c97]; decide) (by decide) ?_
    refine r_aload_n (pc := 205) dX11_answer_205 (i := 0) rfl rfl ?_
    refine t_getE (pc := 206) (.ref (a + 27)) ht (rd_of CG_0) fX11_56 dX11_answer_206 rfl ?_
    refine r_aload_n (pc := 209) dX11_answer_209 (i := 1) rfl rfl ?_
    refine r_iload_n (pc := 210) dX11_answer_210 (i := 3) rfl rfl ?_
    refine r_iload (pc := 211) dX11_answer_211 rfl ?_
    obtain ⟨fs105, hfs105⟩ := t_obj ht (rd_CG (by omega) (rd_of hfl.1))
    obtain ⟨L9, B9, lt9, lh9, lr9, lc9, De9, hL9, hB9, hlt9, hlh9, t9⟩ := LSt_op (TyFlows.cg (by omega) hfl) ht
    refine r_callV (pc := 213) (as := [.ref ga, .int (iv x3), .int (iv x4)]) (st := []) kX11_306 rfl dX11_answer_213 hfs105 (c_X2_pricex (d := d - 1) (s := a + 27) (x2 := x3) (x3 := x4) (by omega) (TyG.cg (by omega) hg) (XG.cg (by omega) hxg) (by omega) hL9 hB9 hlt9 hlh9 t9 (by omega) (by omega) (by omega) hgo) rfl (by omega) (Nat.le_of_ble_eq_true rfl) (Nat.zero_le _) (Nat.zero_le _) rfl (fun r98 hp99 n100 q101 => ?_)
    obtain ⟨hnn100, L1, B1, lt1, lh1, lr1, lc1, De1, y104, ht102, hL1, hB1, hlt1, hlh1, hrr98, hans⟩ := q101
    subst r98
    subst n100
    have ht103 := LSt_cl (TyFlows.cg (by omega) hfl) hL1 hB1 hlt1 hlh1 ht102
    change Rn _ _ _ 216 _ [.long y104] _ _ _ _ _
    exact r_lret (pc := 216) dX11_answer_216 rfl ⟨by omega, ht103, _, rfl, by exact akb_14 (by omega) hans⟩
  refine r_tableOut (pc := 1) (tgt := 217) dX11_answer_1 (by rw [iv_toInt (by omega) (by omega)]; omega) (by decide) ?_
  refine r_aload_n (pc := 217) dX11_answer_217 (i := 0) rfl rfl ?_
  refine t_getE (pc := 218) (.ref (a + 27)) ht (rd_of CG_0) fX11_56 dX11_answer_218 rfl ?_
  refine r_aload_n (pc := 221) dX11_answer_221 (i := 1) rfl rfl ?_
  refine r_iconst (pc := 222) (v := iv 1) dX11_answer_222 (by decide) ?_
  refine r_iload_n (pc := 223) dX11_answer_223 (i := 3) rfl rfl ?_
  refine r_iload (pc := 224) dX11_answer_224 rfl ?_
  obtain ⟨fs113, hfs113⟩ := t_obj ht (rd_CG (by omega) (rd_of hfl.1))
  obtain ⟨R9, r8, B9, Q9, hR9, hB9, hQ9, t9⟩ := FS_op (TyFlows.cg (by omega) hfl) ht
  refine r_callV (pc := 226) (as := [.ref ga, .int (iv 1), .int (iv x3), .int (iv x4)]) (st := []) kX11_298 rfl dX11_answer_226 hfs113 (c_X2_mostx (d := d - 1) (s := a + 27) (x2 := 1) (x3 := x3) (x4 := x4) (by omega) (TyG.cg (by omega) hg) (XG.cg (by omega) hxg) (by omega) hR9 hB9 hQ9 t9 (by omega) (by omega) (by omega) (by omega) hgo) rfl (by omega) (Nat.le_of_ble_eq_true rfl) (Nat.zero_le _) (Nat.zero_le _) rfl (fun r106 hp107 n108 q109 => ?_)
  obtain ⟨hnn108, R1, r1, B1, Q1, y112, ht110, hR1, hB1, hQ1, hrr106, hans, -⟩ := q109
  subst r106
  subst n108
  have ht111 := FS_cl (TyFlows.cg (by omega) hfl) hR1 hB1 hQ1 ht110
  change Rn _ _ _ 229 _ [.long y112] _ _ _ _ _
  exact r_lret (pc := 229) dX11_answer_229 rfl ⟨by omega, ht111, _, rfl, by exact akb_15 (by omega) hans⟩
