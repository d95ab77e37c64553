set_option maxHeartbeats 4000000 in
set_option maxRecDepth 100000 in
theorem w_X10_markEndless {D : va_G} {cI cJ cZ cT : ClassId} {lo b L : Nat} {xs : Nat → Int32} {hp : MH} {n d : Nat} {Γ : TG} {ga : Nat} {gF : Nat} {gT : Nat} {gW : Nat} {gC : Nat} {gTl : Nat} {gHd : Nat} {gBy : Nat} {gOu : Nat} {gIn : Nat} {gJo : Nat} {gn : Nat} {gm : Nat} {gq : Nat} {gdr : Int} {F T W C Tl Hd By Ou In Jo : Nat → Int} {wa : Nat} {vs : Nat → Int} {vo : Nat → Int64} {vl : Nat → Int} {vm : Nat → Int64} {vr : Nat → Int} {x2 : Int} {pos : Nat → Nat} {s9 : Nat} {Po9 : Option Value → MH → Nat → Prop} (hd0 : 2 ≤ d) (hg : TyG Γ cI cJ cZ ga gF gT gW gC gTl gHd gBy gOu gIn gJo gn gm gq gdr) (hltg : ga < wa ∧ gF < wa ∧ gT < wa ∧ gW < wa ∧ gC < wa ∧ gTl < wa ∧ gHd < wa ∧ gBy < wa ∧ gOu < wa ∧ gIn < wa ∧ gJo < wa) (hxg : XG Γ cI gF gT gW gC gTl gHd gBy gOu gIn gJo gn gm gq F T W C Tl Hd By Ou In Jo) (ht : Tw (WE Γ cI cJ cZ cT wa gn vs vo vl vm vr) hp) (hR_vs : Rfx gn 0 2 vs) (hR_vl : Rfx gn (-1) 100000 vl) (hx2 : 0 ≤ x2 ∧ x2 ≤ 1) (hgo : GoS gm gq gdr F T Tl Hd By pos) (hs9 : s9 < gn) (hou9 : rwP Ou gn (stP gm gdr F T)) (hli : liP gn gq (s9 : Int) Tl Hd (prI x2 W By) vs vo vl 2000) (hlw : lwW gm gdr F T (wE x2 W) s9 gn vs vo vl) (hlb : lwB gm gdr F T (wE x2 W) s9 vs vo vl ((gn : Int) - 1)) (hvm : ∀ v, vm v = if v = s9 then 1 else 0) (hPo : ∀ r hp1 n1, (n1 = n ∧ ∃ (vs1 : Nat → Int) (vo1 : Nat → Int64) (vl1 : Nat → Int) (vm1 : Nat → Int64), Tw (WE Γ cI cJ cZ cT wa gn vs1 vo1 vl1 vm1 vr) hp1 ∧ r = none ∧ (∀ v, v < gn → lwF gm gdr F T (wE x2 W) s9 gn vs1 vo1 vl1 v ∧ vm1 v = (if vs1 v = 1 ∧ v = s9 then 1 else 0))) → Po9 r hp1 n1) : Mt (gG D cI cJ cZ cT lo b L xs) mX10_markEndless d 0 0 [.ref wa, .ref ga, .int (iv x2)] hp n Po9 := by
  refine Mt.of rfl (Nat.le_of_ble_eq_true rfl) ?_
  refine Rn.pick (lv' := [(0, .ref wa), (1, .ref ga), (2, .int (iv x2))]) [0, 1, 2] rfl ?_
  obtain ⟨hg_O, hg_from, hg_to, hg_weight, hg_cost, hg_tail, hg_head, hg_by, hg_out, hg_in, hg_joined, hg_b⟩ := id hg
  obtain ⟨⟨hxg_F, hxg_T, hxg_W, hxg_C, hxg_Tl, hxg_Hd, hxg_By, hxg_Ou, hxg_In, hxg_Jo⟩, ⟨hrg_F, hrg_T, hrg_W, hrg_C, hrg_Tl, hrg_Hd, hrg_By, hrg_Ou, hrg_In, hrg_Jo⟩, houg⟩ := id hxg
  have hgb := hg_b
  have hsq : gn * gn ≤ 256 := Nat.le_trans (Nat.mul_le_mul (show gn ≤ 16 by omega) (show gn ≤ 16 by omega)) (by decide)
  have hFT : ∀ k, k < gm → (0 ≤ F k ∧ F k < (gn : Int)) ∧ (0 ≤ T k ∧ T k < (gn : Int)) := fun k hk => by have h1 := hrg_F k hk; have h2 := hrg_T k hk; omega
  have hW9 : ∀ e, e < gm → -1000 ≤ W e ∧ W e ≤ 1000 := hrg_W
  refine r_iconst (pc := 0) (v := iv 0) dX10_markEndless_0 (by decide) ?_
  refine r_istore_n (pc := 1) (lv' := [(3, .int (iv 0)), (0, .ref wa), (1, .ref ga), (2, .int (iv x2))]) dX10_markEndless_1 (i := 3) rfl (by decide) rfl ?_
  refine r_iconst (pc := 2) (v := iv 0) dX10_markEndless_2 (by decide) ?_
  refine r_istore (pc := 3) (lv' := [(4, .int (iv 0)), (3, .int (iv 0)), (0, .ref wa), (1, .ref ga), (2, .int (iv x2))]) dX10_markEndless_3 (by decide) rfl ?_
  have B5 : ∀ k : Nat, ∀ hp5 : MH, Tw (WE Γ cI cJ cZ cT wa gn vs vo vl vm vr) hp5 → ∀  (v5_3 : Int) (v5_4 : Int), 0 ≤ v5_3 ∧ v5_3 ≤ 65535 ∧ 0 ≤ v5_4 ∧ v5_4 ≤ 120 ∧ (v5_4 ≤ (gq : Int)) ∧ (fnX Tl Hd (prI x2 W By) vs vo vl v5_3 v5_4) → 120 - v5_4 ≤ (k : Int) → Rn (gG D cI cJ cZ cT lo b L xs) mX10_markEndless d 5 [(0, .ref wa), (1, .ref ga), (2, .int (iv x2)), (3, .int (iv v5_3)), (4, .int (iv v5_4))] [] hp5 n 0 0 Po9 := by
    refine lpS _ ?_
    intro k5 ih5 hp5 ht5 v5_3 v5_4 hf5 hm5
    obtain ⟨hf5_0, hf5_1, hf5_2, hf5_3, hf5_4, ha5_5⟩ := hf5
    refine r_iload (pc := 5) dX10_markEndless_5 rfl ?_
    refine r_aload_n (pc := 7) dX10_markEndless_7 (i := 1) rfl rfl ?_
    refine t_getE (pc := 8) (.int (iv (gq : Int))) ht5 (rd_WE (by omega) hg_O) fX10_77 dX10_markEndless_8 rfl ?_
    refine t_icmp_ge (pc := 11) (tgt := 43) dX10_markEndless_11 (by decide) (by omega) (by omega) (fun c11 => ?_) (fun c11 => ?_)
    · refine r_aload_n (pc := 43) dX10_markEndless_43 (i := 1) rfl rfl ?_
      refine t_getE (pc := 44) (.ref gOu) ht5 (rd_WE (by omega) hg_O) fX10_84 dX10_markEndless_44 rfl ?_
      refine r_iload_n (pc := 47) dX10_markEndless_47 (i := 3) rfl rfl ?_
      refine r_aload_n (pc := 48) dX10_markEndless_48 (i := 1) rfl rfl ?_
      refine t_callVI (pc := 49) (as := []) (st := [.int (iv v5_3), .ref gOu]) ht5 (rd_WE (by omega) hg_O) kX10_87 rfl dX10_markEndless_49 (c_X3_allNodesx (d := d - 1)  (by omega) (TyG.we hltg hg) (XG.we (by omega) hxg) ht5  ) rfl (by omega) (Nat.le_of_ble_eq_true rfl) rfl (fun hp2 y1 ht3 by1 => ?_)
      have fy1 : (y1 = ((2 ^ gn : Nat) : Int) - 1) := by1
      have ey49 : y1 = ((2 ^ gn : Nat) : Int) - 1 := fy1
      subst ey49
      have mpa49 : 1 ≤ 2 ^ gn := Nat.one_le_two_pow
      have mqa49 : 2 ^ gn ≤ 2 ^ 16 := Nat.pow_le_pow_right (by omega) (by omega)
      refine t_callSI (pc := 52) (as := [.ref gOu, .int (iv v5_3), .int (iv (((2 ^ gn : Nat) : Int) - 1))]) (st := []) kX10_91 dX10_markEndless_52 (t_X8_reachx (d := d - 1) (Nx := Ou) (rL := gn) (x1 := v5_3) (x2 := (((2 ^ gn : Nat) : Int) - 1)) (by omega) (rd_WE (by omega) hxg_Ou) hrg_Ou (by omega) ht3 (by omega) (by omega)) rfl (by omega) (Nat.le_of_ble_eq_true rfl) rfl (fun hp5 y4 ht6 by4 => ?_)
      obtain ⟨by41, hrx52⟩ := by4
      have hE9 := me_ed (p := (prI x2 W By)) hgo prI_wE hs9 hFT hlw hlb (by assumption : fnX Tl Hd (prI x2 W By) vs vo vl v5_3 v5_4) (by omega) hrx52 hou9
      refine r_istore (pc := 55) (lv' := [(4, .int (iv y4)), (0, .ref wa), (1, .ref ga), (2, .int (iv x2)), (3, .int (iv v5_3))]) dX10_markEndless_55 (by decide) rfl ?_
      refine r_iconst (pc := 57) (v := iv 0) dX10_markEndless_57 (by decide) ?_
      refine r_istore (pc := 58) (lv' := [(5, .int (iv 0)), (4, .int (iv y4)), (0, .ref wa), (1, .ref ga), (2, .int (iv x2)), (3, .int (iv v5_3))]) dX10_markEndless_58 (by decide) rfl ?_
      have B60 : ∀ k : Nat, ∀ vs60 : Nat → Int, ∀ vo60 : Nat → Int64, ∀ vl60 : Nat → Int, ∀ vm60 : Nat → Int64, ∀ hp60 : MH, Tw (WE Γ cI cJ cZ cT wa gn vs60 vo60 vl60 vm60 vr) hp60 → ∀  (v60_5 : Int), 0 ≤ v60_5 ∧ v60_5 ≤ 16 ∧ (Rfx gn 0 2 vs60) ∧ (Rfx gn (-1) 100000 vl60) ∧ (v60_5 ≤ (gn : Int)) ∧ (meX gn y4 vs vo vl vm vs60 vo60 vl60 vm60 v60_5) → 16 - v60_5 ≤ (k : Int) → Rn (gG D cI cJ cZ cT lo b L xs) mX10_markEndless d 60 [(0, .ref wa), (4, .int (iv y4)), (5, .int (iv v60_5))] [] hp60 n 0 0 Po9 := by
        refine lpS _ ?_
        intro k60 ih60 vs60 vo60 vl60 vm60 hp60 ht60 v60_5 hf60 hm60
        obtain ⟨hf60_0, hf60_1, ha60_2, ha60_3, hf60_4, ha60_5⟩ := hf60
        refine r_iload (pc := 60) dX10_markEndless_60 rfl ?_
        refine r_aload_n (pc := 62) dX10_markEndless_62 (i := 0) rfl rfl ?_
        refine t_getE (pc := 63) (.int (iv (gn : Int))) ht60 (rd_of WE_0) fX10_15 dX10_markEndless_63 rfl ?_
        refine t_icmp_ge (pc := 66) (tgt := 117) dX10_markEndless_66 (by decide) (by omega) (by omega) (fun c66 => ?_) (fun c66 => ?_)
        · exact r_vret (pc := 117) dX10_markEndless_117 rfl (hPo _ _ _ ⟨rfl, vs60, vo60, vl60, vm60, ht60, rfl, (by exact mk_end hs9 hFT hlw hlb hE9 hvm (by assumption) (by omega))⟩)
        · refine r_iload (pc := 69) dX10_markEndless_69 rfl ?_
          refine r_iload (pc := 71) dX10_markEndless_71 rfl ?_
          have hq73_7 := shr_le (Int.toNat y4) (Int.toNat v60_5)
          refine r_ishr (pc := 73) (v := iv ((Int.toNat y4 >>> Int.toNat v60_5 : Nat) : Int)) dX10_markEndless_73 (shr_e (by omega) (by omega)) ?_
          refine r_iconst (pc := 74) (v := iv 1) dX10_markEndless_74 (by decide) ?_
          refine r_iand (pc := 75) (v := iv (((Int.toNat y4 >>> Int.toNat v60_5 : Nat) : Int) % 2)) dX10_markEndless_75 (and1_e _ (by omega)) ?_
          have mb75 := @Me_bit y4 v60_5
          have B111 : ∀ vs111 : Nat → Int, ∀ vo111 : Nat → Int64, ∀ vl111 : Nat → Int, ∀ vm111 : Nat → Int64, ∀ hp111 : MH, Tw (WE Γ cI cJ cZ cT wa gn vs111 vo111 vl111 vm111 vr) hp111 → (Rfx gn 0 2 vs111) ∧ (Rfx gn (-1) 100000 vl111) ∧ (meX gn y4 vs vo vl vm vs111 vo111 vl111 vm111 (v60_5 + 1)) → Rn (gG D cI cJ cZ cT lo b L xs) mX10_markEndless d 111 [(0, .ref wa), (4, .int (iv y4)), (5, .int (iv v60_5))] [] hp111 n 0 0 Po9 := by
            intro vs111 vo111 vl111 vm111 hp111 ht111 hf111
            obtain ⟨ha111_0, ha111_1, ha111_2⟩ := hf111
            refine r_iinc (pc := 111) (v := iv (v60_5 + 1)) (lv' := [(5, .int (iv (v60_5 + 1))), (0, .ref wa), (4, .int (iv y4))]) dX10_markEndless_111 rfl (iv_add _ _) (by decide) rfl ?_
            refine r_goto (pc := 114) (tgt := 60) dX10_markEndless_114 (by decide) ?_
            refine Rn.pick (lv' := [(0, .ref wa), (4, .int (iv y4)), (5, .int (iv (v60_5 + 1)))]) [1, 2, 0] rfl ?_
            exact ih60 (Int.toNat (16 - (v60_5 + 1))) (by omega) vs111 vo111 vl111 vm111 _ ht111 (v60_5 + 1) ⟨by omega, by omega, by assumption, by assumption, by omega, by (first | assumption | exact mex_0)⟩ (by omega)
          refine t_if_eq (pc := 76) (tgt := 111) dX10_markEndless_76 (by decide) (by omega) (fun c76 => ?_) (fun c76 => ?_)
          · have nm76 : ¬ Me y4 (Int.toNat v60_5) := fun h9 => absurd (Me_bit.mpr h9) (by omega)
            refine Rn.pick (lv' := [(0, .ref wa), (4, .int (iv y4)), (5, .int (iv v60_5))]) [0, 1, 2] rfl ?_
            exact B111 vs60 vo60 vl60 vm60 _ ht60 ⟨by assumption, by assumption, by (first | assumption | exact mex_y (by assumption) (by omega) pm76 | exact mex_n (by assumption) (by omega) nm76)⟩
          · have pm76 : Me y4 (Int.toNat v60_5) := Me_bit.mp (by omega)
            refine r_aload_n (pc := 79) dX10_markEndless_79 (i := 0) rfl rfl ?_
            refine t_getE (pc := 80) (.ref (wa + 1)) ht60 (rd_of WE_0) fX10_18 dX10_markEndless_80 rfl ?_
            refine r_iload (pc := 83) dX10_markEndless_83 rfl ?_
            refine r_iconst (pc := 85) (v := iv 2) dX10_markEndless_85 (by decide) ?_
            refine t_iastX (pc := 86) (t0 := 0) ht60 WE_1 dX10_markEndless_86 rfl (by omega) (by omega) (by omega) (fun hp8 ht9 => ?_)
            have ht10 := WEw_vs ht9
            have hqht10 : Rfx gn 0 2 (fup vs60 (Int.toNat v60_5) 2) := Rfx_up (by assumption) (by omega)
            refine r_aload_n (pc := 87) dX10_markEndless_87 (i := 0) rfl rfl ?_
            refine t_getE (pc := 88) (.ref (wa + 2)) ht10 (rd_of WE_0) fX10_22 dX10_markEndless_88 rfl ?_
            refine r_iload (pc := 91) dX10_markEndless_91 rfl ?_
            refine r_lconst (pc := 93) (v := 0) dX10_markEndless_93 (by decide) ?_
            have hk93 : (0 : Int64).toInt = 0 := by decide
            refine t_lastX (pc := 94) (t0 := 1) ht10 WE_2 dX10_markEndless_94 rfl (by omega) (by omega) (fun hp11 ht12 => ?_)
            have ht13 := WEw_vo ht12
            refine r_aload_n (pc := 95) dX10_markEndless_95 (i := 0) rfl rfl ?_
            refine t_getE (pc := 96) (.ref (wa + 3)) ht13 (rd_of WE_0) fX10_26 dX10_markEndless_96 rfl ?_
            refine r_iload (pc := 99) dX10_markEndless_99 rfl ?_
            refine r_iconst (pc := 101) (v := iv (-1)) dX10_markEndless_101 (by decide) ?_
            refine t_iastX (pc := 102) (t0 := 0) ht13 WE_3 dX10_markEndless_102 rfl (by omega) (by omega) (by omega) (fun hp14 ht15 => ?_)
            have ht16 := WEw_vl ht15
            have hqht16 : Rfx gn (-1) 100000 (fup vl60 (Int.toNat v60_5) (-1)) := Rfx_up (by assumption) (by omega)
            refine r_aload_n (pc := 103) dX10_markEndless_103 (i := 0) rfl rfl ?_
            refine t_getE (pc := 104) (.ref (wa + 4)) ht16 (rd_of WE_0) fX10_29 dX10_markEndless_104 rfl ?_
            refine r_iload (pc := 107) dX10_markEndless_107 rfl ?_
            refine r_lconst (pc := 109) (v := 0) dX10_markEndless_109 (by decide) ?_
            have hk109 : (0 : Int64).toInt = 0 := by decide
            refine t_lastX (pc := 110) (t0 := 1) ht16 WE_4 dX10_markEndless_110 rfl (by omega) (by omega) (fun hp17 ht18 => ?_)
            have ht19 := WEw_vm ht18
            refine Rn.pick (lv' := [(0, .ref wa), (4, .int (iv y4)), (5, .int (iv v60_5))]) [0, 1, 2] rfl ?_
            exact B111 (fup vs60 (Int.toNat v60_5) 2) (fuj vo60 (Int.toNat v60_5) (0 : Int64)) (fup vl60 (Int.toNat v60_5) (-1)) (fuj vm60 (Int.toNat v60_5) (0 : Int64)) _ ht19 ⟨by assumption, by assumption, by (first | assumption | exact mex_y (by assumption) (by omega) pm76 | exact mex_n (by assumption) (by omega) nm76)⟩
      refine Rn.pick (lv' := [(0, .ref wa), (4, .int (iv y4)), (5, .int (iv 0))]) [2, 1, 0] rfl ?_
      exact B60 (Int.toNat (16 - 0)) vs vo vl vm _ ht6 0 ⟨by omega, by omega, by assumption, by assumption, by omega, by (first | assumption | exact mex_0)⟩ (by omega)
    · refine r_aload_n (pc := 14) dX10_markEndless_14 (i := 0) rfl rfl ?_
      refine r_aload_n (pc := 15) dX10_markEndless_15 (i := 1) rfl rfl ?_
      refine r_iload_n (pc := 16) dX10_markEndless_16 (i := 2) rfl rfl ?_
      refine r_iload (pc := 17) dX10_markEndless_17 rfl ?_
      refine t_callVI (pc := 19) (as := [.ref ga, .int (iv x2), .int (iv v5_4)]) (st := []) ht5 (rd_of WE_0) kX10_80 rfl dX10_markEndless_19 (t_X10_lowersx (d := d - 1) (x1 := x2) (x2 := v5_4) (by omega) (TyG.we hltg hg) (rd_WE (by omega) hxg_Tl) (rd_WE (by omega) hxg_Hd) (rd_WE (by omega) hxg_By) (rd_WE (by omega) hxg_W) hrg_Tl hrg_Hd hrg_By hrg_W (rd_of WE_0) (rd_of WE_1) (rd_of WE_2) (rd_of WE_3) (by assumption) (by assumption) (li_B (by assumption) (by omega)) ht5 (by omega) (by omega)) rfl (by omega) (Nat.le_of_ble_eq_true rfl) rfl (fun hp21 y20 ht22 by20 => ?_)
      obtain ⟨by201, hlo⟩ := by20
      have B37 : ∀ hp37 : MH, Tw (WE Γ cI cJ cZ cT wa gn vs vo vl vm vr) hp37 → ∀  (v37_3 : Int), 0 ≤ v37_3 ∧ v37_3 ≤ 65535 ∧ v5_3 ≤ v37_3 ∧ (fnX Tl Hd (prI x2 W By) vs vo vl v37_3 (v5_4 + 1)) → Rn (gG D cI cJ cZ cT lo b L xs) mX10_markEndless d 37 [(0, .ref wa), (1, .ref ga), (2, .int (iv x2)), (3, .int (iv v37_3)), (4, .int (iv v5_4))] [] hp37 n 0 0 Po9 := by
        intro hp37 ht37 v37_3 hf37
        obtain ⟨hf37_0, hf37_1, hf37_2, ha37_3⟩ := hf37
        refine r_iinc (pc := 37) (v := iv (v5_4 + 1)) (lv' := [(4, .int (iv (v5_4 + 1))), (0, .ref wa), (1, .ref ga), (2, .int (iv x2)), (3, .int (iv v37_3))]) dX10_markEndless_37 rfl (iv_add _ _) (by decide) rfl ?_
        refine r_goto (pc := 40) (tgt := 5) dX10_markEndless_40 (by decide) ?_
        refine Rn.pick (lv' := [(0, .ref wa), (1, .ref ga), (2, .int (iv x2)), (3, .int (iv v37_3)), (4, .int (iv (v5_4 + 1)))]) [1, 2, 3, 4, 0] rfl ?_
        exact ih5 (Int.toNat (120 - (v5_4 + 1))) (by omega) _ ht37 v37_3 (v5_4 + 1) ⟨by omega, by omega, by omega, by omega, by omega, by (first | assumption | exact fnx_0)⟩ (by omega)
      refine t_if_eq (pc := 22) (tgt := 37) dX10_markEndless_22 (by decide) (by omega) (fun c22 => ?_) (fun c22 => ?_)
      · refine Rn.pick (lv' := [(0, .ref wa), (1, .ref ga), (2, .int (iv x2)), (3, .int (iv v5_3)), (4, .int (iv v5_4))]) [0, 1, 2, 3, 4] rfl ?_
        exact B37 _ ht22 v5_3 ⟨by omega, by omega, by omega, by (first | assumption | exact hf35 | exact fnx_n (by assumption) (by omega) (fun h9 => by have h8 := hlo.mpr h9; omega))⟩
      · refine r_iload_n (pc := 25) dX10_markEndless_25 (i := 3) rfl rfl ?_
        refine r_iconst (pc := 26) (v := iv 1) dX10_markEndless_26 (by decide) ?_
        refine r_aload_n (pc := 27) dX10_markEndless_27 (i := 1) rfl rfl ?_
        refine t_getE (pc := 28) (.ref gHd) ht22 (rd_WE (by omega) hg_O) fX10_70 dX10_markEndless_28 rfl ?_
        refine r_iload (pc := 31) dX10_markEndless_31 rfl ?_
        refine t_ialdX (pc := 33) (t0 := 0) ht22 (rd_WE (by omega) hxg_Hd) dX10_markEndless_33 rfl (by omega) (by omega) (fun b23 => ?_)
        have rb23 := (show Rfx gq 0 ((gn : Int) - 1) Hd by assumption) (Int.toNat v5_4) (by omega)
        refine r_ishl (pc := 34) (v := iv ((2 ^ Int.toNat (Hd (Int.toNat v5_4)) : Nat) : Int)) dX10_markEndless_34 (shl_e (by omega)) ?_
        have mp34_24 : 1 ≤ 2 ^ Int.toNat (Hd (Int.toNat v5_4)) := Nat.one_le_two_pow
        have mq34_25 : 2 ^ Int.toNat (Hd (Int.toNat v5_4)) ≤ 2 ^ 15 := Nat.pow_le_pow_right (by omega) (by omega)
        have ms34 := Me_shl (Int.toNat (Hd (Int.toNat v5_4)))
        obtain ⟨z26, hz26, bz26⟩ := or_2 16 v5_3 ((2 ^ Int.toNat (Hd (Int.toNat v5_4)) : Nat) : Int) (by omega) (by omega) (by decide)
        refine r_ior (pc := 35) (v := iv z26) dX10_markEndless_35 hz26 ?_
        have mez26 := Me_or hz26 (by omega) (by omega) (by omega)
        have hf35 := fnx_y (by assumption : fnX Tl Hd (prI x2 W By) vs vo vl v5_3 v5_4) (by omega) mez26 ms34 (hlo.mp (by omega))
        refine r_istore_n (pc := 36) (lv' := [(3, .int (iv z26)), (0, .ref wa), (1, .ref ga), (2, .int (iv x2)), (4, .int (iv v5_4))]) dX10_markEndless_36 (i := 3) rfl (by decide) rfl ?_
        refine Rn.pick (lv' := [(0, .ref wa), (1, .ref ga), (2, .int (iv x2)), (3, .int (iv z26)), (4, .int (iv v5_4))]) [1, 2, 3, 0, 4] rfl ?_
        exact B37 _ ht22 z26 ⟨by omega, by omega, by omega, by (first | assumption | exact hf35 | exact fnx_n (by assumption) (by omega) (fun h9 => by have h8 := hlo.mpr h9; omega))⟩
  refine Rn.pick (lv' := [(0, .ref wa), (1, .ref ga), (2, .int (iv x2)), (3, .int (iv 0)), (4, .int (iv 0))]) [2, 3, 4, 1, 0] rfl ?_
  exact B5 (Int.toNat (120 - 0)) _ ht 0 0 ⟨by omega, by omega, by omega, by omega, by omega, by (first | assumption | exact fnx_0)⟩ (by omega)
