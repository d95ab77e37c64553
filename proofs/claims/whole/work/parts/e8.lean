set_option maxHeartbeats 4000000 in
set_option maxRecDepth 100000 in
theorem w_X10_countWide {D : va_G} {cI cJ cZ cT : ClassId} {lo b L : Nat} {xs : Nat → Int32} {hp : MH} {n d : Nat} {Γ : TG} {ga : Nat} {gF : Nat} {gT : Nat} {gW : Nat} {gC : Nat} {gTl : Nat} {gHd : Nat} {gBy : Nat} {gOu : Nat} {gIn : Nat} {gJo : Nat} {gn : Nat} {gm : Nat} {gq : Nat} {gdr : Int} {F T W C Tl Hd By Ou In Jo : Nat → Int} {wa : Nat} {vs : Nat → Int} {vo : Nat → Int64} {vl : Nat → Int} {vm : Nat → Int64} {vr : Nat → Int} {lv : Nat → Int} {su : Nat → Int64} {x2 x3 : Int} {pos : Nat → Nat} {Po9 : Option Value → MH → Nat → Prop} (hd0 : 1 ≤ d) (hg : TyG Γ cI cJ cZ ga gF gT gW gC gTl gHd gBy gOu gIn gJo gn gm gq gdr) (hltg : ga < wa ∧ gF < wa ∧ gT < wa ∧ gW < wa ∧ gC < wa ∧ gTl < wa ∧ gHd < wa ∧ gBy < wa ∧ gOu < wa ∧ gIn < wa ∧ gJo < wa) (hxg : XG Γ cI gF gT gW gC gTl gHd gBy gOu gIn gJo gn gm gq F T W C Tl Hd By Ou In Jo) (ht : Tw (WL Γ cI cJ cZ cT wa gn vs vo vl vm vr lv su) hp) (hx2 : 0 ≤ x2 ∧ x2 ≤ 15) (hx3 : 0 ≤ x3 ∧ x3 ≤ 15) (hgo : GoS gm gq gdr F T Tl Hd By pos) (hx9 : x2 < (gn : Int) ∧ x3 < (gn : Int)) (hPo : ∀ r hp1 n1, (n1 = n ∧ ∃ (lv1 : Nat → Int) (su1 : Nat → Int64) (r1 : Int), Tw (WL Γ cI cJ cZ cT wa gn vs vo vl vm vr lv1 su1) hp1 ∧ r = none ∧ (cwP gm gdr F T W (vo (Int.toNat x3)).toInt (Int.toNat x2) gn lv1 su1 r1) ∧ ((gn : Int) - 1 ≤ r1 ∨ 0 ≤ lv1 (Int.toNat x3)) ∧ (Rfx gn (-1) 16 lv1)) → Po9 r hp1 n1) : Mt (gG D cI cJ cZ cT lo b L xs) mX10_countWide d 0 0 [.ref wa, .ref ga, .int (iv x2), .int (iv x3), .ref (wa + 6), .ref (wa + 7)] hp n Po9 := by
  refine Mt.of rfl (Nat.le_of_ble_eq_true rfl) ?_
  refine Rn.pick (lv' := [(0, .ref wa), (1, .ref ga), (2, .int (iv x2)), (3, .int (iv x3)), (4, .ref (wa + 6)), (5, .ref (wa + 7))]) [0, 1, 2, 3, 4, 5] rfl ?_
  obtain ⟨hg_O, hg_from, hg_to, hg_weight, hg_cost, hg_tail, hg_head, hg_by, hg_out, hg_in, hg_joined, hg_b⟩ := id hg
  obtain ⟨⟨hxg_F, hxg_T, hxg_W, hxg_C, hxg_Tl, hxg_Hd, hxg_By, hxg_Ou, hxg_In, hxg_Jo⟩, ⟨hrg_F, hrg_T, hrg_W, hrg_C, hrg_Tl, hrg_Hd, hrg_By, hrg_Ou, hrg_In, hrg_Jo⟩, houg⟩ := id hxg
  have hgb := hg_b
  have hsq : gn * gn ≤ 256 := Nat.le_trans (Nat.mul_le_mul (show gn ≤ 16 by omega) (show gn ≤ 16 by omega)) (by decide)
  have hFT : ∀ k, k < gm → (0 ≤ F k ∧ F k < (gn : Int)) ∧ (0 ≤ T k ∧ T k < (gn : Int)) := fun k hk => by have h1 := hrg_F k hk; have h2 := hrg_T k hk; omega
  have hW9 : ∀ e, e < gm → -1000 ≤ W e ∧ W e ≤ 1000 := hrg_W
  refine r_aload (pc := 0) dX10_countWide_0 rfl ?_
  refine r_iconst (pc := 2) (v := iv (-1)) dX10_countWide_2 (by decide) ?_
  refine t_fillX (pc := 3) ht WL_6 kX10_35 dX10_countWide_3 (by omega) (by omega) (by omega) (Nat.le_of_ble_eq_true rfl) (fun hp1 ht2 => ?_)
  have ht3 := WLw_lv ht2
  have hRl3 : Rfx gn (-1) 16 (fun _ => -1) := fun _ _ => ⟨(by show (-1 : Int) ≤ -1; decide), (by show (-1 : Int) ≤ 16; decide)⟩
  refine r_aload (pc := 6) dX10_countWide_6 rfl ?_
  refine r_lconst (pc := 8) (v := 0) dX10_countWide_8 (by decide) ?_
  have hk8 : (0 : Int64).toInt = 0 := by decide
  refine t_fillJX (pc := 9) ht3 (rd_of WL_7) kX10_121 dX10_countWide_9 (by omega) (by omega) (Nat.le_of_ble_eq_true rfl) (fun hp4 ht5 => ?_)
  have ht6 := WLw_su ht5
  refine r_aload (pc := 12) dX10_countWide_12 rfl ?_
  refine r_iload_n (pc := 14) dX10_countWide_14 (i := 2) rfl rfl ?_
  refine r_iconst (pc := 15) (v := iv 0) dX10_countWide_15 (by decide) ?_
  refine t_iastX (pc := 16) (t0 := 0) ht6 WL_6 dX10_countWide_16 rfl (by omega) (by omega) (by omega) (fun hp7 ht8 => ?_)
  have ht9 := WLw_lv ht8
  have hqht9 : Rfx gn (-1) 16 (fup (fun _ => (-1)) (Int.toNat x2) 0) := Rfx_up (by assumption) (by omega)
  refine r_aload (pc := 17) dX10_countWide_17 rfl ?_
  refine r_iload_n (pc := 19) dX10_countWide_19 (i := 2) rfl rfl ?_
  refine r_lconst (pc := 20) (v := 1) dX10_countWide_20 (by decide) ?_
  have hk20 : (1 : Int64).toInt = 1 := by decide
  refine t_lastX (pc := 21) (t0 := 1) ht9 WL_7 dX10_countWide_21 rfl (by omega) (by omega) (fun hp10 ht11 => ?_)
  have ht12 := WLw_su ht11
  refine r_iconst (pc := 22) (v := iv 1) dX10_countWide_22 (by decide) ?_
  refine r_istore (pc := 23) (lv' := [(6, .int (iv 1)), (0, .ref wa), (1, .ref ga), (2, .int (iv x2)), (3, .int (iv x3)), (4, .ref (wa + 6)), (5, .ref (wa + 7))]) dX10_countWide_23 (by decide) rfl ?_
  have B25 : ∀ k : Nat, ∀ lv25 : Nat → Int, ∀ su25 : Nat → Int64, ∀ hp25 : MH, Tw (WL Γ cI cJ cZ cT wa gn vs vo vl vm vr lv25 su25) hp25 → ∀  (v25_6 : Int), 1 ≤ v25_6 ∧ v25_6 ≤ 16 ∧ (Rfx gn (-1) 16 lv25) ∧ (cwP gm gdr F T W (vo (Int.toNat x3)).toInt (Int.toNat x2) gn lv25 su25 (v25_6 - 1)) → 16 - v25_6 ≤ (k : Int) → Rn (gG D cI cJ cZ cT lo b L xs) mX10_countWide d 25 [(0, .ref wa), (1, .ref ga), (3, .int (iv x3)), (4, .ref (wa + 6)), (5, .ref (wa + 7)), (6, .int (iv v25_6))] [] hp25 n 0 0 Po9 := by
    refine lpS _ ?_
    intro k25 ih25 lv25 su25 hp25 ht25 v25_6 hf25 hm25
    obtain ⟨hf25_0, hf25_1, ha25_2, ha25_3⟩ := hf25
    refine r_iload (pc := 25) dX10_countWide_25 rfl ?_
    refine r_aload_n (pc := 27) dX10_countWide_27 (i := 0) rfl rfl ?_
    refine t_getE (pc := 28) (.int (iv (gn : Int))) ht25 (rd_of WL_0) fX10_15 dX10_countWide_28 rfl ?_
    refine t_icmp_ge (pc := 31) (tgt := 168) dX10_countWide_31 (by decide) (by omega) (by omega) (fun c31 => ?_) (fun c31 => ?_)
    · exact r_vret (pc := 168) dX10_countWide_168 rfl (hPo _ _ _ ⟨rfl, lv25, su25, (v25_6 - 1), ht25, rfl, (by assumption), (by omega), (by assumption)⟩)
    · refine r_aload (pc := 34) dX10_countWide_34 rfl ?_
      refine r_iload_n (pc := 36) dX10_countWide_36 (i := 3) rfl rfl ?_
      refine t_ialdX (pc := 37) (t0 := 0) ht25 (rd_of WL_6) dX10_countWide_37 rfl (by omega) (by omega) (fun b13 => ?_)
      have rb13 := (show Rfx gn (-1) 16 lv25 by assumption) (Int.toNat x3) (by omega)
      refine t_if_ge (pc := 38) (tgt := 168) dX10_countWide_38 (by decide) (by omega) (fun c38 => ?_) (fun c38 => ?_)
      · exact r_vret (pc := 168) dX10_countWide_168 rfl (hPo _ _ _ ⟨rfl, lv25, su25, (v25_6 - 1), ht25, rfl, (by assumption), (by omega), (by assumption)⟩)
      · refine r_iconst (pc := 41) (v := iv 0) dX10_countWide_41 (by decide) ?_
        refine r_istore (pc := 42) (lv' := [(7, .int (iv 0)), (0, .ref wa), (1, .ref ga), (3, .int (iv x3)), (4, .ref (wa + 6)), (5, .ref (wa + 7)), (6, .int (iv v25_6))]) dX10_countWide_42 (by decide) rfl ?_
        have B44 : ∀ k : Nat, ∀ lv44 : Nat → Int, ∀ su44 : Nat → Int64, ∀ hp44 : MH, Tw (WL Γ cI cJ cZ cT wa gn vs vo vl vm vr lv44 su44) hp44 → ∀  (v44_7 : Int), 0 ≤ v44_7 ∧ v44_7 ≤ 120 ∧ (Rfx gn (-1) 16 lv44) ∧ (v44_7 ≤ (gq : Int)) ∧ (cgP gn Tl Hd By W (vo (Int.toNat x3)).toInt lv25 su25 lv44 su44 (v25_6 - 1) v44_7) → 120 - v44_7 ≤ (k : Int) → Rn (gG D cI cJ cZ cT lo b L xs) mX10_countWide d 44 [(0, .ref wa), (1, .ref ga), (3, .int (iv x3)), (4, .ref (wa + 6)), (5, .ref (wa + 7)), (6, .int (iv v25_6)), (7, .int (iv v44_7))] [] hp44 n 0 0 Po9 := by
          refine lpS _ ?_
          intro k44 ih44 lv44 su44 hp44 ht44 v44_7 hf44 hm44
          obtain ⟨hf44_0, hf44_1, ha44_2, hf44_3, ha44_4⟩ := hf44
          refine r_iload (pc := 44) dX10_countWide_44 rfl ?_
          refine r_aload_n (pc := 46) dX10_countWide_46 (i := 1) rfl rfl ?_
          refine t_getE (pc := 47) (.int (iv (gq : Int))) ht44 (rd_WL (by omega) hg_O) fX10_77 dX10_countWide_47 rfl ?_
          refine t_icmp_ge (pc := 50) (tgt := 162) dX10_countWide_50 (by decide) (by omega) (by omega) (fun c50 => ?_) (fun c50 => ?_)
          · refine r_iinc (pc := 162) (v := iv (v25_6 + 1)) (lv' := [(6, .int (iv (v25_6 + 1))), (0, .ref wa), (1, .ref ga), (3, .int (iv x3)), (4, .ref (wa + 6)), (5, .ref (wa + 7)), (7, .int (iv v44_7))]) dX10_countWide_162 rfl (iv_add _ _) (by decide) rfl ?_
            refine r_goto (pc := 165) (tgt := 25) dX10_countWide_165 (by decide) ?_
            refine Rn.pick (lv' := [(0, .ref wa), (1, .ref ga), (3, .int (iv x3)), (4, .ref (wa + 6)), (5, .ref (wa + 7)), (6, .int (iv (v25_6 + 1)))]) [1, 2, 3, 4, 5, 0] rfl ?_
            exact ih25 (Int.toNat (16 - (v25_6 + 1))) (by omega) lv44 su44 _ ht44 (v25_6 + 1) ⟨by omega, by omega, by assumption, by (first | assumption | exact cw_00 (by omega) | exact cw_rd2 (r := v25_6 - 1) hgo hFT (by omega) (by assumption) (by assumption) (by omega) (by omega))⟩ (by omega)
          · refine r_aload_n (pc := 53) dX10_countWide_53 (i := 1) rfl rfl ?_
            refine t_getE (pc := 54) (.ref gTl) ht44 (rd_WL (by omega) hg_O) fX10_67 dX10_countWide_54 rfl ?_
            refine r_iload (pc := 57) dX10_countWide_57 rfl ?_
            refine t_ialdX (pc := 59) (t0 := 0) ht44 (rd_WL (by omega) hxg_Tl) dX10_countWide_59 rfl (by omega) (by omega) (fun b14 => ?_)
            have rb14 := (show Rfx gq 0 ((gn : Int) - 1) Tl by assumption) (Int.toNat v44_7) (by omega)
            refine r_istore (pc := 60) (lv' := [(8, .int (iv (Tl (Int.toNat v44_7)))), (0, .ref wa), (1, .ref ga), (3, .int (iv x3)), (4, .ref (wa + 6)), (5, .ref (wa + 7)), (6, .int (iv v25_6)), (7, .int (iv v44_7))]) dX10_countWide_60 (by decide) rfl ?_
            refine r_aload_n (pc := 62) dX10_countWide_62 (i := 1) rfl rfl ?_
            refine t_getE (pc := 63) (.ref gHd) ht44 (rd_WL (by omega) hg_O) fX10_70 dX10_countWide_63 rfl ?_
            refine r_iload (pc := 66) dX10_countWide_66 rfl ?_
            refine t_ialdX (pc := 68) (t0 := 0) ht44 (rd_WL (by omega) hxg_Hd) dX10_countWide_68 rfl (by omega) (by omega) (fun b15 => ?_)
            have rb15 := (show Rfx gq 0 ((gn : Int) - 1) Hd by assumption) (Int.toNat v44_7) (by omega)
            refine r_istore (pc := 69) (lv' := [(9, .int (iv (Hd (Int.toNat v44_7)))), (8, .int (iv (Tl (Int.toNat v44_7)))), (0, .ref wa), (1, .ref ga), (3, .int (iv x3)), (4, .ref (wa + 6)), (5, .ref (wa + 7)), (6, .int (iv v25_6)), (7, .int (iv v44_7))]) dX10_countWide_69 (by decide) rfl ?_
            refine r_aload (pc := 71) dX10_countWide_71 rfl ?_
            refine r_iload (pc := 73) dX10_countWide_73 rfl ?_
            refine t_ialdX (pc := 75) (t0 := 0) ht44 (rd_of WL_6) dX10_countWide_75 rfl (by omega) (by omega) (fun b16 => ?_)
            have rb16 := (show Rfx gn (-1) 16 lv44 by assumption) (Int.toNat (Tl (Int.toNat v44_7))) (by omega)
            refine r_iload (pc := 76) dX10_countWide_76 rfl ?_
            refine r_iconst (pc := 78) (v := iv 1) dX10_countWide_78 (by decide) ?_
            refine r_isub (pc := 79) (v := iv (v25_6 - 1)) dX10_countWide_79 (iv_sub _ _) ?_
            have B156 : ∀ lv156 : Nat → Int, ∀ su156 : Nat → Int64, ∀ hp156 : MH, Tw (WL Γ cI cJ cZ cT wa gn vs vo vl vm vr lv156 su156) hp156 → (Rfx gn (-1) 16 lv156) ∧ (cgP gn Tl Hd By W (vo (Int.toNat x3)).toInt lv25 su25 lv156 su156 (v25_6 - 1) (v44_7 + 1)) → Rn (gG D cI cJ cZ cT lo b L xs) mX10_countWide d 156 [(0, .ref wa), (1, .ref ga), (3, .int (iv x3)), (4, .ref (wa + 6)), (5, .ref (wa + 7)), (6, .int (iv v25_6)), (7, .int (iv v44_7))] [] hp156 n 0 0 Po9 := by
              intro lv156 su156 hp156 ht156 hf156
              obtain ⟨ha156_0, ha156_1⟩ := hf156
              refine r_iinc (pc := 156) (v := iv (v44_7 + 1)) (lv' := [(7, .int (iv (v44_7 + 1))), (0, .ref wa), (1, .ref ga), (3, .int (iv x3)), (4, .ref (wa + 6)), (5, .ref (wa + 7)), (6, .int (iv v25_6))]) dX10_countWide_156 rfl (iv_add _ _) (by decide) rfl ?_
              refine r_goto (pc := 159) (tgt := 44) dX10_countWide_159 (by decide) ?_
              refine Rn.pick (lv' := [(0, .ref wa), (1, .ref ga), (3, .int (iv x3)), (4, .ref (wa + 6)), (5, .ref (wa + 7)), (6, .int (iv v25_6)), (7, .int (iv (v44_7 + 1)))]) [1, 2, 3, 4, 5, 6, 0] rfl ?_
              exact ih44 (Int.toNat (120 - (v44_7 + 1))) (by omega) lv156 su156 _ ht156 (v44_7 + 1) ⟨by omega, by omega, by assumption, by omega, by (first | assumption | exact cg_0)⟩ (by omega)
            refine t_icmp_ne (pc := 80) (tgt := 156) dX10_countWide_80 (by decide) (by omega) (by omega) (fun c80 => ?_) (fun c80 => ?_)
            · refine Rn.pick (lv' := [(0, .ref wa), (1, .ref ga), (3, .int (iv x3)), (4, .ref (wa + 6)), (5, .ref (wa + 7)), (6, .int (iv v25_6)), (7, .int (iv v44_7))]) [2, 3, 4, 5, 6, 7, 8] rfl ?_
              exact B156 lv44 su44 _ ht44 ⟨by assumption, by (first | assumption | exact hcg9 | exact cg_n (by assumption) (by omega) (by omega) (by omega) (fun h9 => by have h8 := h9.1; have h7 := h9.2; omega))⟩
            · refine r_aload_n (pc := 83) dX10_countWide_83 (i := 1) rfl rfl ?_
              refine t_getE (pc := 84) (.ref gW) ht44 (rd_WL (by omega) hg_O) fX10_61 dX10_countWide_84 rfl ?_
              refine r_aload_n (pc := 87) dX10_countWide_87 (i := 1) rfl rfl ?_
              refine t_getE (pc := 88) (.ref gBy) ht44 (rd_WL (by omega) hg_O) fX10_64 dX10_countWide_88 rfl ?_
              refine r_iload (pc := 91) dX10_countWide_91 rfl ?_
              refine t_ialdX (pc := 93) (t0 := 0) ht44 (rd_WL (by omega) hxg_By) dX10_countWide_93 rfl (by omega) (by omega) (fun b17 => ?_)
              have rb17 := (show Rfx gq 0 ((gm : Int) - 1) By by assumption) (Int.toNat v44_7) (by omega)
              refine t_ialdX (pc := 94) (t0 := 0) ht44 (rd_WL (by omega) hxg_W) dX10_countWide_94 rfl (by omega) (by omega) (fun b18 => ?_)
              have rb18 := (show Rfx gm (-1000) 1000 W by assumption) (Int.toNat (By (Int.toNat v44_7))) (by omega)
              refine r_i2l (pc := 95) (v := (iv (W (Int.toNat (By (Int.toNat v44_7))))).toInt64) dX10_countWide_95 rfl ?_
              have hiv := iv_long (x := W (Int.toNat (By (Int.toNat v44_7)))) (by omega)
              refine r_aload_n (pc := 96) dX10_countWide_96 (i := 0) rfl rfl ?_
              refine t_getE (pc := 97) (.ref (wa + 2)) ht44 (rd_of WL_0) fX10_22 dX10_countWide_97 rfl ?_
              refine r_iload_n (pc := 100) dX10_countWide_100 (i := 3) rfl rfl ?_
              refine t_laldX (pc := 101) (t0 := 1) ht44 (rd_of WL_2) dX10_countWide_101 rfl (by omega) (by omega) ?_
              refine r_lcmp (pc := 102) dX10_countWide_102 ?_
              refine t_lif_lt (pc := 103) (tgt := 156) dX10_countWide_103 (by decide) (fun c103 => ?_) (fun c103 => ?_)
              · refine Rn.pick (lv' := [(0, .ref wa), (1, .ref ga), (3, .int (iv x3)), (4, .ref (wa + 6)), (5, .ref (wa + 7)), (6, .int (iv v25_6)), (7, .int (iv v44_7))]) [2, 3, 4, 5, 6, 7, 8] rfl ?_
                exact B156 lv44 su44 _ ht44 ⟨by assumption, by (first | assumption | exact hcg9 | exact cg_n (by assumption) (by omega) (by omega) (by omega) (fun h9 => by have h8 := h9.1; have h7 := h9.2; omega))⟩
              · refine r_aload (pc := 106) dX10_countWide_106 rfl ?_
                refine r_iload (pc := 108) dX10_countWide_108 rfl ?_
                refine r_aload (pc := 110) dX10_countWide_110 rfl ?_
                refine r_iload (pc := 112) dX10_countWide_112 rfl ?_
                refine t_ialdX (pc := 114) (t0 := 0) ht44 (rd_of WL_6) dX10_countWide_114 rfl (by omega) (by omega) (fun b19 => ?_)
                have rb19 := (show Rfx gn (-1) 16 lv44 by assumption) (Int.toNat (Hd (Int.toNat v44_7))) (by omega)
                refine t_if_ge (pc := 115) (tgt := 123) dX10_countWide_115 (by decide) (by omega) (fun c115 => ?_) (fun c115 => ?_)
                · refine r_aload (pc := 123) dX10_countWide_123 rfl ?_
                  refine r_iload (pc := 125) dX10_countWide_125 rfl ?_
                  refine t_ialdX (pc := 127) (t0 := 0) ht44 (rd_of WL_6) dX10_countWide_127 rfl (by omega) (by omega) (fun b20 => ?_)
                  have rb20 := (show Rfx gn (-1) 16 lv44 by assumption) (Int.toNat (Hd (Int.toNat v44_7))) (by omega)
                  refine t_iastX (pc := 128) (t0 := 0) ht44 WL_6 dX10_countWide_128 rfl (by omega) (by omega) (by omega) (fun hp21 ht22 => ?_)
                  have ht23 := WLw_lv ht22
                  have hqht23 : Rfx gn (-1) 16 (fup lv44 (Int.toNat (Hd (Int.toNat v44_7))) (lv44 (Int.toNat (Hd (Int.toNat v44_7))))) := Rfx_up (by assumption) (by omega)
                  refine r_aload (pc := 129) dX10_countWide_129 rfl ?_
                  refine r_iload (pc := 131) dX10_countWide_131 rfl ?_
                  refine r_dup2_11 (pc := 133) dX10_countWide_133 rfl rfl ?_
                  refine t_laldX (pc := 134) (t0 := 1) ht23 (rd_of WL_7) dX10_countWide_134 rfl (by omega) (by omega) ?_
                  refine r_aload (pc := 135) dX10_countWide_135 rfl ?_
                  refine r_iload (pc := 137) dX10_countWide_137 rfl ?_
                  refine t_ialdX (pc := 139) (t0 := 0) ht23 (rd_of WL_6) dX10_countWide_139 rfl (by omega) (by omega) (fun b24 => ?_)
                  have rb24 := (show Rfx gn (-1) 16 (fup lv44 (Int.toNat (Hd (Int.toNat v44_7))) (lv44 (Int.toNat (Hd (Int.toNat v44_7))))) by assumption) (Int.toNat (Hd (Int.toNat v44_7))) (by omega)
                  have hfs : (fup lv44 (Int.toNat (Hd (Int.toNat v44_7))) (lv44 (Int.toNat (Hd (Int.toNat v44_7))))) (Int.toNat (Hd (Int.toNat v44_7))) = lv44 (Int.toNat (Hd (Int.toNat v44_7))) := fup_s _ _ _
                  refine r_iload (pc := 140) dX10_countWide_140 rfl ?_
                  refine t_icmp_ne (pc := 142) (tgt := 153) dX10_countWide_142 (by decide) (by omega) (by omega) (fun c142 => ?_) (fun c142 => ?_)
                  · refine r_lconst (pc := 153) (v := 0) dX10_countWide_153 (by decide) ?_
                    have hk153 : (0 : Int64).toInt = 0 := by decide
                    refine r_ladd (pc := 154) (v := (su44 (Int.toNat (Hd (Int.toNat v44_7)))) + (0 : Int64)) dX10_countWide_154 rfl ?_
                    refine t_lastX (pc := 155) (t0 := 1) ht23 WL_7 dX10_countWide_155 rfl (by omega) (by omega) (fun hp25 ht26 => ?_)
                    have ht27 := WLw_su ht26
                    have hcg9 := cg_y (z := lv44 (Int.toNat (Hd (Int.toNat v44_7)))) (y := (0 : Int64)) (b := (Int.toNat (Hd (Int.toNat v44_7)))) (by assumption : cwP gm gdr F T W (vo (Int.toNat x3)).toInt (Int.toNat x2) gn lv25 su25 (v25_6 - 1)) (by assumption : cgP gn Tl Hd By W (vo (Int.toNat x3)).toInt lv25 su25 lv44 su44 (v25_6 - 1) v44_7) (by omega) (by omega) (by omega) (by omega) (by omega) (by omega) (by omega) (by first | exact Or.inl ⟨by omega, rfl⟩ | exact Or.inr ⟨by omega, rfl⟩)
                    refine Rn.pick (lv' := [(0, .ref wa), (1, .ref ga), (3, .int (iv x3)), (4, .ref (wa + 6)), (5, .ref (wa + 7)), (6, .int (iv v25_6)), (7, .int (iv v44_7))]) [2, 3, 4, 5, 6, 7, 8] rfl ?_
                    exact B156 (fup lv44 (Int.toNat (Hd (Int.toNat v44_7))) (lv44 (Int.toNat (Hd (Int.toNat v44_7))))) (fuj su44 (Int.toNat (Hd (Int.toNat v44_7))) ((su44 (Int.toNat (Hd (Int.toNat v44_7)))) + (0 : Int64))) _ ht27 ⟨by assumption, by (first | assumption | exact hcg9 | exact cg_n (by assumption) (by omega) (by omega) (by omega) (fun h9 => by have h8 := h9.1; have h7 := h9.2; omega))⟩
                  · refine r_aload (pc := 145) dX10_countWide_145 rfl ?_
                    refine r_iload (pc := 147) dX10_countWide_147 rfl ?_
                    refine t_laldX (pc := 149) (t0 := 1) ht23 (rd_of WL_7) dX10_countWide_149 rfl (by omega) (by omega) ?_
                    refine r_goto (pc := 150) (tgt := 154) dX10_countWide_150 (by decide) ?_
                    refine r_ladd (pc := 154) (v := (su44 (Int.toNat (Hd (Int.toNat v44_7)))) + (su44 (Int.toNat (Tl (Int.toNat v44_7))))) dX10_countWide_154 rfl ?_
                    refine t_lastX (pc := 155) (t0 := 1) ht23 WL_7 dX10_countWide_155 rfl (by omega) (by omega) (fun hp28 ht29 => ?_)
                    have ht30 := WLw_su ht29
                    have hcg9 := cg_y (z := lv44 (Int.toNat (Hd (Int.toNat v44_7)))) (y := su44 (Int.toNat (Tl (Int.toNat v44_7)))) (b := (Int.toNat (Hd (Int.toNat v44_7)))) (by assumption : cwP gm gdr F T W (vo (Int.toNat x3)).toInt (Int.toNat x2) gn lv25 su25 (v25_6 - 1)) (by assumption : cgP gn Tl Hd By W (vo (Int.toNat x3)).toInt lv25 su25 lv44 su44 (v25_6 - 1) v44_7) (by omega) (by omega) (by omega) (by omega) (by omega) (by omega) (by omega) (by first | exact Or.inl ⟨by omega, rfl⟩ | exact Or.inr ⟨by omega, rfl⟩)
                    refine Rn.pick (lv' := [(0, .ref wa), (1, .ref ga), (3, .int (iv x3)), (4, .ref (wa + 6)), (5, .ref (wa + 7)), (6, .int (iv v25_6)), (7, .int (iv v44_7))]) [2, 3, 4, 5, 6, 7, 8] rfl ?_
                    exact B156 (fup lv44 (Int.toNat (Hd (Int.toNat v44_7))) (lv44 (Int.toNat (Hd (Int.toNat v44_7))))) (fuj su44 (Int.toNat (Hd (Int.toNat v44_7))) ((su44 (Int.toNat (Hd (Int.toNat v44_7)))) + (su44 (Int.toNat (Tl (Int.toNat v44_7)))))) _ ht30 ⟨by assumption, by (first | assumption | exact hcg9 | exact cg_n (by assumption) (by omega) (by omega) (by omega) (fun h9 => by have h8 := h9.1; have h7 := h9.2; omega))⟩
                · refine r_iload (pc := 118) dX10_countWide_118 rfl ?_
                  refine r_goto (pc := 120) (tgt := 128) dX10_countWide_120 (by decide) ?_
                  refine t_iastX (pc := 128) (t0 := 0) ht44 WL_6 dX10_countWide_128 rfl (by omega) (by omega) (by omega) (fun hp31 ht32 => ?_)
                  have ht33 := WLw_lv ht32
                  have hqht33 : Rfx gn (-1) 16 (fup lv44 (Int.toNat (Hd (Int.toNat v44_7))) v25_6) := Rfx_up (by assumption) (by omega)
                  refine r_aload (pc := 129) dX10_countWide_129 rfl ?_
                  refine r_iload (pc := 131) dX10_countWide_131 rfl ?_
                  refine r_dup2_11 (pc := 133) dX10_countWide_133 rfl rfl ?_
                  refine t_laldX (pc := 134) (t0 := 1) ht33 (rd_of WL_7) dX10_countWide_134 rfl (by omega) (by omega) ?_
                  refine r_aload (pc := 135) dX10_countWide_135 rfl ?_
                  refine r_iload (pc := 137) dX10_countWide_137 rfl ?_
                  refine t_ialdX (pc := 139) (t0 := 0) ht33 (rd_of WL_6) dX10_countWide_139 rfl (by omega) (by omega) (fun b34 => ?_)
                  have rb34 := (show Rfx gn (-1) 16 (fup lv44 (Int.toNat (Hd (Int.toNat v44_7))) v25_6) by assumption) (Int.toNat (Hd (Int.toNat v44_7))) (by omega)
                  have hfs : (fup lv44 (Int.toNat (Hd (Int.toNat v44_7))) v25_6) (Int.toNat (Hd (Int.toNat v44_7))) = v25_6 := fup_s _ _ _
                  refine r_iload (pc := 140) dX10_countWide_140 rfl ?_
                  refine t_icmp_ne (pc := 142) (tgt := 153) dX10_countWide_142 (by decide) (by omega) (by omega) (fun c142 => ?_) (fun c142 => ?_)
                  · refine r_lconst (pc := 153) (v := 0) dX10_countWide_153 (by decide) ?_
                    have hk153 : (0 : Int64).toInt = 0 := by decide
                    refine r_ladd (pc := 154) (v := (su44 (Int.toNat (Hd (Int.toNat v44_7)))) + (0 : Int64)) dX10_countWide_154 rfl ?_
                    refine t_lastX (pc := 155) (t0 := 1) ht33 WL_7 dX10_countWide_155 rfl (by omega) (by omega) (fun hp35 ht36 => ?_)
                    have ht37 := WLw_su ht36
                    have hcg9 := cg_y (z := v25_6) (y := (0 : Int64)) (b := (Int.toNat (Hd (Int.toNat v44_7)))) (by assumption : cwP gm gdr F T W (vo (Int.toNat x3)).toInt (Int.toNat x2) gn lv25 su25 (v25_6 - 1)) (by assumption : cgP gn Tl Hd By W (vo (Int.toNat x3)).toInt lv25 su25 lv44 su44 (v25_6 - 1) v44_7) (by omega) (by omega) (by omega) (by omega) (by omega) (by omega) (by omega) (by first | exact Or.inl ⟨by omega, rfl⟩ | exact Or.inr ⟨by omega, rfl⟩)
                    refine Rn.pick (lv' := [(0, .ref wa), (1, .ref ga), (3, .int (iv x3)), (4, .ref (wa + 6)), (5, .ref (wa + 7)), (6, .int (iv v25_6)), (7, .int (iv v44_7))]) [2, 3, 4, 5, 6, 7, 8] rfl ?_
                    exact B156 (fup lv44 (Int.toNat (Hd (Int.toNat v44_7))) v25_6) (fuj su44 (Int.toNat (Hd (Int.toNat v44_7))) ((su44 (Int.toNat (Hd (Int.toNat v44_7)))) + (0 : Int64))) _ ht37 ⟨by assumption, by (first | assumption | exact hcg9 | exact cg_n (by assumption) (by omega) (by omega) (by omega) (fun h9 => by have h8 := h9.1; have h7 := h9.2; omega))⟩
                  · refine r_aload (pc := 145) dX10_countWide_145 rfl ?_
                    refine r_iload (pc := 147) dX10_countWide_147 rfl ?_
                    refine t_laldX (pc := 149) (t0 := 1) ht33 (rd_of WL_7) dX10_countWide_149 rfl (by omega) (by omega) ?_
                    refine r_goto (pc := 150) (tgt := 154) dX10_countWide_150 (by decide) ?_
                    refine r_ladd (pc := 154) (v := (su44 (Int.toNat (Hd (Int.toNat v44_7)))) + (su44 (Int.toNat (Tl (Int.toNat v44_7))))) dX10_countWide_154 rfl ?_
                    refine t_lastX (pc := 155) (t0 := 1) ht33 WL_7 dX10_countWide_155 rfl (by omega) (by omega) (fun hp38 ht39 => ?_)
                    have ht40 := WLw_su ht39
                    have hcg9 := cg_y (z := v25_6) (y := su44 (Int.toNat (Tl (Int.toNat v44_7)))) (b := (Int.toNat (Hd (Int.toNat v44_7)))) (by assumption : cwP gm gdr F T W (vo (Int.toNat x3)).toInt (Int.toNat x2) gn lv25 su25 (v25_6 - 1)) (by assumption : cgP gn Tl Hd By W (vo (Int.toNat x3)).toInt lv25 su25 lv44 su44 (v25_6 - 1) v44_7) (by omega) (by omega) (by omega) (by omega) (by omega) (by omega) (by omega) (by first | exact Or.inl ⟨by omega, rfl⟩ | exact Or.inr ⟨by omega, rfl⟩)
                    refine Rn.pick (lv' := [(0, .ref wa), (1, .ref ga), (3, .int (iv x3)), (4, .ref (wa + 6)), (5, .ref (wa + 7)), (6, .int (iv v25_6)), (7, .int (iv v44_7))]) [2, 3, 4, 5, 6, 7, 8] rfl ?_
                    exact B156 (fup lv44 (Int.toNat (Hd (Int.toNat v44_7))) v25_6) (fuj su44 (Int.toNat (Hd (Int.toNat v44_7))) ((su44 (Int.toNat (Hd (Int.toNat v44_7)))) + (su44 (Int.toNat (Tl (Int.toNat v44_7)))))) _ ht40 ⟨by assumption, by (first | assumption | exact hcg9 | exact cg_n (by assumption) (by omega) (by omega) (by omega) (fun h9 => by have h8 := h9.1; have h7 := h9.2; omega))⟩
        refine Rn.pick (lv' := [(0, .ref wa), (1, .ref ga), (3, .int (iv x3)), (4, .ref (wa + 6)), (5, .ref (wa + 7)), (6, .int (iv v25_6)), (7, .int (iv 0))]) [1, 2, 3, 4, 5, 6, 0] rfl ?_
        exact B44 (Int.toNat (120 - 0)) lv25 su25 _ ht25 0 ⟨by omega, by omega, by assumption, by omega, by (first | assumption | exact cg_0)⟩ (by omega)
  refine Rn.pick (lv' := [(0, .ref wa), (1, .ref ga), (3, .int (iv x3)), (4, .ref (wa + 6)), (5, .ref (wa + 7)), (6, .int (iv 1))]) [1, 2, 4, 5, 6, 0] rfl ?_
  exact B25 (Int.toNat (16 - 1)) (fup (fun _ => (-1)) (Int.toNat x2) 0) (fuj (fun _ => (0 : Int64)) (Int.toNat x2) (1 : Int64)) _ ht12 1 ⟨by omega, by omega, by assumption, by (first | assumption | exact cw_00 (by omega) | exact cw_rd2 (r := v25_6 - 1) hgo hFT (by omega) (by assumption) (by assumption) (by omega) (by omega))⟩ (by omega)
