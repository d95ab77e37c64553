set_option maxHeartbeats 4000000 in
set_option maxRecDepth 100000 in
theorem w_X10_widenAll {D : va_G} {cI cJ cZ cT : ClassId} {lo b L : Nat} {xs : Nat → Int32} {hp : MH} {n d : Nat} {Γ : TG} {ga : Nat} {gF : Nat} {gT : Nat} {gW : Nat} {gC : Nat} {gTl : Nat} {gHd : Nat} {gBy : Nat} {gOu : Nat} {gIn : Nat} {gJo : Nat} {gn : Nat} {gm : Nat} {gq : Nat} {gdr : Int} {F T W C Tl Hd By Ou In Jo : Nat → Int} {wa : Nat} {vs : Nat → Int} {vo : Nat → Int64} {vl : Nat → Int} {vm : Nat → Int64} {vr : Nat → Int} {pos : Nat → Nat} {s9 : Nat} {Po9 : Option Value → MH → Nat → Prop} (hd0 : 0 ≤ d) (hg : TyG Γ cI cJ cZ ga gF gT gW gC gTl gHd gBy gOu gIn gJo gn gm gq gdr) (hltg : ga < wa ∧ gF < wa ∧ gT < wa ∧ gW < wa ∧ gC < wa ∧ gTl < wa ∧ gHd < wa ∧ gBy < wa ∧ gOu < wa ∧ gIn < wa ∧ gJo < wa) (hxg : XG Γ cI gF gT gW gC gTl gHd gBy gOu gIn gJo gn gm gq F T W C Tl Hd By Ou In Jo) (ht : Tw (WE Γ cI cJ cZ cT wa gn vs vo vl vm vr) hp) (hR_vs : Rfx gn 0 2 vs)  (hgo : GoS gm gq gdr F T Tl Hd By pos) (hs9 : s9 < gn) (hlw : wnW gm gdr F T W s9 gn vs vo) (hlb : wnB gm gdr F T W s9 vs vo 0) (hPo : ∀ r hp1 n1, (n1 = n ∧ ∃ (vs1 : Nat → Int) (vo1 : Nat → Int64), Tw (WE Γ cI cJ cZ cT wa gn vs1 vo1 vl vm vr) hp1 ∧ r = none ∧ (Rfx gn 0 2 vs1) ∧ (wnW gm gdr F T W s9 gn vs1 vo1) ∧ (wnB gm gdr F T W s9 vs1 vo1 (gn : Int))) → Po9 r hp1 n1) : Mt (gG D cI cJ cZ cT lo b L xs) mX10_widenAll d 0 0 [.ref wa, .ref ga] hp n Po9 := by
  refine Mt.of rfl (Nat.le_of_ble_eq_true rfl) ?_
  refine Rn.pick (lv' := [(0, .ref wa), (1, .ref ga)]) [0, 1] rfl ?_
  obtain ⟨hg_O, hg_from, hg_to, hg_weight, hg_cost, hg_tail, hg_head, hg_by, hg_out, hg_in, hg_joined, hg_b⟩ := id hg
  obtain ⟨⟨hxg_F, hxg_T, hxg_W, hxg_C, hxg_Tl, hxg_Hd, hxg_By, hxg_Ou, hxg_In, hxg_Jo⟩, ⟨hrg_F, hrg_T, hrg_W, hrg_C, hrg_Tl, hrg_Hd, hrg_By, hrg_Ou, hrg_In, hrg_Jo⟩, houg⟩ := id hxg
  have hgb := hg_b
  have hsq : gn * gn ≤ 256 := Nat.le_trans (Nat.mul_le_mul (show gn ≤ 16 by omega) (show gn ≤ 16 by omega)) (by decide)
  have hFT : ∀ k, k < gm → (0 ≤ F k ∧ F k < (gn : Int)) ∧ (0 ≤ T k ∧ T k < (gn : Int)) := fun k hk => by have h1 := hrg_F k hk; have h2 := hrg_T k hk; omega
  have hW9 : ∀ e, e < gm → -1000 ≤ W e ∧ W e ≤ 1000 := hrg_W
  refine r_iconst (pc := 0) (v := iv 1) dX10_widenAll_0 (by decide) ?_
  refine r_istore_n (pc := 1) (lv' := [(2, .int (iv 1)), (0, .ref wa), (1, .ref ga)]) dX10_widenAll_1 (i := 2) rfl (by decide) rfl ?_
  refine r_iconst (pc := 2) (v := iv 0) dX10_widenAll_2 (by decide) ?_
  refine r_istore_n (pc := 3) (lv' := [(3, .int (iv 0)), (2, .int (iv 1)), (0, .ref wa), (1, .ref ga)]) dX10_widenAll_3 (i := 3) rfl (by decide) rfl ?_
  have B4 : ∀ k : Nat, ∀ vs4 : Nat → Int, ∀ vo4 : Nat → Int64, ∀ hp4 : MH, Tw (WE Γ cI cJ cZ cT wa gn vs4 vo4 vl vm vr) hp4 → ∀  (v4_2 : Int) (v4_3 : Int), 0 ≤ v4_2 ∧ v4_2 ≤ 1 ∧ 0 ≤ v4_3 ∧ v4_3 ≤ 16 ∧ (Rfx gn 0 2 vs4) ∧ (wnW gm gdr F T W s9 gn vs4 vo4) ∧ (wnB gm gdr F T W s9 vs4 vo4 v4_3) ∧ (wnC Tl Hd By W vs4 vo4 v4_2 (gq : Int)) → 16 - v4_3 ≤ (k : Int) → Rn (gG D cI cJ cZ cT lo b L xs) mX10_widenAll d 4 [(0, .ref wa), (1, .ref ga), (2, .int (iv v4_2)), (3, .int (iv v4_3))] [] hp4 n 0 0 Po9 := by
    refine lpS _ ?_
    intro k4 ih4 vs4 vo4 hp4 ht4 v4_2 v4_3 hf4 hm4
    obtain ⟨hf4_0, hf4_1, hf4_2, hf4_3, ha4_4, ha4_5, ha4_6, ha4_7⟩ := hf4
    refine r_iload_n (pc := 4) dX10_widenAll_4 (i := 3) rfl rfl ?_
    refine r_aload_n (pc := 5) dX10_widenAll_5 (i := 0) rfl rfl ?_
    refine t_getE (pc := 6) (.int (iv (gn : Int))) ht4 (rd_of WE_0) fX10_15 dX10_widenAll_6 rfl ?_
    refine t_icmp_ge (pc := 9) (tgt := 137) dX10_widenAll_9 (by decide) (by omega) (by omega) (fun c9 => ?_) (fun c9 => ?_)
    · exact r_vret (pc := 137) dX10_widenAll_137 rfl (hPo _ _ _ ⟨rfl, vs4, vo4, ht4, rfl, (by assumption), (by assumption), (by exact wn_end (r := v4_3) (c := v4_2) hgo (by omega) (by assumption) (by assumption) (by omega))⟩)
    · refine r_iload_n (pc := 12) dX10_widenAll_12 (i := 2) rfl rfl ?_
      refine t_if_eq (pc := 13) (tgt := 137) dX10_widenAll_13 (by decide) (by omega) (fun c13 => ?_) (fun c13 => ?_)
      · exact r_vret (pc := 137) dX10_widenAll_137 rfl (hPo _ _ _ ⟨rfl, vs4, vo4, ht4, rfl, (by assumption), (by assumption), (by exact wn_end (r := v4_3) (c := v4_2) hgo (by omega) (by assumption) (by assumption) (by omega))⟩)
      · refine r_iconst (pc := 16) (v := iv 0) dX10_widenAll_16 (by decide) ?_
        refine r_istore_n (pc := 17) (lv' := [(2, .int (iv 0)), (0, .ref wa), (1, .ref ga), (3, .int (iv v4_3))]) dX10_widenAll_17 (i := 2) rfl (by decide) rfl ?_
        refine r_iconst (pc := 18) (v := iv 0) dX10_widenAll_18 (by decide) ?_
        refine r_istore (pc := 19) (lv' := [(4, .int (iv 0)), (2, .int (iv 0)), (0, .ref wa), (1, .ref ga), (3, .int (iv v4_3))]) dX10_widenAll_19 (by decide) rfl ?_
        have B21 : ∀ k : Nat, ∀ vs21 : Nat → Int, ∀ vo21 : Nat → Int64, ∀ hp21 : MH, Tw (WE Γ cI cJ cZ cT wa gn vs21 vo21 vl vm vr) hp21 → ∀  (v21_2 : Int) (v21_4 : Int), 0 ≤ v21_2 ∧ v21_2 ≤ 1 ∧ 0 ≤ v21_4 ∧ v21_4 ≤ 120 ∧ (Rfx gn 0 2 vs21) ∧ (v21_4 ≤ (gq : Int)) ∧ (wnW gm gdr F T W s9 gn vs21 vo21) ∧ (wnB gm gdr F T W s9 vs21 vo21 v4_3) ∧ (wnG gm gdr F T W s9 Tl Hd By vs21 vo21 v4_3 v21_4) ∧ (wnC Tl Hd By W vs21 vo21 v21_2 v21_4) → 120 - v21_4 ≤ (k : Int) → Rn (gG D cI cJ cZ cT lo b L xs) mX10_widenAll d 21 [(0, .ref wa), (1, .ref ga), (2, .int (iv v21_2)), (3, .int (iv v4_3)), (4, .int (iv v21_4))] [] hp21 n 0 0 Po9 := by
          refine lpS _ ?_
          intro k21 ih21 vs21 vo21 hp21 ht21 v21_2 v21_4 hf21 hm21
          obtain ⟨hf21_0, hf21_1, hf21_2, hf21_3, ha21_4, hf21_5, ha21_6, ha21_7, ha21_8, ha21_9⟩ := hf21
          refine r_iload (pc := 21) dX10_widenAll_21 rfl ?_
          refine r_aload_n (pc := 23) dX10_widenAll_23 (i := 1) rfl rfl ?_
          refine t_getE (pc := 24) (.int (iv (gq : Int))) ht21 (rd_WE (by omega) hg_O) fX10_77 dX10_widenAll_24 rfl ?_
          refine t_icmp_ge (pc := 27) (tgt := 131) dX10_widenAll_27 (by decide) (by omega) (by omega) (fun c27 => ?_) (fun c27 => ?_)
          · refine r_iinc (pc := 131) (v := iv (v4_3 + 1)) (lv' := [(3, .int (iv (v4_3 + 1))), (0, .ref wa), (1, .ref ga), (2, .int (iv v21_2)), (4, .int (iv v21_4))]) dX10_widenAll_131 rfl (iv_add _ _) (by decide) rfl ?_
            refine r_goto (pc := 134) (tgt := 4) dX10_widenAll_134 (by decide) ?_
            refine Rn.pick (lv' := [(0, .ref wa), (1, .ref ga), (2, .int (iv v21_2)), (3, .int (iv (v4_3 + 1)))]) [1, 2, 3, 0] rfl ?_
            exact ih4 (Int.toNat (16 - (v4_3 + 1))) (by omega) vs21 vo21 _ ht21 v21_2 (v4_3 + 1) ⟨by omega, by omega, by omega, by omega, by assumption, by (first | assumption), by (first | assumption | exact wn_rd hgo (by omega) (by assumption) (by assumption) (by omega)), by (first | assumption | exact wnC_1 | exact wnC_le (by assumption) (by omega))⟩ (by omega)
          · refine r_aload_n (pc := 30) dX10_widenAll_30 (i := 1) rfl rfl ?_
            refine t_getE (pc := 31) (.ref gTl) ht21 (rd_WE (by omega) hg_O) fX10_67 dX10_widenAll_31 rfl ?_
            refine r_iload (pc := 34) dX10_widenAll_34 rfl ?_
            refine t_ialdX (pc := 36) (t0 := 0) ht21 (rd_WE (by omega) hxg_Tl) dX10_widenAll_36 rfl (by omega) (by omega) (fun b1 => ?_)
            have rb1 := (show Rfx gq 0 ((gn : Int) - 1) Tl by assumption) (Int.toNat v21_4) (by omega)
            refine r_istore (pc := 37) (lv' := [(5, .int (iv (Tl (Int.toNat v21_4)))), (0, .ref wa), (1, .ref ga), (2, .int (iv v21_2)), (3, .int (iv v4_3)), (4, .int (iv v21_4))]) dX10_widenAll_37 (by decide) rfl ?_
            refine r_aload_n (pc := 39) dX10_widenAll_39 (i := 1) rfl rfl ?_
            refine t_getE (pc := 40) (.ref gHd) ht21 (rd_WE (by omega) hg_O) fX10_70 dX10_widenAll_40 rfl ?_
            refine r_iload (pc := 43) dX10_widenAll_43 rfl ?_
            refine t_ialdX (pc := 45) (t0 := 0) ht21 (rd_WE (by omega) hxg_Hd) dX10_widenAll_45 rfl (by omega) (by omega) (fun b2 => ?_)
            have rb2 := (show Rfx gq 0 ((gn : Int) - 1) Hd by assumption) (Int.toNat v21_4) (by omega)
            refine r_istore (pc := 46) (lv' := [(6, .int (iv (Hd (Int.toNat v21_4)))), (5, .int (iv (Tl (Int.toNat v21_4)))), (0, .ref wa), (1, .ref ga), (2, .int (iv v21_2)), (3, .int (iv v4_3)), (4, .int (iv v21_4))]) dX10_widenAll_46 (by decide) rfl ?_
            refine r_aload_n (pc := 48) dX10_widenAll_48 (i := 0) rfl rfl ?_
            refine t_getE (pc := 49) (.ref (wa + 2)) ht21 (rd_of WE_0) fX10_22 dX10_widenAll_49 rfl ?_
            refine r_iload (pc := 52) dX10_widenAll_52 rfl ?_
            refine t_laldX (pc := 54) (t0 := 1) ht21 (rd_of WE_2) dX10_widenAll_54 rfl (by omega) (by omega) ?_
            refine r_aload_n (pc := 55) dX10_widenAll_55 (i := 1) rfl rfl ?_
            refine t_getE (pc := 56) (.ref gW) ht21 (rd_WE (by omega) hg_O) fX10_61 dX10_widenAll_56 rfl ?_
            refine r_aload_n (pc := 59) dX10_widenAll_59 (i := 1) rfl rfl ?_
            refine t_getE (pc := 60) (.ref gBy) ht21 (rd_WE (by omega) hg_O) fX10_64 dX10_widenAll_60 rfl ?_
            refine r_iload (pc := 63) dX10_widenAll_63 rfl ?_
            refine t_ialdX (pc := 65) (t0 := 0) ht21 (rd_WE (by omega) hxg_By) dX10_widenAll_65 rfl (by omega) (by omega) (fun b3 => ?_)
            have rb3 := (show Rfx gq 0 ((gm : Int) - 1) By by assumption) (Int.toNat v21_4) (by omega)
            refine t_ialdX (pc := 66) (t0 := 0) ht21 (rd_WE (by omega) hxg_W) dX10_widenAll_66 rfl (by omega) (by omega) (fun b4 => ?_)
            have rb4 := (show Rfx gm (-1000) 1000 W by assumption) (Int.toNat (By (Int.toNat v21_4))) (by omega)
            refine r_i2l (pc := 67) (v := (iv (W (Int.toNat (By (Int.toNat v21_4))))).toInt64) dX10_widenAll_67 rfl ?_
            refine r_lmin (pc := 68) (v := if ((iv (W (Int.toNat (By (Int.toNat v21_4))))).toInt64) < (vo21 (Int.toNat (Tl (Int.toNat v21_4)))) then ((iv (W (Int.toNat (By (Int.toNat v21_4))))).toInt64) else (vo21 (Int.toNat (Tl (Int.toNat v21_4))))) qX10_107 dX10_widenAll_68 (Nat.le_of_ble_eq_true rfl) rfl ?_
            have hmn := lmin_i (x := vo21 (Int.toNat (Tl (Int.toNat v21_4)))) (y := (iv (W (Int.toNat (By (Int.toNat v21_4))))).toInt64)
            have hiv := iv_long (x := W (Int.toNat (By (Int.toNat v21_4)))) (by omega)
            generalize hmw : (if ((iv (W (Int.toNat (By (Int.toNat v21_4))))).toInt64) < (vo21 (Int.toNat (Tl (Int.toNat v21_4)))) then ((iv (W (Int.toNat (By (Int.toNat v21_4))))).toInt64) else (vo21 (Int.toNat (Tl (Int.toNat v21_4))))) = mw at hmn
            try rw [hmw]
            refine r_lstore (pc := 71) (lv' := [(7, .long mw), (6, .int (iv (Hd (Int.toNat v21_4)))), (5, .int (iv (Tl (Int.toNat v21_4)))), (0, .ref wa), (1, .ref ga), (2, .int (iv v21_2)), (3, .int (iv v4_3)), (4, .int (iv v21_4))]) dX10_widenAll_71 (by decide) rfl ?_
            refine r_aload_n (pc := 73) dX10_widenAll_73 (i := 0) rfl rfl ?_
            refine t_getE (pc := 74) (.ref (wa + 1)) ht21 (rd_of WE_0) fX10_18 dX10_widenAll_74 rfl ?_
            refine r_iload (pc := 77) dX10_widenAll_77 rfl ?_
            refine t_ialdX (pc := 79) (t0 := 0) ht21 (rd_of WE_1) dX10_widenAll_79 rfl (by omega) (by omega) (fun b6 => ?_)
            have rb6 := (show Rfx gn 0 2 vs21 by assumption) (Int.toNat (Tl (Int.toNat v21_4))) (by omega)
            have B125 : ∀ vs125 : Nat → Int, ∀ vo125 : Nat → Int64, ∀ hp125 : MH, Tw (WE Γ cI cJ cZ cT wa gn vs125 vo125 vl vm vr) hp125 → ∀  (v125_2 : Int), 0 ≤ v125_2 ∧ v125_2 ≤ 1 ∧ (Rfx gn 0 2 vs125) ∧ (wnW gm gdr F T W s9 gn vs125 vo125) ∧ (wnB gm gdr F T W s9 vs125 vo125 v4_3) ∧ (wnG gm gdr F T W s9 Tl Hd By vs125 vo125 v4_3 (v21_4 + 1)) ∧ (wnC Tl Hd By W vs125 vo125 v125_2 (v21_4 + 1)) → Rn (gG D cI cJ cZ cT lo b L xs) mX10_widenAll d 125 [(0, .ref wa), (1, .ref ga), (2, .int (iv v125_2)), (3, .int (iv v4_3)), (4, .int (iv v21_4))] [] hp125 n 0 0 Po9 := by
              intro vs125 vo125 hp125 ht125 v125_2 hf125
              obtain ⟨hf125_0, hf125_1, ha125_2, ha125_3, ha125_4, ha125_5, ha125_6⟩ := hf125
              refine r_iinc (pc := 125) (v := iv (v21_4 + 1)) (lv' := [(4, .int (iv (v21_4 + 1))), (0, .ref wa), (1, .ref ga), (2, .int (iv v125_2)), (3, .int (iv v4_3))]) dX10_widenAll_125 rfl (iv_add _ _) (by decide) rfl ?_
              refine r_goto (pc := 128) (tgt := 21) dX10_widenAll_128 (by decide) ?_
              refine Rn.pick (lv' := [(0, .ref wa), (1, .ref ga), (2, .int (iv v125_2)), (3, .int (iv v4_3)), (4, .int (iv (v21_4 + 1)))]) [1, 2, 3, 4, 0] rfl ?_
              exact ih21 (Int.toNat (120 - (v21_4 + 1))) (by omega) vs125 vo125 _ ht125 v125_2 (v21_4 + 1) ⟨by omega, by omega, by omega, by omega, by assumption, by omega, by (first | assumption), by (first | assumption), by (first | assumption | exact wnG_0), by (first | assumption | exact wnC_0)⟩ (by omega)
            refine t_if_eq (pc := 80) (tgt := 125) dX10_widenAll_80 (by decide) (by omega) (fun c80 => ?_) (fun c80 => ?_)
            · refine Rn.pick (lv' := [(0, .ref wa), (1, .ref ga), (2, .int (iv v21_2)), (3, .int (iv v4_3)), (4, .int (iv v21_4))]) [3, 4, 5, 6, 7] rfl ?_
              exact B125 vs21 vo21 _ ht21 v21_2 ⟨by omega, by omega, by assumption, by (first | assumption), by (first | assumption), by (first | assumption | exact wn_n (by assumption) (by assumption) (by omega) (fun h9 => by unfold wnL at h9; omega)), by (first | assumption | exact wnC_1 | exact wnC_n (by assumption) (by omega) (fun h9 => by unfold wnL at h9; omega))⟩
            · refine r_aload_n (pc := 83) dX10_widenAll_83 (i := 0) rfl rfl ?_
              refine t_getE (pc := 84) (.ref (wa + 1)) ht21 (rd_of WE_0) fX10_18 dX10_widenAll_84 rfl ?_
              refine r_iload (pc := 87) dX10_widenAll_87 rfl ?_
              refine t_ialdX (pc := 89) (t0 := 0) ht21 (rd_of WE_1) dX10_widenAll_89 rfl (by omega) (by omega) (fun b7 => ?_)
              have rb7 := (show Rfx gn 0 2 vs21 by assumption) (Int.toNat (Hd (Int.toNat v21_4))) (by omega)
              refine t_if_eq (pc := 90) (tgt := 106) dX10_widenAll_90 (by decide) (by omega) (fun c90 => ?_) (fun c90 => ?_)
              · refine r_aload_n (pc := 106) dX10_widenAll_106 (i := 0) rfl rfl ?_
                refine t_getE (pc := 107) (.ref (wa + 1)) ht21 (rd_of WE_0) fX10_18 dX10_widenAll_107 rfl ?_
                refine r_iload (pc := 110) dX10_widenAll_110 rfl ?_
                refine r_iconst (pc := 112) (v := iv 1) dX10_widenAll_112 (by decide) ?_
                refine t_iastX (pc := 113) (t0 := 0) ht21 WE_1 dX10_widenAll_113 rfl (by omega) (by omega) (by omega) (fun hp8 ht9 => ?_)
                have ht10 := WEw_vs ht9
                have hqht10 : Rfx gn 0 2 (fup vs21 (Int.toNat (Hd (Int.toNat v21_4))) 1) := Rfx_up (by assumption) (by omega)
                refine r_aload_n (pc := 114) dX10_widenAll_114 (i := 0) rfl rfl ?_
                refine t_getE (pc := 115) (.ref (wa + 2)) ht10 (rd_of WE_0) fX10_22 dX10_widenAll_115 rfl ?_
                refine r_iload (pc := 118) dX10_widenAll_118 rfl ?_
                refine r_lload (pc := 120) dX10_widenAll_120 rfl ?_
                refine t_lastX (pc := 122) (t0 := 1) ht10 WE_2 dX10_widenAll_122 rfl (by omega) (by omega) (fun hp11 ht12 => ?_)
                have ht13 := WEw_vo ht12
                have hl9 : wnL Tl Hd By W vs21 vo21 (Int.toNat v21_4) := ⟨by omega, by omega⟩
                obtain ⟨hB9, hG9⟩ := wn_y (x := mw) (by assumption : wnB gm gdr F T W s9 vs21 vo21 v4_3) (by assumption : wnG gm gdr F T W s9 Tl Hd By vs21 vo21 v4_3 v21_4) (by omega) hl9 (by omega)
                have hW8 := wn_W (x := mw) hgo hFT hW9 (by assumption : wnW gm gdr F T W s9 gn vs21 vo21) (show Int.toNat v21_4 < gq by omega) hl9 (by omega) (by omega)
                refine r_iconst (pc := 123) (v := iv 1) dX10_widenAll_123 (by decide) ?_
                refine r_istore_n (pc := 124) (lv' := [(2, .int (iv 1)), (7, .long mw), (6, .int (iv (Hd (Int.toNat v21_4)))), (5, .int (iv (Tl (Int.toNat v21_4)))), (0, .ref wa), (1, .ref ga), (3, .int (iv v4_3)), (4, .int (iv v21_4))]) dX10_widenAll_124 (i := 2) rfl (by decide) rfl ?_
                refine Rn.pick (lv' := [(0, .ref wa), (1, .ref ga), (2, .int (iv 1)), (3, .int (iv v4_3)), (4, .int (iv v21_4))]) [4, 5, 0, 6, 7] rfl ?_
                exact B125 (fup vs21 (Int.toNat (Hd (Int.toNat v21_4))) 1) (fuj vo21 (Int.toNat (Hd (Int.toNat v21_4))) mw) _ ht13 1 ⟨by omega, by omega, by assumption, by (first | assumption), by (first | assumption), by (first | assumption | exact wn_n (by assumption) (by assumption) (by omega) (fun h9 => by unfold wnL at h9; omega)), by (first | assumption | exact wnC_1 | exact wnC_n (by assumption) (by omega) (fun h9 => by unfold wnL at h9; omega))⟩
              · refine r_lload (pc := 93) dX10_widenAll_93 rfl ?_
                refine r_aload_n (pc := 95) dX10_widenAll_95 (i := 0) rfl rfl ?_
                refine t_getE (pc := 96) (.ref (wa + 2)) ht21 (rd_of WE_0) fX10_22 dX10_widenAll_96 rfl ?_
                refine r_iload (pc := 99) dX10_widenAll_99 rfl ?_
                refine t_laldX (pc := 101) (t0 := 1) ht21 (rd_of WE_2) dX10_widenAll_101 rfl (by omega) (by omega) ?_
                refine r_lcmp (pc := 102) dX10_widenAll_102 ?_
                refine t_lif_le (pc := 103) (tgt := 125) dX10_widenAll_103 (by decide) (fun c103 => ?_) (fun c103 => ?_)
                · refine Rn.pick (lv' := [(0, .ref wa), (1, .ref ga), (2, .int (iv v21_2)), (3, .int (iv v4_3)), (4, .int (iv v21_4))]) [3, 4, 5, 6, 7] rfl ?_
                  exact B125 vs21 vo21 _ ht21 v21_2 ⟨by omega, by omega, by assumption, by (first | assumption), by (first | assumption), by (first | assumption | exact wn_n (by assumption) (by assumption) (by omega) (fun h9 => by unfold wnL at h9; omega)), by (first | assumption | exact wnC_1 | exact wnC_n (by assumption) (by omega) (fun h9 => by unfold wnL at h9; omega))⟩
                · refine r_aload_n (pc := 106) dX10_widenAll_106 (i := 0) rfl rfl ?_
                  refine t_getE (pc := 107) (.ref (wa + 1)) ht21 (rd_of WE_0) fX10_18 dX10_widenAll_107 rfl ?_
                  refine r_iload (pc := 110) dX10_widenAll_110 rfl ?_
                  refine r_iconst (pc := 112) (v := iv 1) dX10_widenAll_112 (by decide) ?_
                  refine t_iastX (pc := 113) (t0 := 0) ht21 WE_1 dX10_widenAll_113 rfl (by omega) (by omega) (by omega) (fun hp14 ht15 => ?_)
                  have ht16 := WEw_vs ht15
                  have hqht16 : Rfx gn 0 2 (fup vs21 (Int.toNat (Hd (Int.toNat v21_4))) 1) := Rfx_up (by assumption) (by omega)
                  refine r_aload_n (pc := 114) dX10_widenAll_114 (i := 0) rfl rfl ?_
                  refine t_getE (pc := 115) (.ref (wa + 2)) ht16 (rd_of WE_0) fX10_22 dX10_widenAll_115 rfl ?_
                  refine r_iload (pc := 118) dX10_widenAll_118 rfl ?_
                  refine r_lload (pc := 120) dX10_widenAll_120 rfl ?_
                  refine t_lastX (pc := 122) (t0 := 1) ht16 WE_2 dX10_widenAll_122 rfl (by omega) (by omega) (fun hp17 ht18 => ?_)
                  have ht19 := WEw_vo ht18
                  have hl9 : wnL Tl Hd By W vs21 vo21 (Int.toNat v21_4) := ⟨by omega, by omega⟩
                  obtain ⟨hB9, hG9⟩ := wn_y (x := mw) (by assumption : wnB gm gdr F T W s9 vs21 vo21 v4_3) (by assumption : wnG gm gdr F T W s9 Tl Hd By vs21 vo21 v4_3 v21_4) (by omega) hl9 (by omega)
                  have hW8 := wn_W (x := mw) hgo hFT hW9 (by assumption : wnW gm gdr F T W s9 gn vs21 vo21) (show Int.toNat v21_4 < gq by omega) hl9 (by omega) (by omega)
                  refine r_iconst (pc := 123) (v := iv 1) dX10_widenAll_123 (by decide) ?_
                  refine r_istore_n (pc := 124) (lv' := [(2, .int (iv 1)), (7, .long mw), (6, .int (iv (Hd (Int.toNat v21_4)))), (5, .int (iv (Tl (Int.toNat v21_4)))), (0, .ref wa), (1, .ref ga), (3, .int (iv v4_3)), (4, .int (iv v21_4))]) dX10_widenAll_124 (i := 2) rfl (by decide) rfl ?_
                  refine Rn.pick (lv' := [(0, .ref wa), (1, .ref ga), (2, .int (iv 1)), (3, .int (iv v4_3)), (4, .int (iv v21_4))]) [4, 5, 0, 6, 7] rfl ?_
                  exact B125 (fup vs21 (Int.toNat (Hd (Int.toNat v21_4))) 1) (fuj vo21 (Int.toNat (Hd (Int.toNat v21_4))) mw) _ ht19 1 ⟨by omega, by omega, by assumption, by (first | assumption), by (first | assumption), by (first | assumption | exact wn_n (by assumption) (by assumption) (by omega) (fun h9 => by unfold wnL at h9; omega)), by (first | assumption | exact wnC_1 | exact wnC_n (by assumption) (by omega) (fun h9 => by unfold wnL at h9; omega))⟩
        refine Rn.pick (lv' := [(0, .ref wa), (1, .ref ga), (2, .int (iv 0)), (3, .int (iv v4_3)), (4, .int (iv 0))]) [2, 3, 1, 4, 0] rfl ?_
        exact B21 (Int.toNat (120 - 0)) vs4 vo4 _ ht4 0 0 ⟨by omega, by omega, by omega, by omega, by assumption, by omega, by (first | assumption), by (first | assumption), by (first | assumption | exact wnG_0), by (first | assumption | exact wnC_0)⟩ (by omega)
  refine Rn.pick (lv' := [(0, .ref wa), (1, .ref ga), (2, .int (iv 1)), (3, .int (iv 0))]) [2, 3, 1, 0] rfl ?_
  exact B4 (Int.toNat (16 - 0)) vs vo _ ht 1 0 ⟨by omega, by omega, by omega, by omega, by assumption, by (first | assumption), by (first | assumption | exact wn_rd hgo (by omega) (by assumption) (by assumption) (by omega)), by (first | assumption | exact wnC_1 | exact wnC_le (by assumption) (by omega))⟩ (by omega)
