set_option maxHeartbeats 4000000 in
set_option maxRecDepth 100000 in
theorem w_X10_followBack {D : va_G} {cI cJ cZ cT : ClassId} {lo b L : Nat} {xs : Nat → Int32} {hp : MH} {n d : Nat} {Γ : TG} {ga : Nat} {gF : Nat} {gT : Nat} {gW : Nat} {gC : Nat} {gTl : Nat} {gHd : Nat} {gBy : Nat} {gOu : Nat} {gIn : Nat} {gJo : Nat} {gn : Nat} {gm : Nat} {gq : Nat} {gdr : Int} {F T W C Tl Hd By Ou In Jo : Nat → Int} {wa : Nat} {vs : Nat → Int} {vo : Nat → Int64} {vl : Nat → Int} {vm : Nat → Int64} {vr : Nat → Int} {lv : Nat → Int} {su : Nat → Int64} {x2 : Int} {pos : Nat → Nat} {s9 : Nat} {r9 : Int} {Po9 : Option Value → MH → Nat → Prop} (hd0 : 0 ≤ d) (hg : TyG Γ cI cJ cZ ga gF gT gW gC gTl gHd gBy gOu gIn gJo gn gm gq gdr) (hltg : ga < wa ∧ gF < wa ∧ gT < wa ∧ gW < wa ∧ gC < wa ∧ gTl < wa ∧ gHd < wa ∧ gBy < wa ∧ gOu < wa ∧ gIn < wa ∧ gJo < wa) (hxg : XG Γ cI gF gT gW gC gTl gHd gBy gOu gIn gJo gn gm gq F T W C Tl Hd By Ou In Jo) (ht : Tw (WL Γ cI cJ cZ cT wa gn vs vo vl vm vr lv su) hp) (hR_vl : Rfx gn (-1) ((gn : Int) - 1) vl) (hR_vr : Rfx (gn * gn) 0 59 vr) (hR_lv : Rfx gn (-1) 16 lv) (hx2 : 0 ≤ x2 ∧ x2 ≤ 15) (hgo : GoS gm gq gdr F T Tl Hd By pos) (hcw : cwP gm gdr F T W (vo (Int.toNat x2)).toInt s9 gn lv su r9) (hx9 : x2 < (gn : Int)) (hL9 : vl (Int.toNat x2) = lv (Int.toNat x2) ∧ 0 ≤ lv (Int.toNat x2) ∧ lv (Int.toNat x2) < (gn : Int)) (hPo : ∀ r hp1 n1, (n1 = n ∧ ∃ (vr1 : Nat → Int), Tw (WL Γ cI cJ cZ cT wa gn vs vo vl vm vr1 lv su) hp1 ∧ r = none ∧ (tcP gm gdr F T W 2 (vo (Int.toNat x2)).toInt s9 (Int.toNat (vl (Int.toNat x2))) x2 (fun i => vr1 ((Int.toNat x2) * gn + i))) ∧ (rwO gn vr vr1 (Int.toNat x2)) ∧ (Rfx (gn * gn) 0 59 vr1)) → Po9 r hp1 n1) : Mt (gG D cI cJ cZ cT lo b L xs) mX10_followBack d 0 0 [.ref wa, .ref ga, .int (iv x2), .ref (wa + 6)] hp n Po9 := by
  refine Mt.of rfl (Nat.le_of_ble_eq_true rfl) ?_
  refine Rn.pick (lv' := [(0, .ref wa), (1, .ref ga), (2, .int (iv x2)), (3, .ref (wa + 6))]) [0, 1, 2, 3] rfl ?_
  obtain ⟨hg_O, hg_from, hg_to, hg_weight, hg_cost, hg_tail, hg_head, hg_by, hg_out, hg_in, hg_joined, hg_b⟩ := id hg
  obtain ⟨⟨hxg_F, hxg_T, hxg_W, hxg_C, hxg_Tl, hxg_Hd, hxg_By, hxg_Ou, hxg_In, hxg_Jo⟩, ⟨hrg_F, hrg_T, hrg_W, hrg_C, hrg_Tl, hrg_Hd, hrg_By, hrg_Ou, hrg_In, hrg_Jo⟩, houg⟩ := id hxg
  have hgb := hg_b
  have hsq : gn * gn ≤ 256 := Nat.le_trans (Nat.mul_le_mul (show gn ≤ 16 by omega) (show gn ≤ 16 by omega)) (by decide)
  have hFT : ∀ k, k < gm → (0 ≤ F k ∧ F k < (gn : Int)) ∧ (0 ≤ T k ∧ T k < (gn : Int)) := fun k hk => by have h1 := hrg_F k hk; have h2 := hrg_T k hk; omega
  have hW9 : ∀ e, e < gm → -1000 ≤ W e ∧ W e ≤ 1000 := hrg_W
  refine r_iload_n (pc := 0) dX10_followBack_0 (i := 2) rfl rfl ?_
  refine r_istore (pc := 1) (lv' := [(4, .int (iv x2)), (0, .ref wa), (1, .ref ga), (2, .int (iv x2)), (3, .ref (wa + 6))]) dX10_followBack_1 (by decide) rfl ?_
  refine r_aload_n (pc := 3) dX10_followBack_3 (i := 0) rfl rfl ?_
  refine t_getE (pc := 4) (.ref (wa + 3)) ht (rd_of WL_0) fX10_26 dX10_followBack_4 rfl ?_
  refine r_iload_n (pc := 7) dX10_followBack_7 (i := 2) rfl rfl ?_
  refine t_ialdX (pc := 8) (t0 := 0) ht (rd_of WL_3) dX10_followBack_8 rfl (by omega) (by omega) (fun b1 => ?_)
  have rb1 := (show Rfx gn (-1) ((gn : Int) - 1) vl by assumption) (Int.toNat x2) (by omega)
  refine r_iconst (pc := 9) (v := iv 1) dX10_followBack_9 (by decide) ?_
  refine r_isub (pc := 10) (v := iv ((vl (Int.toNat x2)) - 1)) dX10_followBack_10 (iv_sub _ _) ?_
  refine r_istore (pc := 11) (lv' := [(5, .int (iv ((vl (Int.toNat x2)) - 1))), (4, .int (iv x2)), (0, .ref wa), (1, .ref ga), (2, .int (iv x2)), (3, .ref (wa + 6))]) dX10_followBack_11 (by decide) rfl ?_
  have B13 : ∀ k : Nat, ∀ vr13 : Nat → Int, ∀ hp13 : MH, Tw (WL Γ cI cJ cZ cT wa gn vs vo vl vm vr13 lv su) hp13 → ∀  (v13_4 : Int) (v13_5 : Int), 0 ≤ v13_4 ∧ v13_4 ≤ 15 ∧ (-1) ≤ v13_5 ∧ v13_5 ≤ 14 ∧ v13_5 ≤ (vl (Int.toNat x2)) - 1 ∧ (Rfx (gn * gn) 0 59 vr13) ∧ (v13_4 < (gn : Int)) ∧ (v13_5 < (gn : Int)) ∧ (lv (Int.toNat v13_4) = v13_5 + 1) ∧ (v13_5 < vl (Int.toNat x2)) ∧ (tcC gm gdr F T W 2 (vo (Int.toNat x2)).toInt s9 (vl (Int.toNat x2)) x2 (v13_5 + 1) v13_4 (fun i => vr13 ((Int.toNat x2) * gn + i))) ∧ (rwO gn vr vr13 (Int.toNat x2)) → v13_5 - (-1) ≤ (k : Int) → Rn (gG D cI cJ cZ cT lo b L xs) mX10_followBack d 13 [(0, .ref wa), (1, .ref ga), (2, .int (iv x2)), (3, .ref (wa + 6)), (4, .int (iv v13_4)), (5, .int (iv v13_5))] [] hp13 n 0 0 Po9 := by
    refine lpS _ ?_
    intro k13 ih13 vr13 hp13 ht13 v13_4 v13_5 hf13 hm13
    obtain ⟨hf13_0, hf13_1, hf13_2, hf13_3, hf13_4, ha13_5, hf13_6, hf13_7, hf13_8, hf13_9, ha13_10, ha13_11⟩ := hf13
    refine r_iload (pc := 13) dX10_followBack_13 rfl ?_
    refine t_if_lt (pc := 15) (tgt := 150) dX10_followBack_15 (by decide) (by omega) (fun c15 => ?_) (fun c15 => ?_)
    · exact r_vret (pc := 150) dX10_followBack_150 rfl (hPo _ _ _ ⟨rfl, vr13, ht13, rfl, (by exact tcc_end (by assumption) (by omega)), (by assumption), (by assumption)⟩)
    · refine r_iconst (pc := 18) (v := iv (-1)) dX10_followBack_18 (by decide) ?_
      refine r_istore (pc := 19) (lv' := [(6, .int (iv (-1))), (0, .ref wa), (1, .ref ga), (2, .int (iv x2)), (3, .ref (wa + 6)), (4, .int (iv v13_4)), (5, .int (iv v13_5))]) dX10_followBack_19 (by decide) rfl ?_
      refine r_iconst (pc := 21) (v := iv 0) dX10_followBack_21 (by decide) ?_
      refine r_istore (pc := 22) (lv' := [(7, .int (iv 0)), (6, .int (iv (-1))), (0, .ref wa), (1, .ref ga), (2, .int (iv x2)), (3, .ref (wa + 6)), (4, .int (iv v13_4)), (5, .int (iv v13_5))]) dX10_followBack_22 (by decide) rfl ?_
      have B24 : ∀ k : Nat, ∀ hp24 : MH, Tw (WL Γ cI cJ cZ cT wa gn vs vo vl vm vr13 lv su) hp24 → ∀  (v24_6 : Int) (v24_7 : Int), (-1) ≤ v24_6 ∧ v24_6 ≤ 119 ∧ 0 ≤ v24_7 ∧ v24_7 ≤ 120 ∧ (v24_7 ≤ (gq : Int)) ∧ (v24_6 < (gq : Int)) ∧ (fbQ Tl Hd By W (vo (Int.toNat x2)).toInt lv (Int.toNat v13_4) v13_5 v24_6 v24_7) → 120 - v24_7 ≤ (k : Int) → Rn (gG D cI cJ cZ cT lo b L xs) mX10_followBack d 24 [(0, .ref wa), (1, .ref ga), (2, .int (iv x2)), (3, .ref (wa + 6)), (4, .int (iv v13_4)), (5, .int (iv v13_5)), (6, .int (iv v24_6)), (7, .int (iv v24_7))] [] hp24 n 0 0 Po9 := by
        refine lpS _ ?_
        intro k24 ih24 hp24 ht24 v24_6 v24_7 hf24 hm24
        obtain ⟨hf24_0, hf24_1, hf24_2, hf24_3, hf24_4, hf24_5, ha24_6⟩ := hf24
        refine r_iload (pc := 24) dX10_followBack_24 rfl ?_
        refine r_aload_n (pc := 26) dX10_followBack_26 (i := 1) rfl rfl ?_
        refine t_getE (pc := 27) (.int (iv (gq : Int))) ht24 (rd_WL (by omega) hg_O) fX10_77 dX10_followBack_27 rfl ?_
        refine t_icmp_ge (pc := 30) (tgt := 109) dX10_followBack_30 (by decide) (by omega) (by omega) (fun c30 => ?_) (fun c30 => ?_)
        · refine r_iload (pc := 109) dX10_followBack_109 rfl ?_
          obtain ⟨hfe1, hfe2, hfe3, hfe4, hfe5, hfe6, hfe7⟩ := fbq_end (u := Int.toNat v13_4) (pl := v13_5) (la := v24_6) (k := v24_7) hgo hFT hcw (by omega) (by omega) (by omega) (by assumption) (by omega) (by omega)
          rw [Int.toNat_of_nonneg (show 0 ≤ v13_4 by omega)] at hfe3 hfe4 hfe5
          refine t_if_lt (pc := 111) (tgt := 144) dX10_followBack_111 (by decide) (by omega) (fun c111 => ?_) (fun c111 => ?_)
          · exfalso
            omega
          · refine r_aload_n (pc := 114) dX10_followBack_114 (i := 0) rfl rfl ?_
            refine t_getE (pc := 115) (.ref (wa + 5)) ht24 (rd_of WL_0) fX10_32 dX10_followBack_115 rfl ?_
            refine r_iload_n (pc := 118) dX10_followBack_118 (i := 2) rfl rfl ?_
            refine r_aload_n (pc := 119) dX10_followBack_119 (i := 0) rfl rfl ?_
            refine t_getE (pc := 120) (.int (iv (gn : Int))) ht24 (rd_of WL_0) fX10_15 dX10_followBack_120 rfl ?_
            have hmul123 := mul_nn (n := gn) (u := x2) (by omega) (by omega)
            refine r_imul (pc := 123) (v := iv (x2 * (gn : Int))) dX10_followBack_123 (iv_mul _ _) ?_
            refine r_iload (pc := 124) dX10_followBack_124 rfl ?_
            refine r_iadd (pc := 126) (v := iv ((x2 * (gn : Int)) + v13_5)) dX10_followBack_126 (iv_add _ _) ?_
            refine r_aload_n (pc := 127) dX10_followBack_127 (i := 1) rfl rfl ?_
            refine t_getE (pc := 128) (.ref gBy) ht24 (rd_WL (by omega) hg_O) fX10_64 dX10_followBack_128 rfl ?_
            refine r_iload (pc := 131) dX10_followBack_131 rfl ?_
            refine t_ialdX (pc := 133) (t0 := 0) ht24 (rd_WL (by omega) hxg_By) dX10_followBack_133 rfl (by omega) (by omega) (fun b2 => ?_)
            have rb2 := (show Rfx gq 0 ((gm : Int) - 1) By by assumption) (Int.toNat v24_6) (by omega)
            refine t_iastX (pc := 134) (t0 := 0) ht24 WL_5 dX10_followBack_134 rfl (by omega) (by omega) (by omega) (fun hp3 ht4 => ?_)
            have ht5 := WLw_vr ht4
            have hqht5 : Rfx (gn * gn) 0 59 (fup vr13 (Int.toNat ((x2 * (gn : Int)) + v13_5)) (By (Int.toNat v24_6))) := Rfx_up (by assumption) (by omega)
            have htc9 := tcc_up (n := gn) (by assumption : tcC gm gdr F T W 2 (vo (Int.toNat x2)).toInt s9 (vl (Int.toNat x2)) x2 (v13_5 + 1) v13_4 (fun i => vr13 ((Int.toNat x2) * gn + i))) (by omega) (by omega) hfe2 hfe3 hfe4 rfl hfe5
            have hro9 := rwO_up (e := By (Int.toNat v24_6)) (i := v13_5) (by assumption : rwO gn vr vr13 (Int.toNat x2)) (by omega) (by omega) rfl
            refine r_aload_n (pc := 135) dX10_followBack_135 (i := 1) rfl rfl ?_
            refine t_getE (pc := 136) (.ref gTl) ht5 (rd_WL (by omega) hg_O) fX10_67 dX10_followBack_136 rfl ?_
            refine r_iload (pc := 139) dX10_followBack_139 rfl ?_
            refine t_ialdX (pc := 141) (t0 := 0) ht5 (rd_WL (by omega) hxg_Tl) dX10_followBack_141 rfl (by omega) (by omega) (fun b6 => ?_)
            have rb6 := (show Rfx gq 0 ((gn : Int) - 1) Tl by assumption) (Int.toNat v24_6) (by omega)
            refine r_istore (pc := 142) (lv' := [(4, .int (iv (Tl (Int.toNat v24_6)))), (0, .ref wa), (1, .ref ga), (2, .int (iv x2)), (3, .ref (wa + 6)), (5, .int (iv v13_5)), (6, .int (iv v24_6)), (7, .int (iv v24_7))]) dX10_followBack_142 (by decide) rfl ?_
            refine r_iinc (pc := 144) (v := iv (v13_5 - 1)) (lv' := [(5, .int (iv (v13_5 - 1))), (4, .int (iv (Tl (Int.toNat v24_6)))), (0, .ref wa), (1, .ref ga), (2, .int (iv x2)), (3, .ref (wa + 6)), (6, .int (iv v24_6)), (7, .int (iv v24_7))]) dX10_followBack_144 rfl ((iv_add _ _).trans (congrArg iv (show v13_5 + (-1) = v13_5 - 1 by omega))) (by decide) rfl ?_
            refine r_goto (pc := 147) (tgt := 13) dX10_followBack_147 (by decide) ?_
            refine Rn.pick (lv' := [(0, .ref wa), (1, .ref ga), (2, .int (iv x2)), (3, .ref (wa + 6)), (4, .int (iv (Tl (Int.toNat v24_6)))), (5, .int (iv (v13_5 - 1)))]) [2, 3, 4, 5, 1, 0] rfl ?_
            exact ih13 (Int.toNat ((v13_5 - 1) - (-1))) (by omega) (fup vr13 (Int.toNat ((x2 * (gn : Int)) + v13_5)) (By (Int.toNat v24_6))) _ ht5 (Tl (Int.toNat v24_6)) (v13_5 - 1) ⟨by omega, by omega, by omega, by omega, by omega, by assumption, by omega, by omega, by omega, by omega, by (first | assumption | exact tcc_00 (by omega)), by (first | assumption | exact rwO_0)⟩ (by omega)
        · refine r_iload (pc := 33) dX10_followBack_33 rfl ?_
          refine t_if_ge (pc := 35) (tgt := 109) dX10_followBack_35 (by decide) (by omega) (fun c35 => ?_) (fun c35 => ?_)
          · refine r_iload (pc := 109) dX10_followBack_109 rfl ?_
            obtain ⟨hfe1, hfe2, hfe3, hfe4, hfe5, hfe6, hfe7⟩ := fbq_end (u := Int.toNat v13_4) (pl := v13_5) (la := v24_6) (k := v24_7) hgo hFT hcw (by omega) (by omega) (by omega) (by assumption) (by omega) (by omega)
            rw [Int.toNat_of_nonneg (show 0 ≤ v13_4 by omega)] at hfe3 hfe4 hfe5
            refine t_if_lt (pc := 111) (tgt := 144) dX10_followBack_111 (by decide) (by omega) (fun c111 => ?_) (fun c111 => ?_)
            · exfalso
              omega
            · refine r_aload_n (pc := 114) dX10_followBack_114 (i := 0) rfl rfl ?_
              refine t_getE (pc := 115) (.ref (wa + 5)) ht24 (rd_of WL_0) fX10_32 dX10_followBack_115 rfl ?_
              refine r_iload_n (pc := 118) dX10_followBack_118 (i := 2) rfl rfl ?_
              refine r_aload_n (pc := 119) dX10_followBack_119 (i := 0) rfl rfl ?_
              refine t_getE (pc := 120) (.int (iv (gn : Int))) ht24 (rd_of WL_0) fX10_15 dX10_followBack_120 rfl ?_
              have hmul123 := mul_nn (n := gn) (u := x2) (by omega) (by omega)
              refine r_imul (pc := 123) (v := iv (x2 * (gn : Int))) dX10_followBack_123 (iv_mul _ _) ?_
              refine r_iload (pc := 124) dX10_followBack_124 rfl ?_
              refine r_iadd (pc := 126) (v := iv ((x2 * (gn : Int)) + v13_5)) dX10_followBack_126 (iv_add _ _) ?_
              refine r_aload_n (pc := 127) dX10_followBack_127 (i := 1) rfl rfl ?_
              refine t_getE (pc := 128) (.ref gBy) ht24 (rd_WL (by omega) hg_O) fX10_64 dX10_followBack_128 rfl ?_
              refine r_iload (pc := 131) dX10_followBack_131 rfl ?_
              refine t_ialdX (pc := 133) (t0 := 0) ht24 (rd_WL (by omega) hxg_By) dX10_followBack_133 rfl (by omega) (by omega) (fun b7 => ?_)
              have rb7 := (show Rfx gq 0 ((gm : Int) - 1) By by assumption) (Int.toNat v24_6) (by omega)
              refine t_iastX (pc := 134) (t0 := 0) ht24 WL_5 dX10_followBack_134 rfl (by omega) (by omega) (by omega) (fun hp8 ht9 => ?_)
              have ht10 := WLw_vr ht9
              have hqht10 : Rfx (gn * gn) 0 59 (fup vr13 (Int.toNat ((x2 * (gn : Int)) + v13_5)) (By (Int.toNat v24_6))) := Rfx_up (by assumption) (by omega)
              have htc9 := tcc_up (n := gn) (by assumption : tcC gm gdr F T W 2 (vo (Int.toNat x2)).toInt s9 (vl (Int.toNat x2)) x2 (v13_5 + 1) v13_4 (fun i => vr13 ((Int.toNat x2) * gn + i))) (by omega) (by omega) hfe2 hfe3 hfe4 rfl hfe5
              have hro9 := rwO_up (e := By (Int.toNat v24_6)) (i := v13_5) (by assumption : rwO gn vr vr13 (Int.toNat x2)) (by omega) (by omega) rfl
              refine r_aload_n (pc := 135) dX10_followBack_135 (i := 1) rfl rfl ?_
              refine t_getE (pc := 136) (.ref gTl) ht10 (rd_WL (by omega) hg_O) fX10_67 dX10_followBack_136 rfl ?_
              refine r_iload (pc := 139) dX10_followBack_139 rfl ?_
              refine t_ialdX (pc := 141) (t0 := 0) ht10 (rd_WL (by omega) hxg_Tl) dX10_followBack_141 rfl (by omega) (by omega) (fun b11 => ?_)
              have rb11 := (show Rfx gq 0 ((gn : Int) - 1) Tl by assumption) (Int.toNat v24_6) (by omega)
              refine r_istore (pc := 142) (lv' := [(4, .int (iv (Tl (Int.toNat v24_6)))), (0, .ref wa), (1, .ref ga), (2, .int (iv x2)), (3, .ref (wa + 6)), (5, .int (iv v13_5)), (6, .int (iv v24_6)), (7, .int (iv v24_7))]) dX10_followBack_142 (by decide) rfl ?_
              refine r_iinc (pc := 144) (v := iv (v13_5 - 1)) (lv' := [(5, .int (iv (v13_5 - 1))), (4, .int (iv (Tl (Int.toNat v24_6)))), (0, .ref wa), (1, .ref ga), (2, .int (iv x2)), (3, .ref (wa + 6)), (6, .int (iv v24_6)), (7, .int (iv v24_7))]) dX10_followBack_144 rfl ((iv_add _ _).trans (congrArg iv (show v13_5 + (-1) = v13_5 - 1 by omega))) (by decide) rfl ?_
              refine r_goto (pc := 147) (tgt := 13) dX10_followBack_147 (by decide) ?_
              refine Rn.pick (lv' := [(0, .ref wa), (1, .ref ga), (2, .int (iv x2)), (3, .ref (wa + 6)), (4, .int (iv (Tl (Int.toNat v24_6)))), (5, .int (iv (v13_5 - 1)))]) [2, 3, 4, 5, 1, 0] rfl ?_
              exact ih13 (Int.toNat ((v13_5 - 1) - (-1))) (by omega) (fup vr13 (Int.toNat ((x2 * (gn : Int)) + v13_5)) (By (Int.toNat v24_6))) _ ht10 (Tl (Int.toNat v24_6)) (v13_5 - 1) ⟨by omega, by omega, by omega, by omega, by omega, by assumption, by omega, by omega, by omega, by omega, by (first | assumption | exact tcc_00 (by omega)), by (first | assumption | exact rwO_0)⟩ (by omega)
          · refine r_aload_n (pc := 38) dX10_followBack_38 (i := 1) rfl rfl ?_
            refine t_getE (pc := 39) (.ref gW) ht24 (rd_WL (by omega) hg_O) fX10_61 dX10_followBack_39 rfl ?_
            refine r_aload_n (pc := 42) dX10_followBack_42 (i := 1) rfl rfl ?_
            refine t_getE (pc := 43) (.ref gBy) ht24 (rd_WL (by omega) hg_O) fX10_64 dX10_followBack_43 rfl ?_
            refine r_iload (pc := 46) dX10_followBack_46 rfl ?_
            refine t_ialdX (pc := 48) (t0 := 0) ht24 (rd_WL (by omega) hxg_By) dX10_followBack_48 rfl (by omega) (by omega) (fun b12 => ?_)
            have rb12 := (show Rfx gq 0 ((gm : Int) - 1) By by assumption) (Int.toNat v24_7) (by omega)
            refine t_ialdX (pc := 49) (t0 := 0) ht24 (rd_WL (by omega) hxg_W) dX10_followBack_49 rfl (by omega) (by omega) (fun b13 => ?_)
            have rb13 := (show Rfx gm (-1000) 1000 W by assumption) (Int.toNat (By (Int.toNat v24_7))) (by omega)
            refine r_i2l (pc := 50) (v := (iv (W (Int.toNat (By (Int.toNat v24_7))))).toInt64) dX10_followBack_50 rfl ?_
            have hiv := iv_long (x := W (Int.toNat (By (Int.toNat v24_7)))) (by omega)
            refine r_aload_n (pc := 51) dX10_followBack_51 (i := 0) rfl rfl ?_
            refine t_getE (pc := 52) (.ref (wa + 2)) ht24 (rd_of WL_0) fX10_22 dX10_followBack_52 rfl ?_
            refine r_iload_n (pc := 55) dX10_followBack_55 (i := 2) rfl rfl ?_
            refine t_laldX (pc := 56) (t0 := 1) ht24 (rd_of WL_2) dX10_followBack_56 rfl (by omega) (by omega) ?_
            refine r_lcmp (pc := 57) dX10_followBack_57 ?_
            refine t_lif_lt (pc := 58) (tgt := 65) dX10_followBack_58 (by decide) (fun c58 => ?_) (fun c58 => ?_)
            · refine r_iconst (pc := 65) (v := iv 0) dX10_followBack_65 (by decide) ?_
              refine r_istore (pc := 66) (lv' := [(8, .int (iv 0)), (0, .ref wa), (1, .ref ga), (2, .int (iv x2)), (3, .ref (wa + 6)), (4, .int (iv v13_4)), (5, .int (iv v13_5)), (6, .int (iv v24_6)), (7, .int (iv v24_7))]) dX10_followBack_66 (by decide) rfl ?_
              refine r_aload_n (pc := 68) dX10_followBack_68 (i := 1) rfl rfl ?_
              refine t_getE (pc := 69) (.ref gHd) ht24 (rd_WL (by omega) hg_O) fX10_70 dX10_followBack_69 rfl ?_
              refine r_iload (pc := 72) dX10_followBack_72 rfl ?_
              refine t_ialdX (pc := 74) (t0 := 0) ht24 (rd_WL (by omega) hxg_Hd) dX10_followBack_74 rfl (by omega) (by omega) (fun b14 => ?_)
              have rb14 := (show Rfx gq 0 ((gn : Int) - 1) Hd by assumption) (Int.toNat v24_7) (by omega)
              refine r_iload (pc := 75) dX10_followBack_75 rfl ?_
              have B103 : ∀ hp103 : MH, Tw (WL Γ cI cJ cZ cT wa gn vs vo vl vm vr13 lv su) hp103 → ∀  (v103_6 : Int), (-1) ≤ v103_6 ∧ v103_6 ≤ 119 ∧ (v103_6 < (gq : Int)) ∧ (fbQ Tl Hd By W (vo (Int.toNat x2)).toInt lv (Int.toNat v13_4) v13_5 v103_6 (v24_7 + 1)) → Rn (gG D cI cJ cZ cT lo b L xs) mX10_followBack d 103 [(0, .ref wa), (1, .ref ga), (2, .int (iv x2)), (3, .ref (wa + 6)), (4, .int (iv v13_4)), (5, .int (iv v13_5)), (6, .int (iv v103_6)), (7, .int (iv v24_7))] [] hp103 n 0 0 Po9 := by
                intro hp103 ht103 v103_6 hf103
                obtain ⟨hf103_0, hf103_1, hf103_2, ha103_3⟩ := hf103
                refine r_iinc (pc := 103) (v := iv (v24_7 + 1)) (lv' := [(7, .int (iv (v24_7 + 1))), (0, .ref wa), (1, .ref ga), (2, .int (iv x2)), (3, .ref (wa + 6)), (4, .int (iv v13_4)), (5, .int (iv v13_5)), (6, .int (iv v103_6))]) dX10_followBack_103 rfl (iv_add _ _) (by decide) rfl ?_
                refine r_goto (pc := 106) (tgt := 24) dX10_followBack_106 (by decide) ?_
                refine Rn.pick (lv' := [(0, .ref wa), (1, .ref ga), (2, .int (iv x2)), (3, .ref (wa + 6)), (4, .int (iv v13_4)), (5, .int (iv v13_5)), (6, .int (iv v103_6)), (7, .int (iv (v24_7 + 1)))]) [1, 2, 3, 4, 5, 6, 7, 0] rfl ?_
                exact ih24 (Int.toNat (120 - (v24_7 + 1))) (by omega) _ ht103 v103_6 (v24_7 + 1) ⟨by omega, by omega, by omega, by omega, by omega, by omega, by (first | assumption | exact fbq_0)⟩ (by omega)
              refine t_icmp_ne (pc := 77) (tgt := 103) dX10_followBack_77 (by decide) (by omega) (by omega) (fun c77 => ?_) (fun c77 => ?_)
              · refine Rn.pick (lv' := [(0, .ref wa), (1, .ref ga), (2, .int (iv x2)), (3, .ref (wa + 6)), (4, .int (iv v13_4)), (5, .int (iv v13_5)), (6, .int (iv v24_6)), (7, .int (iv v24_7))]) [1, 2, 3, 4, 5, 6, 7, 8] rfl ?_
                exact B103 _ ht24 v24_6 ⟨by omega, by omega, by omega, by (first | assumption | exact fbq_y (by assumption) (by omega) (by omega) ⟨by omega, by omega, by omega⟩ | exact fbq_n (by assumption) (by omega) (by omega) (fun h9 => by have h8 := h9.1; have h7 := h9.2.1; have h6 := h9.2.2; omega))⟩
              · refine r_iload (pc := 80) dX10_followBack_80 rfl ?_
                refine t_if_eq (pc := 82) (tgt := 103) dX10_followBack_82 (by decide) (by omega) (fun c82 => ?_) (fun c82 => ?_)
                · refine Rn.pick (lv' := [(0, .ref wa), (1, .ref ga), (2, .int (iv x2)), (3, .ref (wa + 6)), (4, .int (iv v13_4)), (5, .int (iv v13_5)), (6, .int (iv v24_6)), (7, .int (iv v24_7))]) [1, 2, 3, 4, 5, 6, 7, 8] rfl ?_
                  exact B103 _ ht24 v24_6 ⟨by omega, by omega, by omega, by (first | assumption | exact fbq_y (by assumption) (by omega) (by omega) ⟨by omega, by omega, by omega⟩ | exact fbq_n (by assumption) (by omega) (by omega) (fun h9 => by have h8 := h9.1; have h7 := h9.2.1; have h6 := h9.2.2; omega))⟩
                · exfalso
                  omega
            · refine r_iconst (pc := 61) (v := iv 1) dX10_followBack_61 (by decide) ?_
              refine r_goto (pc := 62) (tgt := 66) dX10_followBack_62 (by decide) ?_
              refine r_istore (pc := 66) (lv' := [(8, .int (iv 1)), (0, .ref wa), (1, .ref ga), (2, .int (iv x2)), (3, .ref (wa + 6)), (4, .int (iv v13_4)), (5, .int (iv v13_5)), (6, .int (iv v24_6)), (7, .int (iv v24_7))]) dX10_followBack_66 (by decide) rfl ?_
              refine r_aload_n (pc := 68) dX10_followBack_68 (i := 1) rfl rfl ?_
              refine t_getE (pc := 69) (.ref gHd) ht24 (rd_WL (by omega) hg_O) fX10_70 dX10_followBack_69 rfl ?_
              refine r_iload (pc := 72) dX10_followBack_72 rfl ?_
              refine t_ialdX (pc := 74) (t0 := 0) ht24 (rd_WL (by omega) hxg_Hd) dX10_followBack_74 rfl (by omega) (by omega) (fun b15 => ?_)
              have rb15 := (show Rfx gq 0 ((gn : Int) - 1) Hd by assumption) (Int.toNat v24_7) (by omega)
              refine r_iload (pc := 75) dX10_followBack_75 rfl ?_
              have B103 : ∀ hp103 : MH, Tw (WL Γ cI cJ cZ cT wa gn vs vo vl vm vr13 lv su) hp103 → ∀  (v103_6 : Int), (-1) ≤ v103_6 ∧ v103_6 ≤ 119 ∧ (v103_6 < (gq : Int)) ∧ (fbQ Tl Hd By W (vo (Int.toNat x2)).toInt lv (Int.toNat v13_4) v13_5 v103_6 (v24_7 + 1)) → Rn (gG D cI cJ cZ cT lo b L xs) mX10_followBack d 103 [(0, .ref wa), (1, .ref ga), (2, .int (iv x2)), (3, .ref (wa + 6)), (4, .int (iv v13_4)), (5, .int (iv v13_5)), (6, .int (iv v103_6)), (7, .int (iv v24_7))] [] hp103 n 0 0 Po9 := by
                intro hp103 ht103 v103_6 hf103
                obtain ⟨hf103_0, hf103_1, hf103_2, ha103_3⟩ := hf103
                refine r_iinc (pc := 103) (v := iv (v24_7 + 1)) (lv' := [(7, .int (iv (v24_7 + 1))), (0, .ref wa), (1, .ref ga), (2, .int (iv x2)), (3, .ref (wa + 6)), (4, .int (iv v13_4)), (5, .int (iv v13_5)), (6, .int (iv v103_6))]) dX10_followBack_103 rfl (iv_add _ _) (by decide) rfl ?_
                refine r_goto (pc := 106) (tgt := 24) dX10_followBack_106 (by decide) ?_
                refine Rn.pick (lv' := [(0, .ref wa), (1, .ref ga), (2, .int (iv x2)), (3, .ref (wa + 6)), (4, .int (iv v13_4)), (5, .int (iv v13_5)), (6, .int (iv v103_6)), (7, .int (iv (v24_7 + 1)))]) [1, 2, 3, 4, 5, 6, 7, 0] rfl ?_
                exact ih24 (Int.toNat (120 - (v24_7 + 1))) (by omega) _ ht103 v103_6 (v24_7 + 1) ⟨by omega, by omega, by omega, by omega, by omega, by omega, by (first | assumption | exact fbq_0)⟩ (by omega)
              refine t_icmp_ne (pc := 77) (tgt := 103) dX10_followBack_77 (by decide) (by omega) (by omega) (fun c77 => ?_) (fun c77 => ?_)
              · refine Rn.pick (lv' := [(0, .ref wa), (1, .ref ga), (2, .int (iv x2)), (3, .ref (wa + 6)), (4, .int (iv v13_4)), (5, .int (iv v13_5)), (6, .int (iv v24_6)), (7, .int (iv v24_7))]) [1, 2, 3, 4, 5, 6, 7, 8] rfl ?_
                exact B103 _ ht24 v24_6 ⟨by omega, by omega, by omega, by (first | assumption | exact fbq_y (by assumption) (by omega) (by omega) ⟨by omega, by omega, by omega⟩ | exact fbq_n (by assumption) (by omega) (by omega) (fun h9 => by have h8 := h9.1; have h7 := h9.2.1; have h6 := h9.2.2; omega))⟩
              · refine r_iload (pc := 80) dX10_followBack_80 rfl ?_
                refine t_if_eq (pc := 82) (tgt := 103) dX10_followBack_82 (by decide) (by omega) (fun c82 => ?_) (fun c82 => ?_)
                · exfalso
                  omega
                · refine r_aload_n (pc := 85) dX10_followBack_85 (i := 3) rfl rfl ?_
                  refine r_aload_n (pc := 86) dX10_followBack_86 (i := 1) rfl rfl ?_
                  refine t_getE (pc := 87) (.ref gTl) ht24 (rd_WL (by omega) hg_O) fX10_67 dX10_followBack_87 rfl ?_
                  refine r_iload (pc := 90) dX10_followBack_90 rfl ?_
                  refine t_ialdX (pc := 92) (t0 := 0) ht24 (rd_WL (by omega) hxg_Tl) dX10_followBack_92 rfl (by omega) (by omega) (fun b16 => ?_)
                  have rb16 := (show Rfx gq 0 ((gn : Int) - 1) Tl by assumption) (Int.toNat v24_7) (by omega)
                  refine t_ialdX (pc := 93) (t0 := 0) ht24 (rd_of WL_6) dX10_followBack_93 rfl (by omega) (by omega) (fun b17 => ?_)
                  have rb17 := (show Rfx gn (-1) 16 lv by assumption) (Int.toNat (Tl (Int.toNat v24_7))) (by omega)
                  refine r_iload (pc := 94) dX10_followBack_94 rfl ?_
                  refine t_icmp_ne (pc := 96) (tgt := 103) dX10_followBack_96 (by decide) (by omega) (by omega) (fun c96 => ?_) (fun c96 => ?_)
                  · refine Rn.pick (lv' := [(0, .ref wa), (1, .ref ga), (2, .int (iv x2)), (3, .ref (wa + 6)), (4, .int (iv v13_4)), (5, .int (iv v13_5)), (6, .int (iv v24_6)), (7, .int (iv v24_7))]) [1, 2, 3, 4, 5, 6, 7, 8] rfl ?_
                    exact B103 _ ht24 v24_6 ⟨by omega, by omega, by omega, by (first | assumption | exact fbq_y (by assumption) (by omega) (by omega) ⟨by omega, by omega, by omega⟩ | exact fbq_n (by assumption) (by omega) (by omega) (fun h9 => by have h8 := h9.1; have h7 := h9.2.1; have h6 := h9.2.2; omega))⟩
                  · refine r_iload (pc := 99) dX10_followBack_99 rfl ?_
                    refine r_istore (pc := 101) (lv' := [(6, .int (iv v24_7)), (8, .int (iv 1)), (0, .ref wa), (1, .ref ga), (2, .int (iv x2)), (3, .ref (wa + 6)), (4, .int (iv v13_4)), (5, .int (iv v13_5)), (7, .int (iv v24_7))]) dX10_followBack_101 (by decide) rfl ?_
                    refine Rn.pick (lv' := [(0, .ref wa), (1, .ref ga), (2, .int (iv x2)), (3, .ref (wa + 6)), (4, .int (iv v13_4)), (5, .int (iv v13_5)), (6, .int (iv v24_7)), (7, .int (iv v24_7))]) [2, 3, 4, 5, 6, 7, 0, 8] rfl ?_
                    exact B103 _ ht24 v24_7 ⟨by omega, by omega, by omega, by (first | assumption | exact fbq_y (by assumption) (by omega) (by omega) ⟨by omega, by omega, by omega⟩ | exact fbq_n (by assumption) (by omega) (by omega) (fun h9 => by have h8 := h9.1; have h7 := h9.2.1; have h6 := h9.2.2; omega))⟩
      refine Rn.pick (lv' := [(0, .ref wa), (1, .ref ga), (2, .int (iv x2)), (3, .ref (wa + 6)), (4, .int (iv v13_4)), (5, .int (iv v13_5)), (6, .int (iv (-1))), (7, .int (iv 0))]) [2, 3, 4, 5, 6, 7, 1, 0] rfl ?_
      exact B24 (Int.toNat (120 - 0)) _ ht13 (-1) 0 ⟨by omega, by omega, by omega, by omega, by omega, by omega, by (first | assumption | exact fbq_0)⟩ (by omega)
  refine Rn.pick (lv' := [(0, .ref wa), (1, .ref ga), (2, .int (iv x2)), (3, .ref (wa + 6)), (4, .int (iv x2)), (5, .int (iv ((vl (Int.toNat x2)) - 1)))]) [2, 3, 4, 5, 1, 0] rfl ?_
  exact B13 (Int.toNat (((vl (Int.toNat x2)) - 1) - (-1))) vr _ ht x2 ((vl (Int.toNat x2)) - 1) ⟨by omega, by omega, by omega, by omega, by omega, by assumption, by omega, by omega, by omega, by omega, by (first | assumption | exact tcc_00 (by omega)), by (first | assumption | exact rwO_0)⟩ (by omega)
