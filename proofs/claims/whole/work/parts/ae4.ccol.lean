set_option maxHeartbeats 4000000 in
set_option maxRecDepth 100000 in
theorem c_X0_peelx {D : va_G} {cI cJ cZ cT : ClassId} {lo b L : Nat} {xs : Nat → Int32} {hp : MH} {n d : Nat} {Γ : TG} {ga : Nat} {gF : Nat} {gT : Nat} {gW : Nat} {gC : Nat} {gTl : Nat} {gHd : Nat} {gBy : Nat} {gOu : Nat} {gIn : Nat} {gJo : Nat} {gn : Nat} {gm : Nat} {gq : Nat} {gdr : Int} {ca cM : Nat} {f0 : Nat → Int64} {F T W C Tl Hd By Ou In Jo : Nat → Int} (hd0 : 2 ≤ d) (hg : TyG Γ cI cJ cZ ga gF gT gW gC gTl gHd gBy gOu gIn gJo gn gm gq gdr) (hxg : XG Γ cI gF gT gW gC gTl gHd gBy gOu gIn gJo gn gm gq F T W C Tl Hd By Ou In Jo) (hc : TyCw Γ cI cJ cZ ca cM gn) (hne : nE cM ga ∧ nE cM gF ∧ nE cM gT ∧ nE cM gW ∧ nE cM gC ∧ nE cM gTl ∧ nE cM gHd ∧ nE cM gBy ∧ nE cM gOu ∧ nE cM gIn ∧ nE cM gJo ∧ nE cM ca) (ht : Tw (ov Γ cM (xJ cJ gn f0)) hp)  : Mt (gG D cI cJ cZ cT lo b L xs) mX0_peel d 1 gn [.ref ca, .ref ga] hp n (pCx Γ cJ cM gn n (fun f => ∀ v, v < gn → coP gm F T gn v (f v).toInt)) := by
  refine Mt.of rfl (Nat.le_of_ble_eq_true rfl) ?_
  refine Rn.pick (lv' := [(0, .ref ca), (1, .ref ga)]) [0, 1] rfl ?_
  obtain ⟨hg_O, hg_from, hg_to, hg_weight, hg_cost, hg_tail, hg_head, hg_by, hg_out, hg_in, hg_joined, hg_b⟩ := id hg
  obtain ⟨⟨hxg_F, hxg_T, hxg_W, hxg_C, hxg_Tl, hxg_Hd, hxg_By, hxg_Ou, hxg_In, hxg_Jo⟩, ⟨hrg_F, hrg_T, hrg_W, hrg_C, hrg_Tl, hrg_Hd, hrg_By, hrg_Ou, hrg_In, hrg_Jo⟩, houg⟩ := id hxg
  obtain ⟨hq_ga, hq_gF, hq_gT, hq_gW, hq_gC, hq_gTl, hq_gHd, hq_gBy, hq_gOu, hq_gIn, hq_gJo, hq_ca⟩ := id hne
  obtain ⟨hc_O, hc_numbers, hc_b⟩ := id hc
  have hFT : ∀ k, k < gm → (0 ≤ F k ∧ F k < (gn : Int)) ∧ (0 ≤ T k ∧ T k < (gn : Int)) := fun k hk => by have h1 := hrg_F k hk; have h2 := hrg_T k hk; omega
  refine Rn.bd (fun bd9 => ?_)
  have hlq0 : gF < n := Tw.lt9 ht bd9 (rd_ov (Ne.symm hq_gF) hxg_F)
  have hlq1 : gT < n := Tw.lt9 ht bd9 (rd_ov (Ne.symm hq_gT) hxg_T)
  have hlq2 : gW < n := Tw.lt9 ht bd9 (rd_ov (Ne.symm hq_gW) hxg_W)
  have hlq3 : gC < n := Tw.lt9 ht bd9 (rd_ov (Ne.symm hq_gC) hxg_C)
  have hlq4 : gTl < n := Tw.lt9 ht bd9 (rd_ov (Ne.symm hq_gTl) hxg_Tl)
  have hlq5 : gHd < n := Tw.lt9 ht bd9 (rd_ov (Ne.symm hq_gHd) hxg_Hd)
  have hlq6 : gBy < n := Tw.lt9 ht bd9 (rd_ov (Ne.symm hq_gBy) hxg_By)
  have hlq7 : gOu < n := Tw.lt9 ht bd9 (rd_ov (Ne.symm hq_gOu) hxg_Ou)
  have hlq8 : gIn < n := Tw.lt9 ht bd9 (rd_ov (Ne.symm hq_gIn) hxg_In)
  have hlq9 : gJo < n := Tw.lt9 ht bd9 (rd_ov (Ne.symm hq_gJo) hxg_Jo)
  have hlq10 : ga < n := Tw.lt9 ht bd9 (rd_ov (Ne.symm hq_ga) hg_O)
  have hlq11 : ca < n := Tw.lt9 ht bd9 (rd_ov (Ne.symm hq_ca) hc_O)
  have hlq12 : cM < n := Tw.lt9 ht bd9 (rd_of (ov_s _ _ _))
  refine r_aload_n (pc := 0) dX0_peel_0 (i := 0) rfl rfl ?_
  refine t_getE (pc := 1) (.int (iv (gn : Int))) ht (rd_ov (Ne.symm hq_ca) hc_O) fX0_15 dX0_peel_1 rfl ?_
  refine t_newI (pc := 4) (t0 := 0) (N := gn) (-2147483648) 2147483647 ht dX0_peel_4 (tb_t (k := 68) (w := Cond.arrayClass .int) (by decide +kernel)) rfl (by omega) (by omega) (by decide) (by omega) (by omega) (fun hp1 Γ2 hE3 hN4 ht5 => ?_)
  have hcM1 : Γ2 cM = some (xJ cJ gn f0) := hE3 _ _ (ov_s _ _ _)
  have htA := Tw.ovr ht5 hcM1
  obtain ⟨ie0, -, htB⟩ := htA.openI (rd_ov (by omega) (rd_of hN4))
  refine r_astore_n (pc := 6) (lv' := [(2, .ref n), (0, .ref ca), (1, .ref ga)]) dX0_peel_6 (i := 2) rfl (by decide) rfl ?_
  refine r_aload_n (pc := 7) dX0_peel_7 (i := 1) rfl rfl ?_
  refine t_callVI (pc := 8) (as := []) (st := []) htB (rd_ov (by omega) (rd_ov (Ne.symm hq_ga) (rd_ext hE3 (rd_ov (Ne.symm hq_ga) hg_O)))) kX0_75 rfl dX0_peel_8 (c_X3_allNodesx (d := d - 1)  (by omega) (TyG.ovx (by omega) (TyG.ovx ⟨hq_ga, hq_gF, hq_gT, hq_gW, hq_gC, hq_gTl, hq_gHd, hq_gBy, hq_gOu, hq_gIn, hq_gJo⟩ (TyG.ext hE3 (TyG.ovx ⟨hq_ga, hq_gF, hq_gT, hq_gW, hq_gC, hq_gTl, hq_gHd, hq_gBy, hq_gOu, hq_gIn, hq_gJo⟩ hg)))) (XG.ovx (by omega) (XG.ovx ⟨hq_gF, hq_gT, hq_gW, hq_gC, hq_gTl, hq_gHd, hq_gBy, hq_gOu, hq_gIn, hq_gJo⟩ (XG.ext hE3 (XG.ovx ⟨hq_gF, hq_gT, hq_gW, hq_gC, hq_gTl, hq_gHd, hq_gBy, hq_gOu, hq_gIn, hq_gJo⟩ hxg)))) htB  ) rfl (by omega) (Nat.le_of_ble_eq_true rfl) rfl (fun hp7 y6 ht8 by6 => ?_)
  have fy6 : (y6 = ((2 ^ gn : Nat) : Int) - 1) := by6
  have ey8 : y6 = ((2 ^ gn : Nat) : Int) - 1 := fy6
  subst ey8
  have mp8 : 1 ≤ 2 ^ gn := Nat.one_le_two_pow
  have mq8 : 2 ^ gn ≤ 2 ^ 16 := Nat.pow_le_pow_right (by omega) (by omega)
  refine r_istore_n (pc := 11) (lv' := [(3, .int (iv (((2 ^ gn : Nat) : Int) - 1))), (2, .ref n), (0, .ref ca), (1, .ref ga)]) dX0_peel_11 (i := 3) rfl (by decide) rfl ?_
  refine r_iconst (pc := 12) (v := iv 0) dX0_peel_12 (by decide) ?_
  refine r_istore (pc := 13) (lv' := [(4, .int (iv 0)), (3, .int (iv (((2 ^ gn : Nat) : Int) - 1))), (2, .ref n), (0, .ref ca), (1, .ref ga)]) dX0_peel_13 (by decide) rfl ?_
  refine r_iconst (pc := 15) (v := iv 0) dX0_peel_15 (by decide) ?_
  refine r_istore (pc := 16) (lv' := [(5, .int (iv 0)), (4, .int (iv 0)), (3, .int (iv (((2 ^ gn : Nat) : Int) - 1))), (2, .ref n), (0, .ref ca), (1, .ref ga)]) dX0_peel_16 (by decide) rfl ?_
  have B18 : ∀ k : Nat, ∀ nu18 : Nat → Int64, ∀ ie18 : Nat → Int, ∀ hp18 : MH, Tw (ov (ov Γ2 cM (xJ cJ gn nu18)) n (xI cI gn ie18)) hp18 → ∀  (v18_3 : Int) (v18_4 : Int) (v18_5 : Int), 0 ≤ v18_3 ∧ v18_3 ≤ 65535 ∧ v18_3 ≤ (((2 ^ gn : Nat) : Int) - 1) ∧ 0 ≤ v18_4 ∧ v18_4 ≤ 2147483647 ∧ 0 ≤ v18_5 ∧ v18_5 ≤ 16 ∧ (v18_5 ≤ (gn : Int)) ∧ (Int.toNat v18_3 < 2 ^ gn) ∧ (pkP gm F T gn v18_3 v18_4) ∧ (pcP gm F T gn v18_3 nu18) ∧ (bcn v18_3 gn + Int.toNat v18_5 = gn) → 16 - v18_5 ≤ (k : Int) → Rn (gG D cI cJ cZ cT lo b L xs) mX0_peel d 18 [(0, .ref ca), (1, .ref ga), (2, .ref n), (3, .int (iv v18_3)), (4, .int (iv v18_4)), (5, .int (iv v18_5))] [] hp18 (n + 1) (1 - 1) (gn - gn) (pCx Γ cJ cM gn n (fun f => ∀ v, v < gn → coP gm F T gn v (f v).toInt)) := by
    refine lpS _ ?_
    intro k18 ih18 nu18 ie18 hp18 ht18 v18_3 v18_4 v18_5 hf18 hm18
    obtain ⟨hf18_0, hf18_1, hf18_2, hf18_3, hf18_4, hf18_5, hf18_6, hf18_7, ha18_8, ha18_9, ha18_10, ha18_11⟩ := hf18
    refine r_iload (pc := 18) dX0_peel_18 rfl ?_
    refine r_aload_n (pc := 20) dX0_peel_20 (i := 0) rfl rfl ?_
    refine t_getE (pc := 21) (.int (iv (gn : Int))) ht18 (rd_ov (by omega) (rd_ov (Ne.symm hq_ca) (rd_ext hE3 (rd_ov (Ne.symm hq_ca) hc_O)))) fX0_15 dX0_peel_21 rfl ?_
    refine t_icmp_ge (pc := 24) (tgt := 124) dX0_peel_24 (by decide) (by omega) (by omega) (fun c24 => ?_) (fun c24 => ?_)
    · exact r_vret (pc := 124) dX0_peel_124 rfl ⟨by omega, rfl, nu18, (Tw.bk hE3 hN4 xI_any (by omega) ht18), by intro v hv; exact (by assumption : pcP gm F T gn v18_3 nu18) v hv (bcn_z (k := gn) (by omega) v hv)⟩
    · refine r_aload_n (pc := 27) dX0_peel_27 (i := 1) rfl rfl ?_
      refine r_iload_n (pc := 28) dX0_peel_28 (i := 3) rfl rfl ?_
      refine r_aload_n (pc := 29) dX0_peel_29 (i := 2) rfl rfl ?_
      refine r_callS (pc := 30) (as := [.ref ga, .int (iv v18_3), .ref n]) (st := []) kX0_79 dX0_peel_30 (c_X0_countEndsWithinx (d := d - 1) (x1 := v18_3) (by omega) (TyG.ovx ⟨hq_ga, hq_gF, hq_gT, hq_gW, hq_gC, hq_gTl, hq_gHd, hq_gBy, hq_gOu, hq_gIn, hq_gJo⟩ (TyG.ext hE3 (TyG.ovx ⟨hq_ga, hq_gF, hq_gT, hq_gW, hq_gC, hq_gTl, hq_gHd, hq_gBy, hq_gOu, hq_gIn, hq_gJo⟩ hg))) (XG.ovx ⟨hq_gF, hq_gT, hq_gW, hq_gC, hq_gTl, hq_gHd, hq_gBy, hq_gOu, hq_gIn, hq_gJo⟩ (XG.ext hE3 (XG.ovx ⟨hq_gF, hq_gT, hq_gW, hq_gC, hq_gTl, hq_gHd, hq_gBy, hq_gOu, hq_gIn, hq_gJo⟩ hxg))) ⟨nE_i (by omega), nE_i (by omega), nE_i (by omega), nE_i (by omega), nE_i (by omega), nE_i (by omega), nE_i (by omega), nE_i (by omega), nE_i (by omega), nE_i (by omega), nE_i (by omega)⟩ ht18 (by omega)) rfl (by omega) (Nat.le_of_ble_eq_true rfl) (Nat.zero_le _) (Nat.zero_le _) rfl (fun r9 hp10 n11 q12 => ?_)
      obtain ⟨rfl, rfl, fe13, ht14, hin30⟩ := q12
      refine r_iconst (pc := 33) (v := iv (-1)) dX0_peel_33 (by decide) ?_
      refine r_istore (pc := 34) (lv' := [(6, .int (iv (-1))), (0, .ref ca), (1, .ref ga), (2, .ref n), (3, .int (iv v18_3)), (4, .int (iv v18_4)), (5, .int (iv v18_5))]) dX0_peel_34 (by decide) rfl ?_
      refine r_iconst (pc := 36) (v := iv 0) dX0_peel_36 (by decide) ?_
      refine r_istore (pc := 37) (lv' := [(7, .int (iv 0)), (6, .int (iv (-1))), (0, .ref ca), (1, .ref ga), (2, .ref n), (3, .int (iv v18_3)), (4, .int (iv v18_4)), (5, .int (iv v18_5))]) dX0_peel_37 (by decide) rfl ?_
      have B39 : ∀ k : Nat, ∀ hp39 : MH, Tw (ov (ov Γ2 cM (xJ cJ gn nu18)) n (xI cI gn fe13)) hp39 → ∀  (v39_6 : Int) (v39_7 : Int), (-1) ≤ v39_6 ∧ v39_6 ≤ 15 ∧ 0 ≤ v39_7 ∧ v39_7 ≤ 16 ∧ (v39_7 ≤ (gn : Int)) ∧ (v39_6 < (gn : Int)) ∧ (pmP v18_3 fe13 v39_7 v39_6) → 16 - v39_7 ≤ (k : Int) → Rn (gG D cI cJ cZ cT lo b L xs) mX0_peel d 39 [(0, .ref ca), (1, .ref ga), (2, .ref n), (3, .int (iv v18_3)), (4, .int (iv v18_4)), (5, .int (iv v18_5)), (6, .int (iv v39_6)), (7, .int (iv v39_7))] [] hp39 (n + 1) (1 - 1) (gn - gn) (pCx Γ cJ cM gn n (fun f => ∀ v, v < gn → coP gm F T gn v (f v).toInt)) := by
        refine lpS _ ?_
        intro k39 ih39 hp39 ht39 v39_6 v39_7 hf39 hm39
        obtain ⟨hf39_0, hf39_1, hf39_2, hf39_3, hf39_4, hf39_5, ha39_6⟩ := hf39
        refine r_iload (pc := 39) dX0_peel_39 rfl ?_
        refine r_aload_n (pc := 41) dX0_peel_41 (i := 0) rfl rfl ?_
        refine t_getE (pc := 42) (.int (iv (gn : Int))) ht39 (rd_ov (by omega) (rd_ov (Ne.symm hq_ca) (rd_ext hE3 (rd_ov (Ne.symm hq_ca) hc_O)))) fX0_15 dX0_peel_42 rfl ?_
        refine t_icmp_ge (pc := 45) (tgt := 83) dX0_peel_45 (by decide) (by omega) (by omega) (fun c45 => ?_) (fun c45 => ?_)
        · refine r_iload (pc := 83) dX0_peel_83 rfl ?_
          have hle9 : 0 ≤ v39_6 := pm_pos (n := gn) (by assumption) (by omega) (by omega)
          refine t_if_lt (pc := 85) (tgt := 118) dX0_peel_85 (by decide) (by omega) (fun c85 => ?_) (fun c85 => ?_)
          · exfalso
            omega
          · refine r_iload (pc := 88) dX0_peel_88 rfl ?_
            refine r_aload_n (pc := 90) dX0_peel_90 (i := 2) rfl rfl ?_
            refine r_iload (pc := 91) dX0_peel_91 rfl ?_
            refine t_ialdX (pc := 93) (t0 := 0) ht39 (rd_of (ov_s _ _ _)) dX0_peel_93 rfl (by omega) (by omega) (fun b15 => ?_)
            obtain ⟨z16, hz16, bz16⟩ := max_b v18_4 (fe13 (Int.toNat v39_6)) (by omega) (by omega)
            refine r_mmax (pc := 94) (v := iv z16) qX0_83 dX0_peel_94 (Nat.le_of_ble_eq_true rfl) hz16 ?_
            refine r_istore (pc := 97) (lv' := [(4, .int (iv z16)), (0, .ref ca), (1, .ref ga), (2, .ref n), (3, .int (iv v18_3)), (5, .int (iv v18_5)), (6, .int (iv v39_6)), (7, .int (iv v39_7))]) dX0_peel_97 (by decide) rfl ?_
            refine r_aload_n (pc := 99) dX0_peel_99 (i := 0) rfl rfl ?_
            refine t_getE (pc := 100) (.ref cM) ht39 (rd_ov (by omega) (rd_ov (Ne.symm hq_ca) (rd_ext hE3 (rd_ov (Ne.symm hq_ca) hc_O)))) fX0_9 dX0_peel_100 rfl ?_
            refine r_iload (pc := 103) dX0_peel_103 rfl ?_
            refine r_iload (pc := 105) dX0_peel_105 rfl ?_
            refine r_i2l (pc := 107) (v := (iv z16).toInt64) dX0_peel_107 rfl ?_
            refine t_lastX (pc := 108) (t0 := 1) ht39 (eq_ov (by omega) (ov_s _ _ _)) dX0_peel_108 rfl (by omega) (by omega) (fun hp17 ht18 => ?_)
            rw [ov_in2 (by omega) ] at ht18
            refine r_iload_n (pc := 109) dX0_peel_109 (i := 3) rfl rfl ?_
            refine r_iconst (pc := 110) (v := iv 1) dX0_peel_110 (by decide) ?_
            refine r_iload (pc := 111) dX0_peel_111 rfl ?_
            refine r_ishl (pc := 113) (v := iv ((2 ^ Int.toNat v39_6 : Nat) : Int)) dX0_peel_113 (shl_e (by omega)) ?_
            have mp113_19 : 1 ≤ 2 ^ Int.toNat v39_6 := Nat.one_le_two_pow
            have mq113_20 : 2 ^ Int.toNat v39_6 ≤ 2 ^ 15 := Nat.pow_le_pow_right (by omega) (by omega)
            have ms113 := Me_shl (Int.toNat v39_6)
            refine r_iconst (pc := 114) (v := iv (-1)) dX0_peel_114 (by decide) ?_
            refine r_ixor (pc := 115) (v := iv (-((2 ^ Int.toNat v39_6 : Nat) : Int) - 1)) dX0_peel_115 (iv_not _) ?_
            obtain ⟨z21, hz21, bz21⟩ := and_l v18_3 (-((2 ^ Int.toNat v39_6 : Nat) : Int) - 1) (by omega) (by omega)
            refine r_iand (pc := 116) (v := iv z21) dX0_peel_116 hz21 ?_
            have mez21 := Me_not (y := ((2 ^ Int.toNat v39_6 : Nat) : Int)) hz21 (by omega) (by omega) (by omega)
            have hl9 : ∀ i, Me z21 i ↔ Me v18_3 i ∧ i ≠ Int.toNat v39_6 := left_st (n := 0) mez21 ms113
            obtain ⟨hk1, hk2, hk3⟩ := pk_min (n := gn) (h := (by assumption : pmP v18_3 _ v39_7 v39_6)) (by omega) hin30 (by omega) (by assumption)
            obtain ⟨hk4, hk5⟩ := pk_st (core' := z16) (by assumption : pkP gm F T gn v18_3 v18_4) (by omega) (by assumption) hk1 hk2 (by rw [← hk3]; omega) hl9
            have hk6 := pc_up (x := (iv z16).toInt64) (by assumption : pcP gm F T gn v18_3 nu18) (iv_long (by omega)) hk4 hl9
            have hk7 := bcn_rm hl9 hk1 (k := gn) (by omega)
            have hk8 := sub_lt hl9 (n := gn) (by assumption)
            refine r_istore_n (pc := 117) (lv' := [(3, .int (iv z21)), (4, .int (iv z16)), (0, .ref ca), (1, .ref ga), (2, .ref n), (5, .int (iv v18_5)), (6, .int (iv v39_6)), (7, .int (iv v39_7))]) dX0_peel_117 (i := 3) rfl (by decide) rfl ?_
            refine r_iinc (pc := 118) (v := iv (v18_5 + 1)) (lv' := [(5, .int (iv (v18_5 + 1))), (3, .int (iv z21)), (4, .int (iv z16)), (0, .ref ca), (1, .ref ga), (2, .ref n), (6, .int (iv v39_6)), (7, .int (iv v39_7))]) dX0_peel_118 rfl (iv_add _ _) (by decide) rfl ?_
            refine r_goto (pc := 121) (tgt := 18) dX0_peel_121 (by decide) ?_
            refine Rn.pick (lv' := [(0, .ref ca), (1, .ref ga), (2, .ref n), (3, .int (iv z21)), (4, .int (iv z16)), (5, .int (iv (v18_5 + 1)))]) [3, 4, 5, 1, 2, 0] rfl ?_
            exact ih18 (Int.toNat (16 - (v18_5 + 1))) (by omega) (fuj nu18 (Int.toNat v39_6) ((iv z16).toInt64)) fe13 _ ht18 z21 z16 (v18_5 + 1) ⟨by omega, by omega, by omega, by omega, by omega, by omega, by omega, by omega, by (first | assumption | omega), by (first | assumption | exact pk_0 (by omega) (by omega) (fun i hi => (Me_all i).mpr hi)), by (first | assumption | exact fun v hv h9 => absurd ((Me_all v).mpr hv) h9), by (first | (rw [bcn_all (Nat.le_refl gn)]; omega) | omega)⟩ (by omega)
        · refine r_iload_n (pc := 48) dX0_peel_48 (i := 3) rfl rfl ?_
          refine r_iload (pc := 49) dX0_peel_49 rfl ?_
          have hq51_22 := shr_le (Int.toNat v18_3) (Int.toNat v39_7)
          refine r_ishr (pc := 51) (v := iv ((Int.toNat v18_3 >>> Int.toNat v39_7 : Nat) : Int)) dX0_peel_51 (shr_e (by omega) (by omega)) ?_
          refine r_iconst (pc := 52) (v := iv 1) dX0_peel_52 (by decide) ?_
          refine r_iand (pc := 53) (v := iv (((Int.toNat v18_3 >>> Int.toNat v39_7 : Nat) : Int) % 2)) dX0_peel_53 (and1_e _ (by omega)) ?_
          have mb53 := @Me_bit v18_3 v39_7
          refine t_if_eq (pc := 54) (tgt := 77) dX0_peel_54 (by decide) (by omega) (fun c54 => ?_) (fun c54 => ?_)
          · have nm54 : ¬ Me v18_3 (Int.toNat v39_7) := fun h9 => absurd (Me_bit.mpr h9) (by omega)
            refine r_iinc (pc := 77) (v := iv (v39_7 + 1)) (lv' := [(7, .int (iv (v39_7 + 1))), (0, .ref ca), (1, .ref ga), (2, .ref n), (3, .int (iv v18_3)), (4, .int (iv v18_4)), (5, .int (iv v18_5)), (6, .int (iv v39_6))]) dX0_peel_77 rfl (iv_add _ _) (by decide) rfl ?_
            refine r_goto (pc := 80) (tgt := 39) dX0_peel_80 (by decide) ?_
            refine Rn.pick (lv' := [(0, .ref ca), (1, .ref ga), (2, .ref n), (3, .int (iv v18_3)), (4, .int (iv v18_4)), (5, .int (iv v18_5)), (6, .int (iv v39_6)), (7, .int (iv (v39_7 + 1)))]) [1, 2, 3, 4, 5, 6, 7, 0] rfl ?_
            exact ih39 (Int.toNat (16 - (v39_7 + 1))) (by omega) _ ht39 v39_6 (v39_7 + 1) ⟨by omega, by omega, by omega, by omega, by omega, by omega, by (first | exact Or.inl ⟨rfl, fun u hu => by omega⟩ | exact pm_no (by assumption) (by omega) (Or.inl (by assumption)) | exact pm_no (by assumption) (by omega) (Or.inr ⟨by omega, by omega⟩) | exact pm_up (by assumption) (by omega) (by assumption) (Or.inl (by omega)) | exact pm_up (by assumption) (by omega) (by assumption) (Or.inr (by omega)))⟩ (by omega)
          · have pm54 : Me v18_3 (Int.toNat v39_7) := Me_bit.mp (by omega)
            refine r_iload (pc := 57) dX0_peel_57 rfl ?_
            refine t_if_lt (pc := 59) (tgt := 73) dX0_peel_59 (by decide) (by omega) (fun c59 => ?_) (fun c59 => ?_)
            · refine r_iload (pc := 73) dX0_peel_73 rfl ?_
              refine r_istore (pc := 75) (lv' := [(6, .int (iv v39_7)), (0, .ref ca), (1, .ref ga), (2, .ref n), (3, .int (iv v18_3)), (4, .int (iv v18_4)), (5, .int (iv v18_5)), (7, .int (iv v39_7))]) dX0_peel_75 (by decide) rfl ?_
              refine r_iinc (pc := 77) (v := iv (v39_7 + 1)) (lv' := [(7, .int (iv (v39_7 + 1))), (6, .int (iv v39_7)), (0, .ref ca), (1, .ref ga), (2, .ref n), (3, .int (iv v18_3)), (4, .int (iv v18_4)), (5, .int (iv v18_5))]) dX0_peel_77 rfl (iv_add _ _) (by decide) rfl ?_
              refine r_goto (pc := 80) (tgt := 39) dX0_peel_80 (by decide) ?_
              refine Rn.pick (lv' := [(0, .ref ca), (1, .ref ga), (2, .ref n), (3, .int (iv v18_3)), (4, .int (iv v18_4)), (5, .int (iv v18_5)), (6, .int (iv v39_7)), (7, .int (iv (v39_7 + 1)))]) [2, 3, 4, 5, 6, 7, 1, 0] rfl ?_
              exact ih39 (Int.toNat (16 - (v39_7 + 1))) (by omega) _ ht39 v39_7 (v39_7 + 1) ⟨by omega, by omega, by omega, by omega, by omega, by omega, by (first | exact Or.inl ⟨rfl, fun u hu => by omega⟩ | exact pm_no (by assumption) (by omega) (Or.inl (by assumption)) | exact pm_no (by assumption) (by omega) (Or.inr ⟨by omega, by omega⟩) | exact pm_up (by assumption) (by omega) (by assumption) (Or.inl (by omega)) | exact pm_up (by assumption) (by omega) (by assumption) (Or.inr (by omega)))⟩ (by omega)
            · refine r_aload_n (pc := 62) dX0_peel_62 (i := 2) rfl rfl ?_
              refine r_iload (pc := 63) dX0_peel_63 rfl ?_
              refine t_ialdX (pc := 65) (t0 := 0) ht39 (rd_of (ov_s _ _ _)) dX0_peel_65 rfl (by omega) (by omega) (fun b23 => ?_)
              refine r_aload_n (pc := 66) dX0_peel_66 (i := 2) rfl rfl ?_
              refine r_iload (pc := 67) dX0_peel_67 rfl ?_
              refine t_ialdX (pc := 69) (t0 := 0) ht39 (rd_of (ov_s _ _ _)) dX0_peel_69 rfl (by omega) (by omega) (fun b24 => ?_)
              refine t_icmp_ge (pc := 70) (tgt := 77) dX0_peel_70 (by decide) (by omega) (by omega) (fun c70 => ?_) (fun c70 => ?_)
              · refine r_iinc (pc := 77) (v := iv (v39_7 + 1)) (lv' := [(7, .int (iv (v39_7 + 1))), (0, .ref ca), (1, .ref ga), (2, .ref n), (3, .int (iv v18_3)), (4, .int (iv v18_4)), (5, .int (iv v18_5)), (6, .int (iv v39_6))]) dX0_peel_77 rfl (iv_add _ _) (by decide) rfl ?_
                refine r_goto (pc := 80) (tgt := 39) dX0_peel_80 (by decide) ?_
                refine Rn.pick (lv' := [(0, .ref ca), (1, .ref ga), (2, .ref n), (3, .int (iv v18_3)), (4, .int (iv v18_4)), (5, .int (iv v18_5)), (6, .int (iv v39_6)), (7, .int (iv (v39_7 + 1)))]) [1, 2, 3, 4, 5, 6, 7, 0] rfl ?_
                exact ih39 (Int.toNat (16 - (v39_7 + 1))) (by omega) _ ht39 v39_6 (v39_7 + 1) ⟨by omega, by omega, by omega, by omega, by omega, by omega, by (first | exact Or.inl ⟨rfl, fun u hu => by omega⟩ | exact pm_no (by assumption) (by omega) (Or.inl (by assumption)) | exact pm_no (by assumption) (by omega) (Or.inr ⟨by omega, by omega⟩) | exact pm_up (by assumption) (by omega) (by assumption) (Or.inl (by omega)) | exact pm_up (by assumption) (by omega) (by assumption) (Or.inr (by omega)))⟩ (by omega)
              · refine r_iload (pc := 73) dX0_peel_73 rfl ?_
                refine r_istore (pc := 75) (lv' := [(6, .int (iv v39_7)), (0, .ref ca), (1, .ref ga), (2, .ref n), (3, .int (iv v18_3)), (4, .int (iv v18_4)), (5, .int (iv v18_5)), (7, .int (iv v39_7))]) dX0_peel_75 (by decide) rfl ?_
                refine r_iinc (pc := 77) (v := iv (v39_7 + 1)) (lv' := [(7, .int (iv (v39_7 + 1))), (6, .int (iv v39_7)), (0, .ref ca), (1, .ref ga), (2, .ref n), (3, .int (iv v18_3)), (4, .int (iv v18_4)), (5, .int (iv v18_5))]) dX0_peel_77 rfl (iv_add _ _) (by decide) rfl ?_
                refine r_goto (pc := 80) (tgt := 39) dX0_peel_80 (by decide) ?_
                refine Rn.pick (lv' := [(0, .ref ca), (1, .ref ga), (2, .ref n), (3, .int (iv v18_3)), (4, .int (iv v18_4)), (5, .int (iv v18_5)), (6, .int (iv v39_7)), (7, .int (iv (v39_7 + 1)))]) [2, 3, 4, 5, 6, 7, 1, 0] rfl ?_
                exact ih39 (Int.toNat (16 - (v39_7 + 1))) (by omega) _ ht39 v39_7 (v39_7 + 1) ⟨by omega, by omega, by omega, by omega, by omega, by omega, by (first | exact Or.inl ⟨rfl, fun u hu => by omega⟩ | exact pm_no (by assumption) (by omega) (Or.inl (by assumption)) | exact pm_no (by assumption) (by omega) (Or.inr ⟨by omega, by omega⟩) | exact pm_up (by assumption) (by omega) (by assumption) (Or.inl (by omega)) | exact pm_up (by assumption) (by omega) (by assumption) (Or.inr (by omega)))⟩ (by omega)
      refine Rn.pick (lv' := [(0, .ref ca), (1, .ref ga), (2, .ref n), (3, .int (iv v18_3)), (4, .int (iv v18_4)), (5, .int (iv v18_5)), (6, .int (iv (-1))), (7, .int (iv 0))]) [2, 3, 4, 5, 6, 7, 1, 0] rfl ?_
      exact B39 (Int.toNat (16 - 0)) _ ht14 (-1) 0 ⟨by omega, by omega, by omega, by omega, by omega, by omega, by (first | exact Or.inl ⟨rfl, fun u hu => by omega⟩ | exact pm_no (by assumption) (by omega) (Or.inl (by assumption)) | exact pm_no (by assumption) (by omega) (Or.inr ⟨by omega, by omega⟩) | exact pm_up (by assumption) (by omega) (by assumption) (Or.inl (by omega)) | exact pm_up (by assumption) (by omega) (by assumption) (Or.inr (by omega)))⟩ (by omega)
  refine Rn.pick (lv' := [(0, .ref ca), (1, .ref ga), (2, .ref n), (3, .int (iv (((2 ^ gn : Nat) : Int) - 1))), (4, .int (iv 0)), (5, .int (iv 0))]) [4, 5, 3, 2, 1, 0] rfl ?_
  exact B18 (Int.toNat (16 - 0)) f0 ie0 _ ht8 (((2 ^ gn : Nat) : Int) - 1) 0 0 ⟨by omega, by omega, by omega, by omega, by omega, by omega, by omega, by omega, by (first | assumption | omega), by (first | assumption | exact pk_0 (by omega) (by omega) (fun i hi => (Me_all i).mpr hi)), by (first | assumption | exact fun v hv h9 => absurd ((Me_all v).mpr hv) h9), by (first | (rw [bcn_all (Nat.le_refl gn)]; omega) | omega)⟩ (by omega)
