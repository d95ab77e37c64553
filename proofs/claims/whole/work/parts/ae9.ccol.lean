set_option maxHeartbeats 4000000 in
set_option maxRecDepth 100000 in
theorem c_X0_playx {D : va_G} {cI cJ cZ cT : ClassId} {lo b L : Nat} {xs : Nat → Int32} {hp : MH} {n d : Nat} {Γ : TG} {ga : Nat} {gF : Nat} {gT : Nat} {gW : Nat} {gC : Nat} {gTl : Nat} {gHd : Nat} {gBy : Nat} {gOu : Nat} {gIn : Nat} {gJo : Nat} {gn : Nat} {gm : Nat} {gq : Nat} {gdr : Int} {ca cM : Nat} {f0 : Nat → Int64} {F T W C Tl Hd By Ou In Jo : Nat → Int} {x2 x3 x4 x5 : Int} {pos : Nat → Nat} (hd0 : 1 ≤ d) (hg : TyG Γ cI cJ cZ ga gF gT gW gC gTl gHd gBy gOu gIn gJo gn gm gq gdr) (hxg : XG Γ cI gF gT gW gC gTl gHd gBy gOu gIn gJo gn gm gq F T W C Tl Hd By Ou In Jo) (hc : TyCw Γ cI cJ cZ ca cM gn) (hne : nE cM ga ∧ nE cM gF ∧ nE cM gT ∧ nE cM gW ∧ nE cM gC ∧ nE cM gTl ∧ nE cM gHd ∧ nE cM gBy ∧ nE cM gOu ∧ nE cM gIn ∧ nE cM gJo ∧ nE cM ca) (ht : Tw (ov Γ cM (xJ cJ gn f0)) hp) (hx2 : 0 ≤ x2 ∧ x2 ≤ 4) (hx3 : 0 ≤ x3 ∧ x3 ≤ 3) (hx4 : 0 ≤ x4 ∧ x4 ≤ 1) (hx5 : 0 ≤ x5 ∧ x5 ≤ 200) (hgo : GoS gm gq gdr F T Tl Hd By pos) : Mt (gG D cI cJ cZ cT lo b L xs) mX0_play d 1 gn [.ref ca, .ref ga, .int (iv x2), .int (iv x3), .int (iv x4), .int (iv x5)] hp n (pCx Γ cJ cM gn n (fun f => eqB f (rnC gm gdr F T W x2 x3 x4 f0 (Int.toNat x5)) (gn : Int))) := by
  refine Mt.of rfl (Nat.le_of_ble_eq_true rfl) ?_
  refine Rn.pick (lv' := [(0, .ref ca), (1, .ref ga), (2, .int (iv x2)), (3, .int (iv x3)), (4, .int (iv x4)), (5, .int (iv x5))]) [0, 1, 2, 3, 4, 5] rfl ?_
  obtain ⟨hg_O, hg_from, hg_to, hg_weight, hg_cost, hg_tail, hg_head, hg_by, hg_out, hg_in, hg_joined, hg_b⟩ := id hg
  obtain ⟨⟨hxg_F, hxg_T, hxg_W, hxg_C, hxg_Tl, hxg_Hd, hxg_By, hxg_Ou, hxg_In, hxg_Jo⟩, ⟨hrg_F, hrg_T, hrg_W, hrg_C, hrg_Tl, hrg_Hd, hrg_By, hrg_Ou, hrg_In, hrg_Jo⟩, houg⟩ := id hxg
  obtain ⟨hq_ga, hq_gF, hq_gT, hq_gW, hq_gC, hq_gTl, hq_gHd, hq_gBy, hq_gOu, hq_gIn, hq_gJo, hq_ca⟩ := id hne
  obtain ⟨hc_O, hc_numbers, hc_b⟩ := id hc
  have hFT : ∀ k, k < gm → (0 ≤ F k ∧ F k < (gn : Int)) ∧ (0 ≤ T k ∧ T k < (gn : Int)) := fun k hk => by have h1 := hrg_F k hk; have h2 := hrg_T k hk; omega
  refine Rn.bd (fun bd9 => ?_)
  have hlq0 : gF < n := Tw.lt9 ht bd9 (rd_ov (Ne.symm hq_gF) hxg_F)
  have hlq1 : gT < n := Tw.lt9 ht bd9 (rd_ov (Ne.symm hq_gT) hxg_T)
  have hlq2 : gW < n := Tw.lt9 ht bd9 (rd_ov (Ne.symm hq_gW) hxg_W)
  have hlq3 : gC < n := Tw.lt9 ht bd9 (rd_ov (Ne.symm hq_gC) hxg_C)
  have hlq4 : gTl < n := Tw.lt9 ht bd9 (rd_ov (Ne.symm hq_gTl) hxg_Tl)
  have hlq5 : gHd < n := Tw.lt9 ht bd9 (rd_ov (Ne.symm hq_gHd) hxg_Hd)
  have hlq6 : gBy < n := Tw.lt9 ht bd9 (rd_ov (Ne.symm hq_gBy) hxg_By)
  have hlq7 : gOu < n := Tw.lt9 ht bd9 (rd_ov (Ne.symm hq_gOu) hxg_Ou)
  have hlq8 : gIn < n := Tw.lt9 ht bd9 (rd_ov (Ne.symm hq_gIn) hxg_In)
  have hlq9 : gJo < n := Tw.lt9 ht bd9 (rd_ov (Ne.symm hq_gJo) hxg_Jo)
  have hlq10 : ga < n := Tw.lt9 ht bd9 (rd_ov (Ne.symm hq_ga) hg_O)
  have hlq11 : ca < n := Tw.lt9 ht bd9 (rd_ov (Ne.symm hq_ca) hc_O)
  have hlq12 : cM < n := Tw.lt9 ht bd9 (rd_of (ov_s _ _ _))
  have mp8 : 1 ≤ 2 ^ gn := Nat.one_le_two_pow
  have mq8 : 2 ^ gn ≤ 2 ^ 16 := Nat.pow_le_pow_right (by omega) (by omega)
  refine r_aload_n (pc := 0) dX0_play_0 (i := 0) rfl rfl ?_
  refine t_getE (pc := 1) (.int (iv (gn : Int))) ht (rd_ov (Ne.symm hq_ca) hc_O) fX0_15 dX0_play_1 rfl ?_
  refine t_newJ (pc := 4) (t0 := 1) (N := gn) ht dX0_play_4 (tb_t (k := 79) (w := Cond.arrayClass .long) (by decide +kernel)) rfl (by omega) (by omega) (by omega) (by omega) (fun hp1 Γ2 hE3 hN4 ht5 => ?_)
  have hcM1 : Γ2 cM = some (xJ cJ gn f0) := hE3 _ _ (ov_s _ _ _)
  have htA := Tw.ovr ht5 hcM1
  obtain ⟨nx0, -, htB⟩ := htA.openJ (rd_ov (by omega) (rd_of hN4))
  refine r_astore (pc := 6) (lv' := [(6, .ref n), (0, .ref ca), (1, .ref ga), (2, .int (iv x2)), (3, .int (iv x3)), (4, .int (iv x4)), (5, .int (iv x5))]) dX0_play_6 (by decide) rfl ?_
  refine r_iconst (pc := 8) (v := iv 0) dX0_play_8 (by decide) ?_
  refine r_istore (pc := 9) (lv' := [(7, .int (iv 0)), (6, .ref n), (0, .ref ca), (1, .ref ga), (2, .int (iv x2)), (3, .int (iv x3)), (4, .int (iv x4)), (5, .int (iv x5))]) dX0_play_9 (by decide) rfl ?_
  have B11 : ∀ k : Nat, ∀ nu11 : Nat → Int64, ∀ nx11 : Nat → Int64, ∀ hp11 : MH, Tw (ov (ov Γ2 cM (xJ cJ gn nu11)) n (xJ cJ gn nx11)) hp11 → ∀  (v11_7 : Int), 0 ≤ v11_7 ∧ v11_7 ≤ 200 ∧ (v11_7 ≤ x5) ∧ (eqB nu11 (rnC gm gdr F T W x2 x3 x4 f0 (Int.toNat v11_7)) (gn : Int)) → 200 - v11_7 ≤ (k : Int) → Rn (gG D cI cJ cZ cT lo b L xs) mX0_play d 11 [(0, .ref ca), (1, .ref ga), (2, .int (iv x2)), (3, .int (iv x3)), (4, .int (iv x4)), (5, .int (iv x5)), (6, .ref n), (7, .int (iv v11_7))] [] hp11 (n + 1) (1 - 1) (gn - gn) (pCx Γ cJ cM gn n (fun f => eqB f (rnC gm gdr F T W x2 x3 x4 f0 (Int.toNat x5)) (gn : Int))) := by
    refine lpS _ ?_
    intro k11 ih11 nu11 nx11 hp11 ht11 v11_7 hf11 hm11
    obtain ⟨hf11_0, hf11_1, hf11_2, ha11_3⟩ := hf11
    refine r_iload (pc := 11) dX0_play_11 rfl ?_
    refine r_iload (pc := 13) dX0_play_13 rfl ?_
    refine t_icmp_ge (pc := 15) (tgt := 167) dX0_play_15 (by decide) (by omega) (by omega) (fun c15 => ?_) (fun c15 => ?_)
    · exact r_vret (pc := 167) dX0_play_167 rfl ⟨by omega, rfl, nu11, (Tw.bk hE3 hN4 xJ_any (by omega) ht11), by have h8 : eqB nu11 (rnC gm gdr F T W x2 x3 x4 f0 (Int.toNat v11_7)) (gn : Int) := (by assumption); rw [show v11_7 = x5 by omega] at h8; exact h8⟩
    · refine r_aload_n (pc := 18) dX0_play_18 (i := 0) rfl rfl ?_
      refine t_getE (pc := 19) (.ref cM) ht11 (rd_ov (by omega) (rd_ov (Ne.symm hq_ca) (rd_ext hE3 (rd_ov (Ne.symm hq_ca) hc_O)))) fX0_9 dX0_play_19 rfl ?_
      refine r_iconst (pc := 22) (v := iv 0) dX0_play_22 (by decide) ?_
      refine r_aload (pc := 23) dX0_play_23 rfl ?_
      refine r_iconst (pc := 25) (v := iv 0) dX0_play_25 (by decide) ?_
      refine r_aload_n (pc := 26) dX0_play_26 (i := 0) rfl rfl ?_
      refine t_getE (pc := 27) (.int (iv (gn : Int))) ht11 (rd_ov (by omega) (rd_ov (Ne.symm hq_ca) (rd_ext hE3 (rd_ov (Ne.symm hq_ca) hc_O)))) fX0_15 dX0_play_27 rfl ?_
      refine t_copyJX (pc := 30) (t0 := 1) ht11 (rd_ov (by omega) (rd_of (ov_s _ _ _))) (rd_of (ov_s _ _ _)) aX0_101 dX0_play_30 rfl (by omega) (by omega) (Nat.le_of_ble_eq_true rfl) (fun hp6 ht7 => ?_)
      rw [ov_ov] at ht7
      refine r_iload (pc := 33) dX0_play_33 rfl ?_
      have B46 : ∀ hp46 : MH, Tw (ov (ov Γ2 cM (xJ cJ gn nu11)) n (xJ cJ gn (cpJ nu11 nx11 (Int.toNat 0) (Int.toNat 0) (Int.toNat (gn : Int))))) hp46 → ∀  (u46_0 : Int), 0 ≤ u46_0 ∧ u46_0 ≤ 65535 ∧ ((x4 = 0 ∧ u46_0 = 0) ∨ (x4 ≠ 0 ∧ u46_0 = ((2 ^ gn : Nat) : Int) - 1)) → Rn (gG D cI cJ cZ cT lo b L xs) mX0_play d 46 [(0, .ref ca), (1, .ref ga), (2, .int (iv x2)), (3, .int (iv x3)), (4, .int (iv x4)), (5, .int (iv x5)), (6, .ref n), (7, .int (iv v11_7))] [.int (iv u46_0)] hp46 (n + 1) (1 - 1) (gn - gn) (pCx Γ cJ cM gn n (fun f => eqB f (rnC gm gdr F T W x2 x3 x4 f0 (Int.toNat x5)) (gn : Int))) := by
        intro hp46 ht46 u46_0 hf46
        refine r_istore (pc := 46) (lv' := [(8, .int (iv u46_0)), (0, .ref ca), (1, .ref ga), (2, .int (iv x2)), (3, .int (iv x3)), (4, .int (iv x4)), (5, .int (iv x5)), (6, .ref n), (7, .int (iv v11_7))]) dX0_play_46 (by decide) rfl ?_
        refine r_iconst (pc := 48) (v := iv 0) dX0_play_48 (by decide) ?_
        refine r_istore (pc := 49) (lv' := [(9, .int (iv 0)), (8, .int (iv u46_0)), (0, .ref ca), (1, .ref ga), (2, .int (iv x2)), (3, .int (iv x3)), (4, .int (iv x4)), (5, .int (iv x5)), (6, .ref n), (7, .int (iv v11_7))]) dX0_play_49 (by decide) rfl ?_
        have B51 : ∀ k : Nat, ∀ nx51 : Nat → Int64, ∀ hp51 : MH, Tw (ov (ov Γ2 cM (xJ cJ gn nu11)) n (xJ cJ gn nx51)) hp51 → ∀  (v51_8 : Int) (v51_9 : Int), 0 ≤ v51_8 ∧ v51_8 ≤ 65535 ∧ u46_0 ≤ v51_8 ∧ 0 ≤ v51_9 ∧ v51_9 ≤ 120 ∧ (v51_9 ≤ (gq : Int)) ∧ (plP Tl Hd By W x2 x3 x4 nu11 nx51 gn v51_8 (Int.toNat v51_9)) → 120 - v51_9 ≤ (k : Int) → Rn (gG D cI cJ cZ cT lo b L xs) mX0_play d 51 [(0, .ref ca), (1, .ref ga), (2, .int (iv x2)), (3, .int (iv x3)), (4, .int (iv x4)), (5, .int (iv x5)), (6, .ref n), (7, .int (iv v11_7)), (8, .int (iv v51_8)), (9, .int (iv v51_9))] [] hp51 (n + 1) (1 - 1) (gn - gn) (pCx Γ cJ cM gn n (fun f => eqB f (rnC gm gdr F T W x2 x3 x4 f0 (Int.toNat x5)) (gn : Int))) := by
          refine lpS _ ?_
          intro k51 ih51 nx51 hp51 ht51 v51_8 v51_9 hf51 hm51
          obtain ⟨hf51_0, hf51_1, hf51_2, hf51_3, hf51_4, hf51_5, ha51_6⟩ := hf51
          refine r_iload (pc := 51) dX0_play_51 rfl ?_
          refine r_aload_n (pc := 53) dX0_play_53 (i := 1) rfl rfl ?_
          refine t_getE (pc := 54) (.int (iv (gq : Int))) ht51 (rd_ov (by omega) (rd_ov (Ne.symm hq_ga) (rd_ext hE3 (rd_ov (Ne.symm hq_ga) hg_O)))) fX0_63 dX0_play_54 rfl ?_
          refine t_icmp_ge (pc := 57) (tgt := 146) dX0_play_57 (by decide) (by omega) (by omega) (fun c57 => ?_) (fun c57 => ?_)
          · refine r_aload (pc := 146) dX0_play_146 rfl ?_
            refine r_iconst (pc := 148) (v := iv 0) dX0_play_148 (by decide) ?_
            refine r_aload_n (pc := 149) dX0_play_149 (i := 0) rfl rfl ?_
            refine t_getE (pc := 150) (.ref cM) ht51 (rd_ov (by omega) (rd_ov (Ne.symm hq_ca) (rd_ext hE3 (rd_ov (Ne.symm hq_ca) hc_O)))) fX0_9 dX0_play_150 rfl ?_
            refine r_iconst (pc := 153) (v := iv 0) dX0_play_153 (by decide) ?_
            refine r_aload_n (pc := 154) dX0_play_154 (i := 0) rfl rfl ?_
            refine t_getE (pc := 155) (.int (iv (gn : Int))) ht51 (rd_ov (by omega) (rd_ov (Ne.symm hq_ca) (rd_ext hE3 (rd_ov (Ne.symm hq_ca) hc_O)))) fX0_15 dX0_play_155 rfl ?_
            refine t_copyJX (pc := 158) (t0 := 1) ht51 (rd_of (ov_s _ _ _)) (rd_ov (by omega) (rd_of (ov_s _ _ _))) aX0_101 dX0_play_158 rfl (by omega) (by omega) (Nat.le_of_ble_eq_true rfl) (fun hp8 ht9 => ?_)
            rw [ov_in2 (by omega) ] at ht9
            refine r_iinc (pc := 161) (v := iv (v11_7 + 1)) (lv' := [(7, .int (iv (v11_7 + 1))), (0, .ref ca), (1, .ref ga), (2, .int (iv x2)), (3, .int (iv x3)), (4, .int (iv x4)), (5, .int (iv x5)), (6, .ref n), (8, .int (iv v51_8)), (9, .int (iv v51_9))]) dX0_play_161 rfl (iv_add _ _) (by decide) rfl ?_
            refine r_goto (pc := 164) (tgt := 11) dX0_play_164 (by decide) ?_
            refine Rn.pick (lv' := [(0, .ref ca), (1, .ref ga), (2, .int (iv x2)), (3, .int (iv x3)), (4, .int (iv x4)), (5, .int (iv x5)), (6, .ref n), (7, .int (iv (v11_7 + 1)))]) [1, 2, 3, 4, 5, 6, 7, 0] rfl ?_
            exact ih11 (Int.toNat (200 - (v11_7 + 1))) (by omega) (cpJ nx51 nu11 (Int.toNat 0) (Int.toNat 0) (Int.toNat (gn : Int))) nx51 _ ht9 (v11_7 + 1) ⟨by omega, by omega, by omega, by (first | exact fun u hu => rfl | exact pl_rn (by assumption) (by omega) hgo (by assumption) (by omega) hFT)⟩ (by omega)
          · refine r_aload_n (pc := 60) dX0_play_60 (i := 1) rfl rfl ?_
            refine t_getE (pc := 61) (.ref gHd) ht51 (rd_ov (by omega) (rd_ov (Ne.symm hq_ga) (rd_ext hE3 (rd_ov (Ne.symm hq_ga) hg_O)))) fX0_98 dX0_play_61 rfl ?_
            refine r_iload (pc := 64) dX0_play_64 rfl ?_
            refine t_ialdX (pc := 66) (t0 := 0) ht51 (rd_ov (by omega) (rd_ov (Ne.symm hq_gHd) (rd_ext hE3 (rd_ov (Ne.symm hq_gHd) hxg_Hd)))) dX0_play_66 rfl (by omega) (by omega) (fun b10 => ?_)
            have rb10 := (show Rfx gq 0 ((gn : Int) - 1) Hd by assumption) (Int.toNat v51_9) (by omega)
            have hhd := (by assumption : Rfx gq 0 ((gn : Int) - 1) Hd) (Int.toNat v51_9) (by omega)
            refine r_istore (pc := 67) (lv' := [(10, .int (iv (Hd (Int.toNat v51_9)))), (0, .ref ca), (1, .ref ga), (2, .int (iv x2)), (3, .int (iv x3)), (4, .int (iv x4)), (5, .int (iv x5)), (6, .ref n), (7, .int (iv v11_7)), (8, .int (iv v51_8)), (9, .int (iv v51_9))]) dX0_play_67 (by decide) rfl ?_
            refine r_aload_n (pc := 69) dX0_play_69 (i := 0) rfl rfl ?_
            refine t_getE (pc := 70) (.ref cM) ht51 (rd_ov (by omega) (rd_ov (Ne.symm hq_ca) (rd_ext hE3 (rd_ov (Ne.symm hq_ca) hc_O)))) fX0_9 dX0_play_70 rfl ?_
            refine r_aload_n (pc := 73) dX0_play_73 (i := 1) rfl rfl ?_
            refine t_getE (pc := 74) (.ref gTl) ht51 (rd_ov (by omega) (rd_ov (Ne.symm hq_ga) (rd_ext hE3 (rd_ov (Ne.symm hq_ga) hg_O)))) fX0_66 dX0_play_74 rfl ?_
            refine r_iload (pc := 77) dX0_play_77 rfl ?_
            refine t_ialdX (pc := 79) (t0 := 0) ht51 (rd_ov (by omega) (rd_ov (Ne.symm hq_gTl) (rd_ext hE3 (rd_ov (Ne.symm hq_gTl) hxg_Tl)))) dX0_play_79 rfl (by omega) (by omega) (fun b11 => ?_)
            have rb11 := (show Rfx gq 0 ((gn : Int) - 1) Tl by assumption) (Int.toNat v51_9) (by omega)
            refine t_laldX (pc := 80) (t0 := 1) ht51 (rd_ov (by omega) (rd_of (ov_s _ _ _))) dX0_play_80 rfl (by omega) (by omega) ?_
            refine r_aload_n (pc := 81) dX0_play_81 (i := 1) rfl rfl ?_
            refine t_getE (pc := 82) (.ref gW) ht51 (rd_ov (by omega) (rd_ov (Ne.symm hq_ga) (rd_ext hE3 (rd_ov (Ne.symm hq_ga) hg_O)))) fX0_69 dX0_play_82 rfl ?_
            refine r_aload_n (pc := 85) dX0_play_85 (i := 1) rfl rfl ?_
            refine t_getE (pc := 86) (.ref gBy) ht51 (rd_ov (by omega) (rd_ov (Ne.symm hq_ga) (rd_ext hE3 (rd_ov (Ne.symm hq_ga) hg_O)))) fX0_72 dX0_play_86 rfl ?_
            refine r_iload (pc := 89) dX0_play_89 rfl ?_
            refine t_ialdX (pc := 91) (t0 := 0) ht51 (rd_ov (by omega) (rd_ov (Ne.symm hq_gBy) (rd_ext hE3 (rd_ov (Ne.symm hq_gBy) hxg_By)))) dX0_play_91 rfl (by omega) (by omega) (fun b12 => ?_)
            have rb12 := (show Rfx gq 0 ((gm : Int) - 1) By by assumption) (Int.toNat v51_9) (by omega)
            refine t_ialdX (pc := 92) (t0 := 0) ht51 (rd_ov (by omega) (rd_ov (Ne.symm hq_gW) (rd_ext hE3 (rd_ov (Ne.symm hq_gW) hxg_W)))) dX0_play_92 rfl (by omega) (by omega) (fun b13 => ?_)
            have rb13 := (show Rfx gm (-1000) 1000 W by assumption) (Int.toNat (By (Int.toNat v51_9))) (by omega)
            refine r_i2l (pc := 93) (v := (iv (W (Int.toNat (By (Int.toNat v51_9))))).toInt64) dX0_play_93 rfl ?_
            refine r_iload_n (pc := 94) dX0_play_94 (i := 2) rfl rfl ?_
            refine t_callSJ (pc := 95) (as := [.long (nu11 (Int.toNat (Tl (Int.toNat v51_9)))), .long ((iv (W (Int.toNat (By (Int.toNat v51_9))))).toInt64), .int (iv x2)]) (st := []) kX0_117 dX0_play_95 (c_X0_messageOfx (d := d - 1) (j0 := nu11 (Int.toNat (Tl (Int.toNat v51_9)))) (j1 := (iv (W (Int.toNat (By (Int.toNat v51_9))))).toInt64) (x2 := x2) (by omega) ht51 (by omega)) rfl (by omega) (Nat.le_of_ble_eq_true rfl) rfl (fun hp14 y15 ht16 ey15 => ?_)
            subst ey15
            refine r_lstore (pc := 98) (lv' := [(11, .long (mgV x2 (nu11 (Int.toNat (Tl (Int.toNat v51_9)))) ((iv (W (Int.toNat (By (Int.toNat v51_9))))).toInt64))), (10, .int (iv (Hd (Int.toNat v51_9)))), (0, .ref ca), (1, .ref ga), (2, .int (iv x2)), (3, .int (iv x3)), (4, .int (iv x4)), (5, .int (iv x5)), (6, .ref n), (7, .int (iv v11_7)), (8, .int (iv v51_8)), (9, .int (iv v51_9))]) dX0_play_98 (by decide) rfl ?_
            refine r_aload (pc := 100) dX0_play_100 rfl ?_
            refine r_iload (pc := 102) dX0_play_102 rfl ?_
            refine r_iload (pc := 104) dX0_play_104 rfl ?_
            refine r_iload (pc := 106) dX0_play_106 rfl ?_
            have hq108_17 := shr_le (Int.toNat v51_8) (Int.toNat (Hd (Int.toNat v51_9)))
            refine r_ishr (pc := 108) (v := iv ((Int.toNat v51_8 >>> Int.toNat (Hd (Int.toNat v51_9)) : Nat) : Int)) dX0_play_108 (shr_e (by omega) (by omega)) ?_
            refine r_iconst (pc := 109) (v := iv 1) dX0_play_109 (by decide) ?_
            refine r_iand (pc := 110) (v := iv (((Int.toNat v51_8 >>> Int.toNat (Hd (Int.toNat v51_9)) : Nat) : Int) % 2)) dX0_play_110 (and1_e _ (by omega)) ?_
            have mb110 := @Me_bit v51_8 (Hd (Int.toNat v51_9))
            refine t_if_ne (pc := 111) (tgt := 119) dX0_play_111 (by decide) (by omega) (fun c111 => ?_) (fun c111 => ?_)
            · have pm111 : Me v51_8 (Int.toNat (Hd (Int.toNat v51_9))) := Me_bit.mp (by omega)
              refine r_aload (pc := 119) dX0_play_119 rfl ?_
              refine r_iload (pc := 121) dX0_play_121 rfl ?_
              refine t_laldX (pc := 123) (t0 := 1) ht16 (rd_of (ov_s _ _ _)) dX0_play_123 rfl (by omega) (by omega) ?_
              refine r_lload (pc := 124) dX0_play_124 rfl ?_
              refine r_iload_n (pc := 126) dX0_play_126 (i := 3) rfl rfl ?_
              refine t_callSJ (pc := 127) (as := [.long (nx51 (Int.toNat (Hd (Int.toNat v51_9)))), .long (mgV x2 (nu11 (Int.toNat (Tl (Int.toNat v51_9)))) ((iv (W (Int.toNat (By (Int.toNat v51_9))))).toInt64)), .int (iv x3)]) (st := [.int (iv (Hd (Int.toNat v51_9))), .ref n]) kX0_120 dX0_play_127 (c_X0_joinOfx (d := d - 1) (j0 := nx51 (Int.toNat (Hd (Int.toNat v51_9)))) (j1 := mgV x2 (nu11 (Int.toNat (Tl (Int.toNat v51_9)))) ((iv (W (Int.toNat (By (Int.toNat v51_9))))).toInt64)) (x2 := x3) (by omega) ht16 (by omega)) rfl (by omega) (Nat.le_of_ble_eq_true rfl) rfl (fun hp18 y19 ht20 ey19 => ?_)
              subst ey19
              refine t_lastX (pc := 130) (t0 := 1) ht20 (ov_s _ _ _) dX0_play_130 rfl (by omega) (by omega) (fun hp21 ht22 => ?_)
              rw [ov_ov] at ht22
              refine r_iload (pc := 131) dX0_play_131 rfl ?_
              refine r_iconst (pc := 133) (v := iv 1) dX0_play_133 (by decide) ?_
              refine r_iload (pc := 134) dX0_play_134 rfl ?_
              refine r_ishl (pc := 136) (v := iv ((2 ^ Int.toNat (Hd (Int.toNat v51_9)) : Nat) : Int)) dX0_play_136 (shl_e (by omega)) ?_
              have mp136_23 : 1 ≤ 2 ^ Int.toNat (Hd (Int.toNat v51_9)) := Nat.one_le_two_pow
              have mq136_24 : 2 ^ Int.toNat (Hd (Int.toNat v51_9)) ≤ 2 ^ 15 := Nat.pow_le_pow_right (by omega) (by omega)
              have ms136 := Me_shl (Int.toNat (Hd (Int.toNat v51_9)))
              obtain ⟨z25, hz25, bz25⟩ := or_2 16 v51_8 ((2 ^ Int.toNat (Hd (Int.toNat v51_9)) : Nat) : Int) (by omega) (by omega) (by decide)
              refine r_ior (pc := 137) (v := iv z25) dX0_play_137 hz25 ?_
              have mez25 := Me_or hz25 (by omega) (by omega) (by omega)
              have hgu := got_up mez25 ms136
              refine r_istore (pc := 138) (lv' := [(8, .int (iv z25)), (11, .long (mgV x2 (nu11 (Int.toNat (Tl (Int.toNat v51_9)))) ((iv (W (Int.toNat (By (Int.toNat v51_9))))).toInt64))), (10, .int (iv (Hd (Int.toNat v51_9)))), (0, .ref ca), (1, .ref ga), (2, .int (iv x2)), (3, .int (iv x3)), (4, .int (iv x4)), (5, .int (iv x5)), (6, .ref n), (7, .int (iv v11_7)), (9, .int (iv v51_9))]) dX0_play_138 (by decide) rfl ?_
              refine r_iinc (pc := 140) (v := iv (v51_9 + 1)) (lv' := [(9, .int (iv (v51_9 + 1))), (8, .int (iv z25)), (11, .long (mgV x2 (nu11 (Int.toNat (Tl (Int.toNat v51_9)))) ((iv (W (Int.toNat (By (Int.toNat v51_9))))).toInt64))), (10, .int (iv (Hd (Int.toNat v51_9)))), (0, .ref ca), (1, .ref ga), (2, .int (iv x2)), (3, .int (iv x3)), (4, .int (iv x4)), (5, .int (iv x5)), (6, .ref n), (7, .int (iv v11_7))]) dX0_play_140 rfl (iv_add _ _) (by decide) rfl ?_
              refine r_goto (pc := 143) (tgt := 51) dX0_play_143 (by decide) ?_
              refine Rn.pick (lv' := [(0, .ref ca), (1, .ref ga), (2, .int (iv x2)), (3, .int (iv x3)), (4, .int (iv x4)), (5, .int (iv x5)), (6, .ref n), (7, .int (iv v11_7)), (8, .int (iv z25)), (9, .int (iv (v51_9 + 1)))]) [4, 5, 6, 7, 8, 9, 10, 11, 1, 0] rfl ?_
              exact ih51 (Int.toNat (120 - (v51_9 + 1))) (by omega) (fuj nx51 (Int.toNat (Hd (Int.toNat v51_9))) (jnV x3 (nx51 (Int.toNat (Hd (Int.toNat v51_9)))) (mgV x2 (nu11 (Int.toNat (Tl (Int.toNat v51_9)))) ((iv (W (Int.toNat (By (Int.toNat v51_9))))).toInt64)))) _ ht22 z25 (v51_9 + 1) ⟨by omega, by omega, by omega, by omega, by omega, by omega, by (first | exact pl_0 cpJ_all (fun e9 v hv h9 => by rw [show u46_0 = 0 by omega] at h9; exact Me_0 v h9) (fun e9 v hv => by rw [show u46_0 = ((2 ^ gn : Nat) : Int) - 1 by omega]; exact (Me_all v).mpr hv) | exact pl_up (by assumption) (by omega) (by omega) rfl (Or.inl ⟨by assumption, rfl⟩) hgu | exact pl_up (by assumption) (by omega) (by omega) rfl (Or.inr ⟨by assumption, rfl⟩) hgu)⟩ (by omega)
            · have nm111 : ¬ Me v51_8 (Int.toNat (Hd (Int.toNat v51_9))) := fun h9 => absurd (Me_bit.mpr h9) (by omega)
              refine r_lload (pc := 114) dX0_play_114 rfl ?_
              refine r_goto (pc := 116) (tgt := 130) dX0_play_116 (by decide) ?_
              refine t_lastX (pc := 130) (t0 := 1) ht16 (ov_s _ _ _) dX0_play_130 rfl (by omega) (by omega) (fun hp26 ht27 => ?_)
              rw [ov_ov] at ht27
              refine r_iload (pc := 131) dX0_play_131 rfl ?_
              refine r_iconst (pc := 133) (v := iv 1) dX0_play_133 (by decide) ?_
              refine r_iload (pc := 134) dX0_play_134 rfl ?_
              refine r_ishl (pc := 136) (v := iv ((2 ^ Int.toNat (Hd (Int.toNat v51_9)) : Nat) : Int)) dX0_play_136 (shl_e (by omega)) ?_
              have mp136_28 : 1 ≤ 2 ^ Int.toNat (Hd (Int.toNat v51_9)) := Nat.one_le_two_pow
              have mq136_29 : 2 ^ Int.toNat (Hd (Int.toNat v51_9)) ≤ 2 ^ 15 := Nat.pow_le_pow_right (by omega) (by omega)
              have ms136 := Me_shl (Int.toNat (Hd (Int.toNat v51_9)))
              obtain ⟨z30, hz30, bz30⟩ := or_2 16 v51_8 ((2 ^ Int.toNat (Hd (Int.toNat v51_9)) : Nat) : Int) (by omega) (by omega) (by decide)
              refine r_ior (pc := 137) (v := iv z30) dX0_play_137 hz30 ?_
              have mez30 := Me_or hz30 (by omega) (by omega) (by omega)
              have hgu := got_up mez30 ms136
              refine r_istore (pc := 138) (lv' := [(8, .int (iv z30)), (11, .long (mgV x2 (nu11 (Int.toNat (Tl (Int.toNat v51_9)))) ((iv (W (Int.toNat (By (Int.toNat v51_9))))).toInt64))), (10, .int (iv (Hd (Int.toNat v51_9)))), (0, .ref ca), (1, .ref ga), (2, .int (iv x2)), (3, .int (iv x3)), (4, .int (iv x4)), (5, .int (iv x5)), (6, .ref n), (7, .int (iv v11_7)), (9, .int (iv v51_9))]) dX0_play_138 (by decide) rfl ?_
              refine r_iinc (pc := 140) (v := iv (v51_9 + 1)) (lv' := [(9, .int (iv (v51_9 + 1))), (8, .int (iv z30)), (11, .long (mgV x2 (nu11 (Int.toNat (Tl (Int.toNat v51_9)))) ((iv (W (Int.toNat (By (Int.toNat v51_9))))).toInt64))), (10, .int (iv (Hd (Int.toNat v51_9)))), (0, .ref ca), (1, .ref ga), (2, .int (iv x2)), (3, .int (iv x3)), (4, .int (iv x4)), (5, .int (iv x5)), (6, .ref n), (7, .int (iv v11_7))]) dX0_play_140 rfl (iv_add _ _) (by decide) rfl ?_
              refine r_goto (pc := 143) (tgt := 51) dX0_play_143 (by decide) ?_
              refine Rn.pick (lv' := [(0, .ref ca), (1, .ref ga), (2, .int (iv x2)), (3, .int (iv x3)), (4, .int (iv x4)), (5, .int (iv x5)), (6, .ref n), (7, .int (iv v11_7)), (8, .int (iv z30)), (9, .int (iv (v51_9 + 1)))]) [4, 5, 6, 7, 8, 9, 10, 11, 1, 0] rfl ?_
              exact ih51 (Int.toNat (120 - (v51_9 + 1))) (by omega) (fuj nx51 (Int.toNat (Hd (Int.toNat v51_9))) (mgV x2 (nu11 (Int.toNat (Tl (Int.toNat v51_9)))) ((iv (W (Int.toNat (By (Int.toNat v51_9))))).toInt64))) _ ht27 z30 (v51_9 + 1) ⟨by omega, by omega, by omega, by omega, by omega, by omega, by (first | exact pl_0 cpJ_all (fun e9 v hv h9 => by rw [show u46_0 = 0 by omega] at h9; exact Me_0 v h9) (fun e9 v hv => by rw [show u46_0 = ((2 ^ gn : Nat) : Int) - 1 by omega]; exact (Me_all v).mpr hv) | exact pl_up (by assumption) (by omega) (by omega) rfl (Or.inl ⟨by assumption, rfl⟩) hgu | exact pl_up (by assumption) (by omega) (by omega) rfl (Or.inr ⟨by assumption, rfl⟩) hgu)⟩ (by omega)
        refine Rn.pick (lv' := [(0, .ref ca), (1, .ref ga), (2, .int (iv x2)), (3, .int (iv x3)), (4, .int (iv x4)), (5, .int (iv x5)), (6, .ref n), (7, .int (iv v11_7)), (8, .int (iv u46_0)), (9, .int (iv 0))]) [2, 3, 4, 5, 6, 7, 8, 9, 1, 0] rfl ?_
        exact B51 (Int.toNat (120 - 0)) (cpJ nu11 nx11 (Int.toNat 0) (Int.toNat 0) (Int.toNat (gn : Int))) _ ht46 u46_0 0 ⟨by omega, by omega, by omega, by omega, by omega, by omega, by (first | exact pl_0 cpJ_all (fun e9 v hv h9 => by rw [show u46_0 = 0 by omega] at h9; exact Me_0 v h9) (fun e9 v hv => by rw [show u46_0 = ((2 ^ gn : Nat) : Int) - 1 by omega]; exact (Me_all v).mpr hv) | exact pl_up (by assumption) (by omega) (by omega) rfl (Or.inl ⟨by assumption, rfl⟩) hgu | exact pl_up (by assumption) (by omega) (by omega) rfl (Or.inr ⟨by assumption, rfl⟩) hgu)⟩ (by omega)
      refine t_if_eq (pc := 35) (tgt := 45) dX0_play_35 (by decide) (by omega) (fun c35 => ?_) (fun c35 => ?_)
      · refine r_iconst (pc := 45) (v := iv 0) dX0_play_45 (by decide) ?_
        refine Rn.pick (lv' := [(0, .ref ca), (1, .ref ga), (2, .int (iv x2)), (3, .int (iv x3)), (4, .int (iv x4)), (5, .int (iv x5)), (6, .ref n), (7, .int (iv v11_7))]) [0, 1, 2, 3, 4, 5, 6, 7] rfl ?_
        exact B46 _ ht7 0 ⟨by omega, by omega, by omega⟩
      · refine r_aload_n (pc := 38) dX0_play_38 (i := 1) rfl rfl ?_
        refine t_callVI (pc := 39) (as := []) (st := []) ht7 (rd_ov (by omega) (rd_ov (Ne.symm hq_ga) (rd_ext hE3 (rd_ov (Ne.symm hq_ga) hg_O)))) kX0_75 rfl dX0_play_39 (c_X3_allNodesx (d := d - 1)  (by omega) (TyG.ovx (by omega) (TyG.ovx ⟨hq_ga, hq_gF, hq_gT, hq_gW, hq_gC, hq_gTl, hq_gHd, hq_gBy, hq_gOu, hq_gIn, hq_gJo⟩ (TyG.ext hE3 (TyG.ovx ⟨hq_ga, hq_gF, hq_gT, hq_gW, hq_gC, hq_gTl, hq_gHd, hq_gBy, hq_gOu, hq_gIn, hq_gJo⟩ hg)))) (XG.ovx (by omega) (XG.ovx ⟨hq_gF, hq_gT, hq_gW, hq_gC, hq_gTl, hq_gHd, hq_gBy, hq_gOu, hq_gIn, hq_gJo⟩ (XG.ext hE3 (XG.ovx ⟨hq_gF, hq_gT, hq_gW, hq_gC, hq_gTl, hq_gHd, hq_gBy, hq_gOu, hq_gIn, hq_gJo⟩ hxg)))) ht7  ) rfl (by omega) (Nat.le_of_ble_eq_true rfl) rfl (fun hp32 y31 ht33 by31 => ?_)
        have fy31 : (y31 = ((2 ^ gn : Nat) : Int) - 1) := by31
        have ey39 : y31 = ((2 ^ gn : Nat) : Int) - 1 := fy31
        subst ey39
        refine r_goto (pc := 42) (tgt := 46) dX0_play_42 (by decide) ?_
        refine Rn.pick (lv' := [(0, .ref ca), (1, .ref ga), (2, .int (iv x2)), (3, .int (iv x3)), (4, .int (iv x4)), (5, .int (iv x5)), (6, .ref n), (7, .int (iv v11_7))]) [0, 1, 2, 3, 4, 5, 6, 7] rfl ?_
        exact B46 _ ht33 (((2 ^ gn : Nat) : Int) - 1) ⟨by omega, by omega, by omega⟩
  refine Rn.pick (lv' := [(0, .ref ca), (1, .ref ga), (2, .int (iv x2)), (3, .int (iv x3)), (4, .int (iv x4)), (5, .int (iv x5)), (6, .ref n), (7, .int (iv 0))]) [2, 3, 4, 5, 6, 7, 1, 0] rfl ?_
  exact B11 (Int.toNat (200 - 0)) f0 nx0 _ htB 0 ⟨by omega, by omega, by omega, by (first | exact fun u hu => rfl | exact pl_rn (by assumption) (by omega) hgo (by assumption) (by omega) hFT)⟩ (by omega)
