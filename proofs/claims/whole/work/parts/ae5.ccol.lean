set_option maxHeartbeats 4000000 in
set_option maxRecDepth 100000 in
theorem c_X0_countWalksx {D : va_G} {cI cJ cZ cT : ClassId} {lo b L : Nat} {xs : Nat → Int32} {hp : MH} {n d : Nat} {Γ : TG} {ga : Nat} {gF : Nat} {gT : Nat} {gW : Nat} {gC : Nat} {gTl : Nat} {gHd : Nat} {gBy : Nat} {gOu : Nat} {gIn : Nat} {gJo : Nat} {gn : Nat} {gm : Nat} {gq : Nat} {gdr : Int} {ca cM : Nat} {f0 : Nat → Int64} {F T W C Tl Hd By Ou In Jo : Nat → Int} {x2 : Int} {pos : Nat → Nat} (hd0 : 1 ≤ d) (hg : TyG Γ cI cJ cZ ga gF gT gW gC gTl gHd gBy gOu gIn gJo gn gm gq gdr) (hxg : XG Γ cI gF gT gW gC gTl gHd gBy gOu gIn gJo gn gm gq F T W C Tl Hd By Ou In Jo) (hc : TyCw Γ cI cJ cZ ca cM gn) (hne : nE cM ga ∧ nE cM gF ∧ nE cM gT ∧ nE cM gW ∧ nE cM gC ∧ nE cM gTl ∧ nE cM gHd ∧ nE cM gBy ∧ nE cM gOu ∧ nE cM gIn ∧ nE cM gJo ∧ nE cM ca) (ht : Tw (ov Γ cM (xJ cJ gn f0)) hp) (hx2 : 0 ≤ x2 ∧ x2 ≤ 1000) (hgo : GoS gm gq gdr F T Tl Hd By pos) : Mt (gG D cI cJ cZ cT lo b L xs) mX0_countWalks d 1 gn [.ref ca, .ref ga, .int (iv x2)] hp n (pCx Γ cJ cM gn n (fun f => eqB f (wkC gm gdr F T (Int.toNat x2)) (gn : Int))) := by
  refine Mt.of rfl (Nat.le_of_ble_eq_true rfl) ?_
  refine Rn.pick (lv' := [(0, .ref ca), (1, .ref ga), (2, .int (iv x2))]) [0, 1, 2] rfl ?_
  obtain ⟨hg_O, hg_from, hg_to, hg_weight, hg_cost, hg_tail, hg_head, hg_by, hg_out, hg_in, hg_joined, hg_b⟩ := id hg
  obtain ⟨⟨hxg_F, hxg_T, hxg_W, hxg_C, hxg_Tl, hxg_Hd, hxg_By, hxg_Ou, hxg_In, hxg_Jo⟩, ⟨hrg_F, hrg_T, hrg_W, hrg_C, hrg_Tl, hrg_Hd, hrg_By, hrg_Ou, hrg_In, hrg_Jo⟩, houg⟩ := id hxg
  obtain ⟨hq_ga, hq_gF, hq_gT, hq_gW, hq_gC, hq_gTl, hq_gHd, hq_gBy, hq_gOu, hq_gIn, hq_gJo, hq_ca⟩ := id hne
  obtain ⟨hc_O, hc_numbers, hc_b⟩ := id hc
  have hFT : ∀ k, k < gm → (0 ≤ F k ∧ F k < (gn : Int)) ∧ (0 ≤ T k ∧ T k < (gn : Int)) := fun k hk => by have h1 := hrg_F k hk; have h2 := hrg_T k hk; omega
  refine Rn.bd (fun bd9 => ?_)
  have hlq0 : gF < n := Tw.lt9 ht bd9 (rd_ov (Ne.symm hq_gF) hxg_F)
  have hlq1 : gT < n := Tw.lt9 ht bd9 (rd_ov (Ne.symm hq_gT) hxg_T)
  have hlq2 : gW < n := Tw.lt9 ht bd9 (rd_ov (Ne.symm hq_gW) hxg_W)
  have hlq3 : gC < n := Tw.lt9 ht bd9 (rd_ov (Ne.symm hq_gC) hxg_C)
  have hlq4 : gTl < n := Tw.lt9 ht bd9 (rd_ov (Ne.symm hq_gTl) hxg_Tl)
  have hlq5 : gHd < n := Tw.lt9 ht bd9 (rd_ov (Ne.symm hq_gHd) hxg_Hd)
  have hlq6 : gBy < n := Tw.lt9 ht bd9 (rd_ov (Ne.symm hq_gBy) hxg_By)
  have hlq7 : gOu < n := Tw.lt9 ht bd9 (rd_ov (Ne.symm hq_gOu) hxg_Ou)
  have hlq8 : gIn < n := Tw.lt9 ht bd9 (rd_ov (Ne.symm hq_gIn) hxg_In)
  have hlq9 : gJo < n := Tw.lt9 ht bd9 (rd_ov (Ne.symm hq_gJo) hxg_Jo)
  have hlq10 : ga < n := Tw.lt9 ht bd9 (rd_ov (Ne.symm hq_ga) hg_O)
  have hlq11 : ca < n := Tw.lt9 ht bd9 (rd_ov (Ne.symm hq_ca) hc_O)
  have hlq12 : cM < n := Tw.lt9 ht bd9 (rd_of (ov_s _ _ _))
  refine r_aload_n (pc := 0) dX0_countWalks_0 (i := 0) rfl rfl ?_
  refine t_getE (pc := 1) (.ref cM) ht (rd_ov (Ne.symm hq_ca) hc_O) fX0_9 dX0_countWalks_1 rfl ?_
  refine r_lconst (pc := 4) (v := 1) dX0_countWalks_4 (by decide) ?_
  have hk4 : (1 : Int64).toInt = 1 := by decide
  refine t_fillJX (pc := 5) ht (rd_of (ov_s _ _ _)) kX0_95 dX0_countWalks_5 (by omega) (by omega) (Nat.le_of_ble_eq_true rfl) (fun hp1 ht2 => ?_)
  rw [ov_ov] at ht2
  refine r_aload_n (pc := 8) dX0_countWalks_8 (i := 0) rfl rfl ?_
  refine t_getE (pc := 9) (.int (iv (gn : Int))) ht2 (rd_ov (Ne.symm hq_ca) hc_O) fX0_15 dX0_countWalks_9 rfl ?_
  refine t_newJ (pc := 12) (t0 := 1) (N := gn) ht2 dX0_countWalks_12 (tb_t (k := 79) (w := Cond.arrayClass .long) (by decide +kernel)) rfl (by omega) (by omega) (by omega) (by omega) (fun hp3 Γ4 hE5 hN6 ht7 => ?_)
  have hcM1 : Γ4 cM = some (xJ cJ gn (fun _ => (1 : Int64))) := hE5 _ _ (ov_s _ _ _)
  have htA := Tw.ovr ht7 hcM1
  obtain ⟨nx0, -, htB⟩ := htA.openJ (rd_ov (by omega) (rd_of hN6))
  refine r_astore_n (pc := 14) (lv' := [(3, .ref n), (0, .ref ca), (1, .ref ga), (2, .int (iv x2))]) dX0_countWalks_14 (i := 3) rfl (by decide) rfl ?_
  refine r_aload_n (pc := 15) dX0_countWalks_15 (i := 1) rfl rfl ?_
  refine t_getE (pc := 16) (.ref gTl) htB (rd_ov (by omega) (rd_ov (Ne.symm hq_ga) (rd_ext hE5 (rd_ov (Ne.symm hq_ga) hg_O)))) fX0_66 dX0_countWalks_16 rfl ?_
  refine r_astore (pc := 19) (lv' := [(4, .ref gTl), (3, .ref n), (0, .ref ca), (1, .ref ga), (2, .int (iv x2))]) dX0_countWalks_19 (by decide) rfl ?_
  refine r_aload_n (pc := 21) dX0_countWalks_21 (i := 1) rfl rfl ?_
  refine t_getE (pc := 22) (.ref gHd) htB (rd_ov (by omega) (rd_ov (Ne.symm hq_ga) (rd_ext hE5 (rd_ov (Ne.symm hq_ga) hg_O)))) fX0_98 dX0_countWalks_22 rfl ?_
  refine r_astore (pc := 25) (lv' := [(5, .ref gHd), (4, .ref gTl), (3, .ref n), (0, .ref ca), (1, .ref ga), (2, .int (iv x2))]) dX0_countWalks_25 (by decide) rfl ?_
  refine r_iconst (pc := 27) (v := iv 0) dX0_countWalks_27 (by decide) ?_
  refine r_istore (pc := 28) (lv' := [(6, .int (iv 0)), (5, .ref gHd), (4, .ref gTl), (3, .ref n), (0, .ref ca), (1, .ref ga), (2, .int (iv x2))]) dX0_countWalks_28 (by decide) rfl ?_
  have B30 : ∀ k : Nat, ∀ nu30 : Nat → Int64, ∀ nx30 : Nat → Int64, ∀ hp30 : MH, Tw (ov (ov Γ4 cM (xJ cJ gn nu30)) n (xJ cJ gn nx30)) hp30 → ∀  (v30_6 : Int), 0 ≤ v30_6 ∧ v30_6 ≤ 1000 ∧ (v30_6 ≤ x2) ∧ (eqB nu30 (wkC gm gdr F T (Int.toNat v30_6)) (gn : Int)) → 1000 - v30_6 ≤ (k : Int) → Rn (gG D cI cJ cZ cT lo b L xs) mX0_countWalks d 30 [(0, .ref ca), (2, .int (iv x2)), (3, .ref n), (4, .ref gTl), (5, .ref gHd), (6, .int (iv v30_6))] [] hp30 (n + 1) (1 - 1) (gn - gn) (pCx Γ cJ cM gn n (fun f => eqB f (wkC gm gdr F T (Int.toNat x2)) (gn : Int))) := by
    refine lpS _ ?_
    intro k30 ih30 nu30 nx30 hp30 ht30 v30_6 hf30 hm30
    obtain ⟨hf30_0, hf30_1, hf30_2, ha30_3⟩ := hf30
    refine r_iload (pc := 30) dX0_countWalks_30 rfl ?_
    refine r_iload_n (pc := 32) dX0_countWalks_32 (i := 2) rfl rfl ?_
    refine t_icmp_ge (pc := 33) (tgt := 106) dX0_countWalks_33 (by decide) (by omega) (by omega) (fun c33 => ?_) (fun c33 => ?_)
    · exact r_vret (pc := 106) dX0_countWalks_106 rfl ⟨by omega, rfl, nu30, (Tw.bk hE5 hN6 xJ_any (by omega) ht30), by have h8 : eqB nu30 (wkC gm gdr F T (Int.toNat v30_6)) (gn : Int) := (by assumption); rw [show v30_6 = x2 by omega] at h8; exact h8⟩
    · refine r_aload_n (pc := 36) dX0_countWalks_36 (i := 3) rfl rfl ?_
      refine r_lconst (pc := 37) (v := 0) dX0_countWalks_37 (by decide) ?_
      have hk37 : (0 : Int64).toInt = 0 := by decide
      refine t_fillJX (pc := 38) ht30 (rd_of (ov_s _ _ _)) kX0_95 dX0_countWalks_38 (by omega) (by omega) (Nat.le_of_ble_eq_true rfl) (fun hp8 ht9 => ?_)
      rw [ov_ov] at ht9
      refine r_iconst (pc := 41) (v := iv 0) dX0_countWalks_41 (by decide) ?_
      refine r_istore (pc := 42) (lv' := [(7, .int (iv 0)), (0, .ref ca), (2, .int (iv x2)), (3, .ref n), (4, .ref gTl), (5, .ref gHd), (6, .int (iv v30_6))]) dX0_countWalks_42 (by decide) rfl ?_
      have B44 : ∀ k : Nat, ∀ nx44 : Nat → Int64, ∀ hp44 : MH, Tw (ov (ov Γ4 cM (xJ cJ gn nu30)) n (xJ cJ gn nx44)) hp44 → ∀  (v44_7 : Int), 0 ≤ v44_7 ∧ v44_7 ≤ 120 ∧ (v44_7 ≤ (gq : Int)) ∧ (nx44 = wgF Tl Hd nu30 (Int.toNat v44_7)) → 120 - v44_7 ≤ (k : Int) → Rn (gG D cI cJ cZ cT lo b L xs) mX0_countWalks d 44 [(0, .ref ca), (2, .int (iv x2)), (3, .ref n), (4, .ref gTl), (5, .ref gHd), (6, .int (iv v30_6)), (7, .int (iv v44_7))] [] hp44 (n + 1) (1 - 1) (gn - gn) (pCx Γ cJ cM gn n (fun f => eqB f (wkC gm gdr F T (Int.toNat x2)) (gn : Int))) := by
        refine lpS _ ?_
        intro k44 ih44 nx44 hp44 ht44 v44_7 hf44 hm44
        obtain ⟨hf44_0, hf44_1, hf44_2, ha44_3⟩ := hf44
        refine r_iload (pc := 44) dX0_countWalks_44 rfl ?_
        refine r_aload (pc := 46) dX0_countWalks_46 rfl ?_
        refine t_lenI (pc := 48) (t0 := 0) ht44 (rd_ov (by omega) (rd_ov (Ne.symm hq_gTl) (rd_ext hE5 (rd_ov (Ne.symm hq_gTl) hxg_Tl)))) dX0_countWalks_48 rfl ?_
        refine t_icmp_ge (pc := 49) (tgt := 86) dX0_countWalks_49 (by decide) (by omega) (by omega) (fun c49 => ?_) (fun c49 => ?_)
        · refine r_aload_n (pc := 86) dX0_countWalks_86 (i := 3) rfl rfl ?_
          refine r_iconst (pc := 87) (v := iv 0) dX0_countWalks_87 (by decide) ?_
          refine r_aload_n (pc := 88) dX0_countWalks_88 (i := 0) rfl rfl ?_
          refine t_getE (pc := 89) (.ref cM) ht44 (rd_ov (by omega) (rd_ov (Ne.symm hq_ca) (rd_ext hE5 (rd_ov (Ne.symm hq_ca) hc_O)))) fX0_9 dX0_countWalks_89 rfl ?_
          refine r_iconst (pc := 92) (v := iv 0) dX0_countWalks_92 (by decide) ?_
          refine r_aload_n (pc := 93) dX0_countWalks_93 (i := 0) rfl rfl ?_
          refine t_getE (pc := 94) (.int (iv (gn : Int))) ht44 (rd_ov (by omega) (rd_ov (Ne.symm hq_ca) (rd_ext hE5 (rd_ov (Ne.symm hq_ca) hc_O)))) fX0_15 dX0_countWalks_94 rfl ?_
          refine t_copyJX (pc := 97) (t0 := 1) ht44 (rd_of (ov_s _ _ _)) (rd_ov (by omega) (rd_of (ov_s _ _ _))) aX0_101 dX0_countWalks_97 rfl (by omega) (by omega) (Nat.le_of_ble_eq_true rfl) (fun hp10 ht11 => ?_)
          rw [ov_in2 (by omega) ] at ht11
          refine r_iinc (pc := 100) (v := iv (v30_6 + 1)) (lv' := [(6, .int (iv (v30_6 + 1))), (0, .ref ca), (2, .int (iv x2)), (3, .ref n), (4, .ref gTl), (5, .ref gHd), (7, .int (iv v44_7))]) dX0_countWalks_100 rfl (iv_add _ _) (by decide) rfl ?_
          refine r_goto (pc := 103) (tgt := 30) dX0_countWalks_103 (by decide) ?_
          refine Rn.pick (lv' := [(0, .ref ca), (2, .int (iv x2)), (3, .ref n), (4, .ref gTl), (5, .ref gHd), (6, .int (iv (v30_6 + 1)))]) [1, 2, 3, 4, 5, 0] rfl ?_
          exact ih30 (Int.toNat (1000 - (v30_6 + 1))) (by omega) (cpJ nx44 nu30 (Int.toNat 0) (Int.toNat 0) (Int.toNat (gn : Int))) nx44 _ ht11 (v30_6 + 1) ⟨by omega, by omega, by omega, by (first | exact fun u hu => rfl | exact wg_rn (by assumption) (by omega) hgo (by assumption) (by omega) hFT)⟩ (by omega)
        · refine r_iload (pc := 52) dX0_countWalks_52 rfl ?_
          refine r_aload (pc := 54) dX0_countWalks_54 rfl ?_
          refine t_lenI (pc := 56) (t0 := 0) ht44 (rd_ov (by omega) (rd_ov (Ne.symm hq_gHd) (rd_ext hE5 (rd_ov (Ne.symm hq_gHd) hxg_Hd)))) dX0_countWalks_56 rfl ?_
          refine t_icmp_ge (pc := 57) (tgt := 86) dX0_countWalks_57 (by decide) (by omega) (by omega) (fun c57 => ?_) (fun c57 => ?_)
          · refine r_aload_n (pc := 86) dX0_countWalks_86 (i := 3) rfl rfl ?_
            refine r_iconst (pc := 87) (v := iv 0) dX0_countWalks_87 (by decide) ?_
            refine r_aload_n (pc := 88) dX0_countWalks_88 (i := 0) rfl rfl ?_
            refine t_getE (pc := 89) (.ref cM) ht44 (rd_ov (by omega) (rd_ov (Ne.symm hq_ca) (rd_ext hE5 (rd_ov (Ne.symm hq_ca) hc_O)))) fX0_9 dX0_countWalks_89 rfl ?_
            refine r_iconst (pc := 92) (v := iv 0) dX0_countWalks_92 (by decide) ?_
            refine r_aload_n (pc := 93) dX0_countWalks_93 (i := 0) rfl rfl ?_
            refine t_getE (pc := 94) (.int (iv (gn : Int))) ht44 (rd_ov (by omega) (rd_ov (Ne.symm hq_ca) (rd_ext hE5 (rd_ov (Ne.symm hq_ca) hc_O)))) fX0_15 dX0_countWalks_94 rfl ?_
            refine t_copyJX (pc := 97) (t0 := 1) ht44 (rd_of (ov_s _ _ _)) (rd_ov (by omega) (rd_of (ov_s _ _ _))) aX0_101 dX0_countWalks_97 rfl (by omega) (by omega) (Nat.le_of_ble_eq_true rfl) (fun hp12 ht13 => ?_)
            rw [ov_in2 (by omega) ] at ht13
            refine r_iinc (pc := 100) (v := iv (v30_6 + 1)) (lv' := [(6, .int (iv (v30_6 + 1))), (0, .ref ca), (2, .int (iv x2)), (3, .ref n), (4, .ref gTl), (5, .ref gHd), (7, .int (iv v44_7))]) dX0_countWalks_100 rfl (iv_add _ _) (by decide) rfl ?_
            refine r_goto (pc := 103) (tgt := 30) dX0_countWalks_103 (by decide) ?_
            refine Rn.pick (lv' := [(0, .ref ca), (2, .int (iv x2)), (3, .ref n), (4, .ref gTl), (5, .ref gHd), (6, .int (iv (v30_6 + 1)))]) [1, 2, 3, 4, 5, 0] rfl ?_
            exact ih30 (Int.toNat (1000 - (v30_6 + 1))) (by omega) (cpJ nx44 nu30 (Int.toNat 0) (Int.toNat 0) (Int.toNat (gn : Int))) nx44 _ ht13 (v30_6 + 1) ⟨by omega, by omega, by omega, by (first | exact fun u hu => rfl | exact wg_rn (by assumption) (by omega) hgo (by assumption) (by omega) hFT)⟩ (by omega)
          · refine r_aload_n (pc := 60) dX0_countWalks_60 (i := 3) rfl rfl ?_
            refine r_aload (pc := 61) dX0_countWalks_61 rfl ?_
            refine r_iload (pc := 63) dX0_countWalks_63 rfl ?_
            refine t_ialdX (pc := 65) (t0 := 0) ht44 (rd_ov (by omega) (rd_ov (Ne.symm hq_gTl) (rd_ext hE5 (rd_ov (Ne.symm hq_gTl) hxg_Tl)))) dX0_countWalks_65 rfl (by omega) (by omega) (fun b14 => ?_)
            have rb14 := (show Rfx gq 0 ((gn : Int) - 1) Tl by assumption) (Int.toNat v44_7) (by omega)
            refine r_dup2_11 (pc := 66) dX0_countWalks_66 rfl rfl ?_
            refine t_laldX (pc := 67) (t0 := 1) ht44 (rd_of (ov_s _ _ _)) dX0_countWalks_67 rfl (by omega) (by omega) ?_
            refine r_aload_n (pc := 68) dX0_countWalks_68 (i := 0) rfl rfl ?_
            refine t_getE (pc := 69) (.ref cM) ht44 (rd_ov (by omega) (rd_ov (Ne.symm hq_ca) (rd_ext hE5 (rd_ov (Ne.symm hq_ca) hc_O)))) fX0_9 dX0_countWalks_69 rfl ?_
            refine r_aload (pc := 72) dX0_countWalks_72 rfl ?_
            refine r_iload (pc := 74) dX0_countWalks_74 rfl ?_
            refine t_ialdX (pc := 76) (t0 := 0) ht44 (rd_ov (by omega) (rd_ov (Ne.symm hq_gHd) (rd_ext hE5 (rd_ov (Ne.symm hq_gHd) hxg_Hd)))) dX0_countWalks_76 rfl (by omega) (by omega) (fun b15 => ?_)
            have rb15 := (show Rfx gq 0 ((gn : Int) - 1) Hd by assumption) (Int.toNat v44_7) (by omega)
            refine t_laldX (pc := 77) (t0 := 1) ht44 (rd_ov (by omega) (rd_of (ov_s _ _ _))) dX0_countWalks_77 rfl (by omega) (by omega) ?_
            refine r_ladd (pc := 78) (v := (nx44 (Int.toNat (Tl (Int.toNat v44_7)))) + (nu30 (Int.toNat (Hd (Int.toNat v44_7))))) dX0_countWalks_78 rfl ?_
            refine t_lastX (pc := 79) (t0 := 1) ht44 (ov_s _ _ _) dX0_countWalks_79 rfl (by omega) (by omega) (fun hp16 ht17 => ?_)
            rw [ov_ov] at ht17
            refine r_iinc (pc := 80) (v := iv (v44_7 + 1)) (lv' := [(7, .int (iv (v44_7 + 1))), (0, .ref ca), (2, .int (iv x2)), (3, .ref n), (4, .ref gTl), (5, .ref gHd), (6, .int (iv v30_6))]) dX0_countWalks_80 rfl (iv_add _ _) (by decide) rfl ?_
            refine r_goto (pc := 83) (tgt := 44) dX0_countWalks_83 (by decide) ?_
            refine Rn.pick (lv' := [(0, .ref ca), (2, .int (iv x2)), (3, .ref n), (4, .ref gTl), (5, .ref gHd), (6, .int (iv v30_6)), (7, .int (iv (v44_7 + 1)))]) [1, 2, 3, 4, 5, 6, 0] rfl ?_
            exact ih44 (Int.toNat (120 - (v44_7 + 1))) (by omega) (fuj nx44 (Int.toNat (Tl (Int.toNat v44_7))) ((nx44 (Int.toNat (Tl (Int.toNat v44_7)))) + (nu30 (Int.toNat (Hd (Int.toNat v44_7)))))) _ ht17 (v44_7 + 1) ⟨by omega, by omega, by omega, by (first | rfl | exact wg_up (by assumption) (by omega))⟩ (by omega)
      refine Rn.pick (lv' := [(0, .ref ca), (2, .int (iv x2)), (3, .ref n), (4, .ref gTl), (5, .ref gHd), (6, .int (iv v30_6)), (7, .int (iv 0))]) [1, 2, 3, 4, 5, 6, 0] rfl ?_
      exact B44 (Int.toNat (120 - 0)) (fun _ => (0 : Int64)) _ ht9 0 ⟨by omega, by omega, by omega, by (first | rfl | exact wg_up (by assumption) (by omega))⟩ (by omega)
  refine Rn.pick (lv' := [(0, .ref ca), (2, .int (iv x2)), (3, .ref n), (4, .ref gTl), (5, .ref gHd), (6, .int (iv 0))]) [4, 6, 3, 2, 1, 0] rfl ?_
  exact B30 (Int.toNat (1000 - 0)) (fun _ => (1 : Int64)) nx0 _ htB 0 ⟨by omega, by omega, by omega, by (first | exact fun u hu => rfl | exact wg_rn (by assumption) (by omega) hgo (by assumption) (by omega) hFT)⟩ (by omega)
