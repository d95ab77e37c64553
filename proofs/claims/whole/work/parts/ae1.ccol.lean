/-- what is left: a column's numbers -/
def pCx (Γ : TG) (cJ : ClassId) (cM N n : Nat) (Q : (Nat → Int64) → Prop) : Option Value → MH → Nat → Prop := fun r hp1 n1 => n ≤ n1 ∧ r = none ∧ ∃ f : Nat → Int64, Tw (ov Γ cM (xJ cJ N f)) hp1 ∧ Q f
/-- two cells (a word that omega doesn't open) -/
def nE (a b : Nat) : Prop := a ≠ b
theorem nE_i {a b : Nat} (h : a ≠ b) : nE a b := h
theorem TyG.ovx {Γ : TG} {cI cJ cZ : ClassId} {ga : Nat} {gF : Nat} {gT : Nat} {gW : Nat} {gC : Nat} {gTl : Nat} {gHd : Nat} {gBy : Nat} {gOu : Nat} {gIn : Nat} {gJo : Nat} {gn : Nat} {gm : Nat} {gq : Nat} {gdr : Int} {c : Nat} {U : va_E → Prop} (hl : c ≠ ga ∧ c ≠ gF ∧ c ≠ gT ∧ c ≠ gW ∧ c ≠ gC ∧ c ≠ gTl ∧ c ≠ gHd ∧ c ≠ gBy ∧ c ≠ gOu ∧ c ≠ gIn ∧ c ≠ gJo) (h : TyG Γ cI cJ cZ ga gF gT gW gC gTl gHd gBy gOu gIn gJo gn gm gq gdr) : TyG (ov Γ c U) cI cJ cZ ga gF gT gW gC gTl gHd gBy gOu gIn gJo gn gm gq gdr := ⟨rd_ov (by omega) h.1, rd_ov (by omega) h.2.1, rd_ov (by omega) h.2.2.1, rd_ov (by omega) h.2.2.2.1, rd_ov (by omega) h.2.2.2.2.1, rd_ov (by omega) h.2.2.2.2.2.1, rd_ov (by omega) h.2.2.2.2.2.2.1, rd_ov (by omega) h.2.2.2.2.2.2.2.1, rd_ov (by omega) h.2.2.2.2.2.2.2.2.1, rd_ov (by omega) h.2.2.2.2.2.2.2.2.2.1, rd_ov (by omega) h.2.2.2.2.2.2.2.2.2.2.1, h.2.2.2.2.2.2.2.2.2.2.2⟩
theorem XG.ovx {Γ : TG} {cI : ClassId} {gF gT gW gC gTl gHd gBy gOu gIn gJo gn gm gq c : Nat} {F T W C Tl Hd By Ou In Jo : Nat → Int} {U : va_E → Prop} (hl : c ≠ gF ∧ c ≠ gT ∧ c ≠ gW ∧ c ≠ gC ∧ c ≠ gTl ∧ c ≠ gHd ∧ c ≠ gBy ∧ c ≠ gOu ∧ c ≠ gIn ∧ c ≠ gJo) (h : XG Γ cI gF gT gW gC gTl gHd gBy gOu gIn gJo gn gm gq F T W C Tl Hd By Ou In Jo) : XG (ov Γ c U) cI gF gT gW gC gTl gHd gBy gOu gIn gJo gn gm gq F T W C Tl Hd By Ou In Jo := by
  obtain ⟨⟨h0, h1, h2, h3, h4, h5, h6, h7, h8, h9⟩, hr⟩ := h
  exact ⟨⟨rd_ov (by omega) h0, rd_ov (by omega) h1, rd_ov (by omega) h2, rd_ov (by omega) h3, rd_ov (by omega) h4, rd_ov (by omega) h5, rd_ov (by omega) h6, rd_ov (by omega) h7, rd_ov (by omega) h8, rd_ov (by omega) h9⟩, hr⟩
set_option maxHeartbeats 4000000 in
set_option maxRecDepth 100000 in
theorem c_X0_countEndsx {D : va_G} {cI cJ cZ cT : ClassId} {lo b L : Nat} {xs : Nat → Int32} {hp : MH} {n d : Nat} {Γ : TG} {ga : Nat} {gF : Nat} {gT : Nat} {gW : Nat} {gC : Nat} {gTl : Nat} {gHd : Nat} {gBy : Nat} {gOu : Nat} {gIn : Nat} {gJo : Nat} {gn : Nat} {gm : Nat} {gq : Nat} {gdr : Int} {ca cM : Nat} {f0 : Nat → Int64} {F T W C Tl Hd By Ou In Jo : Nat → Int} {x2 x3 : Int} {kk : Int} (hd0 : 0 ≤ d) (hg : TyG Γ cI cJ cZ ga gF gT gW gC gTl gHd gBy gOu gIn gJo gn gm gq gdr) (hxg : XG Γ cI gF gT gW gC gTl gHd gBy gOu gIn gJo gn gm gq F T W C Tl Hd By Ou In Jo) (hc : TyCw Γ cI cJ cZ ca cM gn) (hne : nE cM ga ∧ nE cM gF ∧ nE cM gT ∧ nE cM gW ∧ nE cM gC ∧ nE cM gTl ∧ nE cM gHd ∧ nE cM gBy ∧ nE cM gOu ∧ nE cM gIn ∧ nE cM gJo ∧ nE cM ca) (ht : Tw (ov Γ cM (xJ cJ gn f0)) hp) (hx2 : 0 ≤ x2 ∧ x2 ≤ 1) (hx3 : 0 ≤ x3 ∧ x3 ≤ 1) (hkd : (kk = 0 ∨ kk = 1) ∧ (x2 = 1 ↔ (kk = 0 ∨ gdr = 0)) ∧ (x3 = 1 ↔ (kk = 1 ∨ gdr = 0))) : Mt (gG D cI cJ cZ cT lo b L xs) mX0_countEnds d 0 0 [.ref ca, .ref ga, .int (iv x2), .int (iv x3)] hp n (pCx Γ cJ cM gn n (fun f => f = dgF kk gdr F T W f0 gm)) := by
  refine Mt.of rfl (Nat.le_of_ble_eq_true rfl) ?_
  refine Rn.pick (lv' := [(0, .ref ca), (1, .ref ga), (2, .int (iv x2)), (3, .int (iv x3))]) [0, 1, 2, 3] rfl ?_
  obtain ⟨hg_O, hg_from, hg_to, hg_weight, hg_cost, hg_tail, hg_head, hg_by, hg_out, hg_in, hg_joined, hg_b⟩ := id hg
  obtain ⟨⟨hxg_F, hxg_T, hxg_W, hxg_C, hxg_Tl, hxg_Hd, hxg_By, hxg_Ou, hxg_In, hxg_Jo⟩, ⟨hrg_F, hrg_T, hrg_W, hrg_C, hrg_Tl, hrg_Hd, hrg_By, hrg_Ou, hrg_In, hrg_Jo⟩, houg⟩ := id hxg
  obtain ⟨hq_ga, hq_gF, hq_gT, hq_gW, hq_gC, hq_gTl, hq_gHd, hq_gBy, hq_gOu, hq_gIn, hq_gJo, hq_ca⟩ := id hne
  obtain ⟨hc_O, hc_numbers, hc_b⟩ := id hc
  have hFT : ∀ k, k < gm → (0 ≤ F k ∧ F k < (gn : Int)) ∧ (0 ≤ T k ∧ T k < (gn : Int)) := fun k hk => by have h1 := hrg_F k hk; have h2 := hrg_T k hk; omega
  refine r_iconst (pc := 0) (v := iv 0) dX0_countEnds_0 (by decide) ?_
  refine r_istore (pc := 1) (lv' := [(4, .int (iv 0)), (0, .ref ca), (1, .ref ga), (2, .int (iv x2)), (3, .int (iv x3))]) dX0_countEnds_1 (by decide) rfl ?_
  have B3 : ∀ k : Nat, ∀ nu3 : Nat → Int64, ∀ hp3 : MH, Tw (ov Γ cM (xJ cJ gn nu3)) hp3 → ∀  (v3_4 : Int), 0 ≤ v3_4 ∧ v3_4 ≤ 60 ∧ (v3_4 ≤ (gm : Int)) ∧ (nu3 = dgF kk gdr F T W f0 (Int.toNat v3_4)) → 60 - v3_4 ≤ (k : Int) → Rn (gG D cI cJ cZ cT lo b L xs) mX0_countEnds d 3 [(0, .ref ca), (1, .ref ga), (2, .int (iv x2)), (3, .int (iv x3)), (4, .int (iv v3_4))] [] hp3 n 0 0 (pCx Γ cJ cM gn n (fun f => f = dgF kk gdr F T W f0 gm)) := by
    refine lpS _ ?_
    intro k3 ih3 nu3 hp3 ht3 v3_4 hf3 hm3
    obtain ⟨hf3_0, hf3_1, hf3_2, ha3_3⟩ := hf3
    refine r_iload (pc := 3) dX0_countEnds_3 rfl ?_
    refine r_aload_n (pc := 5) dX0_countEnds_5 (i := 1) rfl rfl ?_
    refine t_getE (pc := 6) (.int (iv (gm : Int))) ht3 (rd_ov (Ne.symm hq_ga) hg_O) fX0_54 dX0_countEnds_6 rfl ?_
    refine t_icmp_ge (pc := 9) (tgt := 58) dX0_countEnds_9 (by decide) (by omega) (by omega) (fun c9 => ?_) (fun c9 => ?_)
    · exact r_vret (pc := 58) dX0_countEnds_58 rfl ⟨by omega, rfl, nu3, ht3, by have h8 : nu3 = dgF kk gdr F T W f0 (Int.toNat v3_4) := (by assumption); rw [show v3_4 = (gm : Int) by omega, Int.toNat_natCast] at h8; exact h8⟩
    · refine r_iload_n (pc := 12) dX0_countEnds_12 (i := 2) rfl rfl ?_
      refine t_if_eq (pc := 13) (tgt := 32) dX0_countEnds_13 (by decide) (by omega) (fun c13 => ?_) (fun c13 => ?_)
      · refine r_iload_n (pc := 32) dX0_countEnds_32 (i := 3) rfl rfl ?_
        refine t_if_eq (pc := 33) (tgt := 52) dX0_countEnds_33 (by decide) (by omega) (fun c33 => ?_) (fun c33 => ?_)
        · refine r_iinc (pc := 52) (v := iv (v3_4 + 1)) (lv' := [(4, .int (iv (v3_4 + 1))), (0, .ref ca), (1, .ref ga), (2, .int (iv x2)), (3, .int (iv x3))]) dX0_countEnds_52 rfl (iv_add _ _) (by decide) rfl ?_
          refine r_goto (pc := 55) (tgt := 3) dX0_countEnds_55 (by decide) ?_
          refine Rn.pick (lv' := [(0, .ref ca), (1, .ref ga), (2, .int (iv x2)), (3, .int (iv x3)), (4, .int (iv (v3_4 + 1)))]) [1, 2, 3, 4, 0] rfl ?_
          exact ih3 (Int.toNat (60 - (v3_4 + 1))) (by omega) nu3 _ ht3 (v3_4 + 1) ⟨by omega, by omega, by omega, by (first | rfl | exact dg_up (by assumption) (by omega) (by unfold dgS; (repeat' split) <;> first | rfl | (exfalso; omega)))⟩ (by omega)
        · refine r_aload_n (pc := 36) dX0_countEnds_36 (i := 0) rfl rfl ?_
          refine t_getE (pc := 37) (.ref cM) ht3 (rd_ov (Ne.symm hq_ca) hc_O) fX0_9 dX0_countEnds_37 rfl ?_
          refine r_aload_n (pc := 40) dX0_countEnds_40 (i := 1) rfl rfl ?_
          refine t_getE (pc := 41) (.ref gT) ht3 (rd_ov (Ne.symm hq_ga) hg_O) fX0_60 dX0_countEnds_41 rfl ?_
          refine r_iload (pc := 44) dX0_countEnds_44 rfl ?_
          refine t_ialdX (pc := 46) (t0 := 0) ht3 (rd_ov (Ne.symm hq_gT) hxg_T) dX0_countEnds_46 rfl (by omega) (by omega) (fun b1 => ?_)
          have rb1 := (show Rfx gm 0 ((gn : Int) - 1) T by assumption) (Int.toNat v3_4) (by omega)
          refine r_dup2_11 (pc := 47) dX0_countEnds_47 rfl rfl ?_
          refine t_laldX (pc := 48) (t0 := 1) ht3 (rd_of (ov_s _ _ _)) dX0_countEnds_48 rfl (by omega) (by omega) ?_
          refine r_lconst (pc := 49) (v := 1) dX0_countEnds_49 (by decide) ?_
          have hk49 : (1 : Int64).toInt = 1 := by decide
          refine r_ladd (pc := 50) (v := (nu3 (Int.toNat (T (Int.toNat v3_4)))) + (1 : Int64)) dX0_countEnds_50 rfl ?_
          refine t_lastX (pc := 51) (t0 := 1) ht3 (ov_s _ _ _) dX0_countEnds_51 rfl (by omega) (by omega) (fun hp2 ht3 => ?_)
          rw [ov_ov] at ht3
          refine r_iinc (pc := 52) (v := iv (v3_4 + 1)) (lv' := [(4, .int (iv (v3_4 + 1))), (0, .ref ca), (1, .ref ga), (2, .int (iv x2)), (3, .int (iv x3))]) dX0_countEnds_52 rfl (iv_add _ _) (by decide) rfl ?_
          refine r_goto (pc := 55) (tgt := 3) dX0_countEnds_55 (by decide) ?_
          refine Rn.pick (lv' := [(0, .ref ca), (1, .ref ga), (2, .int (iv x2)), (3, .int (iv x3)), (4, .int (iv (v3_4 + 1)))]) [1, 2, 3, 4, 0] rfl ?_
          exact ih3 (Int.toNat (60 - (v3_4 + 1))) (by omega) (fuj nu3 (Int.toNat (T (Int.toNat v3_4))) ((nu3 (Int.toNat (T (Int.toNat v3_4)))) + (1 : Int64))) _ ht3 (v3_4 + 1) ⟨by omega, by omega, by omega, by (first | rfl | exact dg_up (by assumption) (by omega) (by unfold dgS; (repeat' split) <;> first | rfl | (exfalso; omega)))⟩ (by omega)
      · refine r_aload_n (pc := 16) dX0_countEnds_16 (i := 0) rfl rfl ?_
        refine t_getE (pc := 17) (.ref cM) ht3 (rd_ov (Ne.symm hq_ca) hc_O) fX0_9 dX0_countEnds_17 rfl ?_
        refine r_aload_n (pc := 20) dX0_countEnds_20 (i := 1) rfl rfl ?_
        refine t_getE (pc := 21) (.ref gF) ht3 (rd_ov (Ne.symm hq_ga) hg_O) fX0_57 dX0_countEnds_21 rfl ?_
        refine r_iload (pc := 24) dX0_countEnds_24 rfl ?_
        refine t_ialdX (pc := 26) (t0 := 0) ht3 (rd_ov (Ne.symm hq_gF) hxg_F) dX0_countEnds_26 rfl (by omega) (by omega) (fun b4 => ?_)
        have rb4 := (show Rfx gm 0 ((gn : Int) - 1) F by assumption) (Int.toNat v3_4) (by omega)
        refine r_dup2_11 (pc := 27) dX0_countEnds_27 rfl rfl ?_
        refine t_laldX (pc := 28) (t0 := 1) ht3 (rd_of (ov_s _ _ _)) dX0_countEnds_28 rfl (by omega) (by omega) ?_
        refine r_lconst (pc := 29) (v := 1) dX0_countEnds_29 (by decide) ?_
        have hk29 : (1 : Int64).toInt = 1 := by decide
        refine r_ladd (pc := 30) (v := (nu3 (Int.toNat (F (Int.toNat v3_4)))) + (1 : Int64)) dX0_countEnds_30 rfl ?_
        refine t_lastX (pc := 31) (t0 := 1) ht3 (ov_s _ _ _) dX0_countEnds_31 rfl (by omega) (by omega) (fun hp5 ht6 => ?_)
        rw [ov_ov] at ht6
        refine r_iload_n (pc := 32) dX0_countEnds_32 (i := 3) rfl rfl ?_
        refine t_if_eq (pc := 33) (tgt := 52) dX0_countEnds_33 (by decide) (by omega) (fun c33 => ?_) (fun c33 => ?_)
        · refine r_iinc (pc := 52) (v := iv (v3_4 + 1)) (lv' := [(4, .int (iv (v3_4 + 1))), (0, .ref ca), (1, .ref ga), (2, .int (iv x2)), (3, .int (iv x3))]) dX0_countEnds_52 rfl (iv_add _ _) (by decide) rfl ?_
          refine r_goto (pc := 55) (tgt := 3) dX0_countEnds_55 (by decide) ?_
          refine Rn.pick (lv' := [(0, .ref ca), (1, .ref ga), (2, .int (iv x2)), (3, .int (iv x3)), (4, .int (iv (v3_4 + 1)))]) [1, 2, 3, 4, 0] rfl ?_
          exact ih3 (Int.toNat (60 - (v3_4 + 1))) (by omega) (fuj nu3 (Int.toNat (F (Int.toNat v3_4))) ((nu3 (Int.toNat (F (Int.toNat v3_4)))) + (1 : Int64))) _ ht6 (v3_4 + 1) ⟨by omega, by omega, by omega, by (first | rfl | exact dg_up (by assumption) (by omega) (by unfold dgS; (repeat' split) <;> first | rfl | (exfalso; omega)))⟩ (by omega)
        · refine r_aload_n (pc := 36) dX0_countEnds_36 (i := 0) rfl rfl ?_
          refine t_getE (pc := 37) (.ref cM) ht6 (rd_ov (Ne.symm hq_ca) hc_O) fX0_9 dX0_countEnds_37 rfl ?_
          refine r_aload_n (pc := 40) dX0_countEnds_40 (i := 1) rfl rfl ?_
          refine t_getE (pc := 41) (.ref gT) ht6 (rd_ov (Ne.symm hq_ga) hg_O) fX0_60 dX0_countEnds_41 rfl ?_
          refine r_iload (pc := 44) dX0_countEnds_44 rfl ?_
          refine t_ialdX (pc := 46) (t0 := 0) ht6 (rd_ov (Ne.symm hq_gT) hxg_T) dX0_countEnds_46 rfl (by omega) (by omega) (fun b7 => ?_)
          have rb7 := (show Rfx gm 0 ((gn : Int) - 1) T by assumption) (Int.toNat v3_4) (by omega)
          refine r_dup2_11 (pc := 47) dX0_countEnds_47 rfl rfl ?_
          refine t_laldX (pc := 48) (t0 := 1) ht6 (rd_of (ov_s _ _ _)) dX0_countEnds_48 rfl (by omega) (by omega) ?_
          refine r_lconst (pc := 49) (v := 1) dX0_countEnds_49 (by decide) ?_
          have hk49 : (1 : Int64).toInt = 1 := by decide
          refine r_ladd (pc := 50) (v := ((fuj nu3 (Int.toNat (F (Int.toNat v3_4))) ((nu3 (Int.toNat (F (Int.toNat v3_4)))) + (1 : Int64))) (Int.toNat (T (Int.toNat v3_4)))) + (1 : Int64)) dX0_countEnds_50 rfl ?_
          refine t_lastX (pc := 51) (t0 := 1) ht6 (ov_s _ _ _) dX0_countEnds_51 rfl (by omega) (by omega) (fun hp8 ht9 => ?_)
          rw [ov_ov] at ht9
          refine r_iinc (pc := 52) (v := iv (v3_4 + 1)) (lv' := [(4, .int (iv (v3_4 + 1))), (0, .ref ca), (1, .ref ga), (2, .int (iv x2)), (3, .int (iv x3))]) dX0_countEnds_52 rfl (iv_add _ _) (by decide) rfl ?_
          refine r_goto (pc := 55) (tgt := 3) dX0_countEnds_55 (by decide) ?_
          refine Rn.pick (lv' := [(0, .ref ca), (1, .ref ga), (2, .int (iv x2)), (3, .int (iv x3)), (4, .int (iv (v3_4 + 1)))]) [1, 2, 3, 4, 0] rfl ?_
          exact ih3 (Int.toNat (60 - (v3_4 + 1))) (by omega) (fuj (fuj nu3 (Int.toNat (F (Int.toNat v3_4))) ((nu3 (Int.toNat (F (Int.toNat v3_4)))) + (1 : Int64))) (Int.toNat (T (Int.toNat v3_4))) (((fuj nu3 (Int.toNat (F (Int.toNat v3_4))) ((nu3 (Int.toNat (F (Int.toNat v3_4)))) + (1 : Int64))) (Int.toNat (T (Int.toNat v3_4)))) + (1 : Int64))) _ ht9 (v3_4 + 1) ⟨by omega, by omega, by omega, by (first | rfl | exact dg_up (by assumption) (by omega) (by unfold dgS; (repeat' split) <;> first | rfl | (exfalso; omega)))⟩ (by omega)
  refine Rn.pick (lv' := [(0, .ref ca), (1, .ref ga), (2, .int (iv x2)), (3, .int (iv x3)), (4, .int (iv 0))]) [1, 2, 3, 4, 0] rfl ?_
  exact B3 (Int.toNat (60 - 0)) f0 _ ht 0 ⟨by omega, by omega, by omega, by (first | rfl | exact dg_up (by assumption) (by omega) (by unfold dgS; (repeat' split) <;> first | rfl | (exfalso; omega)))⟩ (by omega)
