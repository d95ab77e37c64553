set_option maxHeartbeats 4000000 in
set_option maxRecDepth 100000 in
theorem c_X0_sumWeightsx {D : va_G} {cI cJ cZ cT : ClassId} {lo b L : Nat} {xs : Nat → Int32} {hp : MH} {n d : Nat} {Γ : TG} {ga : Nat} {gF : Nat} {gT : Nat} {gW : Nat} {gC : Nat} {gTl : Nat} {gHd : Nat} {gBy : Nat} {gOu : Nat} {gIn : Nat} {gJo : Nat} {gn : Nat} {gm : Nat} {gq : Nat} {gdr : Int} {ca cM : Nat} {f0 : Nat → Int64} {F T W C Tl Hd By Ou In Jo : Nat → Int} {pos : Nat → Nat} (hd0 : 0 ≤ d) (hg : TyG Γ cI cJ cZ ga gF gT gW gC gTl gHd gBy gOu gIn gJo gn gm gq gdr) (hxg : XG Γ cI gF gT gW gC gTl gHd gBy gOu gIn gJo gn gm gq F T W C Tl Hd By Ou In Jo) (hc : TyCw Γ cI cJ cZ ca cM gn) (hne : nE cM ga ∧ nE cM gF ∧ nE cM gT ∧ nE cM gW ∧ nE cM gC ∧ nE cM gTl ∧ nE cM gHd ∧ nE cM gBy ∧ nE cM gOu ∧ nE cM gIn ∧ nE cM gJo ∧ nE cM ca) (ht : Tw (ov Γ cM (xJ cJ gn f0)) hp)  (hgo : GoS gm gq gdr F T Tl Hd By pos) : Mt (gG D cI cJ cZ cT lo b L xs) mX0_sumWeights d 0 0 [.ref ca, .ref ga] hp n (pCx Γ cJ cM gn n (fun f => f = dgF 2 gdr F T W f0 gm)) := by
  refine Mt.of rfl (Nat.le_of_ble_eq_true rfl) ?_
  refine Rn.pick (lv' := [(0, .ref ca), (1, .ref ga)]) [0, 1] rfl ?_
  obtain ⟨hg_O, hg_from, hg_to, hg_weight, hg_cost, hg_tail, hg_head, hg_by, hg_out, hg_in, hg_joined, hg_b⟩ := id hg
  obtain ⟨⟨hxg_F, hxg_T, hxg_W, hxg_C, hxg_Tl, hxg_Hd, hxg_By, hxg_Ou, hxg_In, hxg_Jo⟩, ⟨hrg_F, hrg_T, hrg_W, hrg_C, hrg_Tl, hrg_Hd, hrg_By, hrg_Ou, hrg_In, hrg_Jo⟩, houg⟩ := id hxg
  obtain ⟨hq_ga, hq_gF, hq_gT, hq_gW, hq_gC, hq_gTl, hq_gHd, hq_gBy, hq_gOu, hq_gIn, hq_gJo, hq_ca⟩ := id hne
  obtain ⟨hc_O, hc_numbers, hc_b⟩ := id hc
  have hFT : ∀ k, k < gm → (0 ≤ F k ∧ F k < (gn : Int)) ∧ (0 ≤ T k ∧ T k < (gn : Int)) := fun k hk => by have h1 := hrg_F k hk; have h2 := hrg_T k hk; omega
  refine r_iconst (pc := 0) (v := iv 0) dX0_sumWeights_0 (by decide) ?_
  refine r_istore_n (pc := 1) (lv' := [(2, .int (iv 0)), (0, .ref ca), (1, .ref ga)]) dX0_sumWeights_1 (i := 2) rfl (by decide) rfl ?_
  have B2 : ∀ k : Nat, ∀ nu2 : Nat → Int64, ∀ hp2 : MH, Tw (ov Γ cM (xJ cJ gn nu2)) hp2 → ∀  (v2_2 : Int), 0 ≤ v2_2 ∧ v2_2 ≤ 120 ∧ (v2_2 ≤ (gq : Int)) ∧ (nu2 = wsF Tl By W f0 (Int.toNat v2_2)) → 120 - v2_2 ≤ (k : Int) → Rn (gG D cI cJ cZ cT lo b L xs) mX0_sumWeights d 2 [(0, .ref ca), (1, .ref ga), (2, .int (iv v2_2))] [] hp2 n 0 0 (pCx Γ cJ cM gn n (fun f => f = dgF 2 gdr F T W f0 gm)) := by
    refine lpS _ ?_
    intro k2 ih2 nu2 hp2 ht2 v2_2 hf2 hm2
    obtain ⟨hf2_0, hf2_1, hf2_2, ha2_3⟩ := hf2
    refine r_iload_n (pc := 2) dX0_sumWeights_2 (i := 2) rfl rfl ?_
    refine r_aload_n (pc := 3) dX0_sumWeights_3 (i := 1) rfl rfl ?_
    refine t_getE (pc := 4) (.int (iv (gq : Int))) ht2 (rd_ov (Ne.symm hq_ga) hg_O) fX0_63 dX0_sumWeights_4 rfl ?_
    refine t_icmp_ge (pc := 7) (tgt := 42) dX0_sumWeights_7 (by decide) (by omega) (by omega) (fun c7 => ?_) (fun c7 => ?_)
    · exact r_vret (pc := 42) dX0_sumWeights_42 rfl ⟨by omega, rfl, nu2, ht2, by have h8 : nu2 = wsF Tl By W f0 (Int.toNat v2_2) := (by assumption); rw [show v2_2 = (gq : Int) by omega, Int.toNat_natCast, ws_dg hgo] at h8; exact h8⟩
    · refine r_aload_n (pc := 10) dX0_sumWeights_10 (i := 0) rfl rfl ?_
      refine t_getE (pc := 11) (.ref cM) ht2 (rd_ov (Ne.symm hq_ca) hc_O) fX0_9 dX0_sumWeights_11 rfl ?_
      refine r_aload_n (pc := 14) dX0_sumWeights_14 (i := 1) rfl rfl ?_
      refine t_getE (pc := 15) (.ref gTl) ht2 (rd_ov (Ne.symm hq_ga) hg_O) fX0_66 dX0_sumWeights_15 rfl ?_
      refine r_iload_n (pc := 18) dX0_sumWeights_18 (i := 2) rfl rfl ?_
      refine t_ialdX (pc := 19) (t0 := 0) ht2 (rd_ov (Ne.symm hq_gTl) hxg_Tl) dX0_sumWeights_19 rfl (by omega) (by omega) (fun b1 => ?_)
      have rb1 := (show Rfx gq 0 ((gn : Int) - 1) Tl by assumption) (Int.toNat v2_2) (by omega)
      refine r_dup2_11 (pc := 20) dX0_sumWeights_20 rfl rfl ?_
      refine t_laldX (pc := 21) (t0 := 1) ht2 (rd_of (ov_s _ _ _)) dX0_sumWeights_21 rfl (by omega) (by omega) ?_
      refine r_aload_n (pc := 22) dX0_sumWeights_22 (i := 1) rfl rfl ?_
      refine t_getE (pc := 23) (.ref gW) ht2 (rd_ov (Ne.symm hq_ga) hg_O) fX0_69 dX0_sumWeights_23 rfl ?_
      refine r_aload_n (pc := 26) dX0_sumWeights_26 (i := 1) rfl rfl ?_
      refine t_getE (pc := 27) (.ref gBy) ht2 (rd_ov (Ne.symm hq_ga) hg_O) fX0_72 dX0_sumWeights_27 rfl ?_
      refine r_iload_n (pc := 30) dX0_sumWeights_30 (i := 2) rfl rfl ?_
      refine t_ialdX (pc := 31) (t0 := 0) ht2 (rd_ov (Ne.symm hq_gBy) hxg_By) dX0_sumWeights_31 rfl (by omega) (by omega) (fun b2 => ?_)
      have rb2 := (show Rfx gq 0 ((gm : Int) - 1) By by assumption) (Int.toNat v2_2) (by omega)
      refine t_ialdX (pc := 32) (t0 := 0) ht2 (rd_ov (Ne.symm hq_gW) hxg_W) dX0_sumWeights_32 rfl (by omega) (by omega) (fun b3 => ?_)
      have rb3 := (show Rfx gm (-1000) 1000 W by assumption) (Int.toNat (By (Int.toNat v2_2))) (by omega)
      refine r_i2l (pc := 33) (v := (iv (W (Int.toNat (By (Int.toNat v2_2))))).toInt64) dX0_sumWeights_33 rfl ?_
      refine r_ladd (pc := 34) (v := (nu2 (Int.toNat (Tl (Int.toNat v2_2)))) + ((iv (W (Int.toNat (By (Int.toNat v2_2))))).toInt64)) dX0_sumWeights_34 rfl ?_
      refine t_lastX (pc := 35) (t0 := 1) ht2 (ov_s _ _ _) dX0_sumWeights_35 rfl (by omega) (by omega) (fun hp4 ht5 => ?_)
      rw [ov_ov] at ht5
      refine r_iinc (pc := 36) (v := iv (v2_2 + 1)) (lv' := [(2, .int (iv (v2_2 + 1))), (0, .ref ca), (1, .ref ga)]) dX0_sumWeights_36 rfl (iv_add _ _) (by decide) rfl ?_
      refine r_goto (pc := 39) (tgt := 2) dX0_sumWeights_39 (by decide) ?_
      refine Rn.pick (lv' := [(0, .ref ca), (1, .ref ga), (2, .int (iv (v2_2 + 1)))]) [1, 2, 0] rfl ?_
      exact ih2 (Int.toNat (120 - (v2_2 + 1))) (by omega) (fuj nu2 (Int.toNat (Tl (Int.toNat v2_2))) ((nu2 (Int.toNat (Tl (Int.toNat v2_2)))) + ((iv (W (Int.toNat (By (Int.toNat v2_2))))).toInt64))) _ ht5 (v2_2 + 1) ⟨by omega, by omega, by omega, by (first | rfl | exact ws_up (by assumption) (by omega))⟩ (by omega)
  refine Rn.pick (lv' := [(0, .ref ca), (1, .ref ga), (2, .int (iv 0))]) [1, 2, 0] rfl ?_
  exact B2 (Int.toNat (120 - 0)) f0 _ ht 0 ⟨by omega, by omega, by omega, by (first | rfl | exact ws_up (by assumption) (by omega))⟩ (by omega)
theorem Tw.ovr {Γ : TG} {hp : MH} {a : Nat} {T : va_E → Prop} (ht : Tw Γ hp) (h : Γ a = some T) : Tw (ov Γ a T) hp := by
  intro q U hq
  by_cases e : q = a
  · subst e; rw [ov_s] at hq; cases hq; exact ht q T h
  · rw [ov_o _ _ e] at hq; exact ht q U hq
theorem Tw.bk {Γ Γ1 : TG} {hp : MH} {c a : Nat} {U0 U Ta Te : va_E → Prop} (hE : Ext (ov Γ c U0) Γ1) (ha : Γ1 a = some Ta) (hs : ∀ e, Te e → Ta e) (hca : c ≠ a) (ht : Tw (ov (ov Γ1 c U) a Te) hp) : Tw (ov Γ c U) hp := by
  intro q T h
  by_cases e : q = c
  · subst e
    rw [ov_s] at h; cases h
    exact ht q U (by rw [ov_o _ _ hca, ov_s])
  · rw [ov_o _ _ e] at h
    have h1 := hE q T (by rw [ov_o _ _ e]; exact h)
    by_cases e2 : q = a
    · subst e2
      rw [ha] at h1; cases h1
      obtain ⟨x, x1, x2⟩ := ht q Te (ov_s _ _ _)
      exact ⟨x, x1, hs x x2⟩
    · exact ht q T (by rw [ov_o _ _ e2, ov_o _ _ e]; exact h1)
theorem xI_any {cA : ClassId} {L : Nat} {f : Nat → Int} (e : va_E) (h : xI cA L f e) : tI cA L (rg (-2147483648) 2147483647) e := by
  obtain ⟨g, h1, h2⟩ := h
  exact ⟨g, h1, fun i hi => ⟨iv_lo _, iv_hi _⟩⟩
theorem xJ_any {cA : ClassId} {L : Nat} {f : Nat → Int64} (e : va_E) (h : xJ cA L f e) : tJ cA L anyJ e := by
  obtain ⟨g, h1, h2⟩ := h
  exact ⟨g, h1, fun _ _ => trivial⟩
def pEx (Γ : TG) (cI : ClassId) (eA N n : Nat) (Q : (Nat → Int) → Prop) : Option Value → MH → Nat → Prop := fun r hp1 n1 => n1 = n ∧ r = none ∧ ∃ f : Nat → Int, Tw (ov Γ eA (xI cI N f)) hp1 ∧ Q f
