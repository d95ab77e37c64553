theorem cq_nj {m : Nat} {F T : Nat → Int} {gn : Nat} {x1 r : Int} (h : clA (njA m F T gn) x1 r) (hn : ∀ v, Me x1 v → v < gn) : ∀ i j, Me r i → Me r j → i ≠ j → joA m F T i j := fun i j hi hj hne => by
  by_cases q : joA m F T i j
  · exact q
  · exact absurd ⟨⟨hn i (h.2.1 i hi), hn j (h.2.1 j hj)⟩, q, hne⟩ (h.2.2.1 i j hi hj hne)
theorem lv_cp {J : Nat → Nat → Prop} {P : Int} {Jo M : Nat → Int} {n : Nat} (hn : n ≤ 16) (hi : ∀ a, ¬ J a a) (hjo : rwP Jo n J) (hR : Rfx n 0 65535 Jo) (hP : ∀ v, Me P v → v < n) (hPc : ∀ v u, Me P v → J v u → Me P u) : rwE (hG J (Me P) (Me P)) P (lvW (cpI Jo M (Int.toNat 0) (Int.toNat 0) (Int.toNat (n : Int))) 0) := fun v hv => by
  have e : lvW (cpI Jo M (Int.toNat 0) (Int.toNat 0) (Int.toNat (n : Int))) 0 v = Jo v := by
    have hv2 := hP v hv
    show (if 0 ≤ 16 * (0 : Int).toNat + v ∧ 16 * (0 : Int).toNat + v < 0 + Int.toNat (n : Int) then Jo (0 + (16 * (0 : Int).toNat + v - 0)) else M (16 * (0 : Int).toNat + v)) = Jo v
    have e0 : (0 : Int).toNat = 0 := rfl
    rw [if_pos (by omega)]
    congr 1
    omega
  rw [e]
  refine ⟨hR v (hP v hv), fun u => ?_⟩
  rw [hjo.1 v (hP v hv) u]
  exact ⟨fun g => ⟨hPc v u hv g, fun q => hi v (q ▸ g), R_hg hv (hPc v u hv g) (fun q => hi v (q ▸ g)) g⟩, fun g => hg_R g.2.2⟩
theorem wkI_0 {R : Nat → Nat → Prop} {E a lo k : Int} (hR : ∀ i j, R i j → R j i) (ha : 0 ≤ a) (hl : ∀ q : Int, 0 ≤ q → (∃ l, ewL q.toNat l R (Me E)) → lo ≤ q) (hk : k ≤ a ∨ k ≤ lo) : wkI R E a k := fun q h1 h2 g => by
  have := hl q (by omega) ((gw_ew hR).mp g)
  omega
theorem wkI_st {R : Nat → Nat → Prop} {E a k : Int} (h : wkI R E a k) (hn : ¬ gW R (Me E) k E) : wkI R E a (k + 1) := fun q h1 h2 g => by
  by_cases e : q < k
  · exact h q h1 e g
  · exact hn ((show q = k by omega) ▸ g)
/-- the cells of the sets told exactly -/
abbrev wdS (Γ : TG) (cI : ClassId) (s : Nat) (Lv Ho Ml : Nat → Int) : TG := ov (ov (ov Γ (s + 3) (xI cI 272 Lv)) (s + 5) (xI cI 2048 Ho)) (s + 4) (xI cI 16 Ml)
/-- what widthOf answers -/
def wdQ (Γ : TG) (cI : ClassId) (s n : Nat) (R : Nat → Nat → Prop) (E a : Int) : Option Value → MH → Nat → Prop := fun r hp1 n1 => n1 = n ∧ ∃ (v : Int) (L1 H1 M1 : Nat → Int), r = some (.int (iv v)) ∧ Tw (wdS Γ cI s L1 H1 M1) hp1 ∧ (Rfx 272 0 65535 L1 ∧ Rfx 2048 (-2147483648) 2147483647 H1 ∧ Rfx 16 0 65535 M1) ∧ (a ≤ v ∧ v ≤ 15) ∧ gW R (Me E) v E ∧ ∀ k : Int, a ≤ k → gW R (Me E) k E → v ≤ k
theorem ho_R0 : Rfx 2048 (-2147483648) 2147483647 (fun _ => 0) := fun _ _ => ⟨(by decide : (-2147483648 : Int) ≤ 0), (by decide : (0 : Int) ≤ 2147483647)⟩
set_option maxHeartbeats 4000000 in
set_option maxRecDepth 100000 in
theorem c_X7_widthOfx {D : va_G} {cI cJ cZ cT : ClassId} {lo b L : Nat} {xs : Nat → Int32} {hp : MH} {n d : Nat} {Γ : TG} {ga : Nat} {gF : Nat} {gT : Nat} {gW : Nat} {gC : Nat} {gTl : Nat} {gHd : Nat} {gBy : Nat} {gOu : Nat} {gIn : Nat} {gJo : Nat} {gn : Nat} {gm : Nat} {gq : Nat} {gdr : Int} {F T W C Tl Hd By Ou In Jo : Nat → Int} {s : Nat} {Sf Lv Ho Ml : Nat → Int} {x1 x2 : Int} (hd0 : 20 ≤ d) (hg : TyG Γ cI cJ cZ ga gF gT gW gC gTl gHd gBy gOu gIn gJo gn gm gq gdr) (hxg : XG Γ cI gF gT gW gC gTl gHd gBy gOu gIn gJo gn gm gq F T W C Tl Hd By Ou In Jo) (hne3 : nE (s + 3) ga ∧ nE (s + 3) gF ∧ nE (s + 3) gT ∧ nE (s + 3) gW ∧ nE (s + 3) gC ∧ nE (s + 3) gTl ∧ nE (s + 3) gHd ∧ nE (s + 3) gBy ∧ nE (s + 3) gOu ∧ nE (s + 3) gIn ∧ nE (s + 3) gJo) (hne4 : nE (s + 4) ga ∧ nE (s + 4) gF ∧ nE (s + 4) gT ∧ nE (s + 4) gW ∧ nE (s + 4) gC ∧ nE (s + 4) gTl ∧ nE (s + 4) gHd ∧ nE (s + 4) gBy ∧ nE (s + 4) gOu ∧ nE (s + 4) gIn ∧ nE (s + 4) gJo) (hne5 : nE (s + 5) ga ∧ nE (s + 5) gF ∧ nE (s + 5) gT ∧ nE (s + 5) gW ∧ nE (s + 5) gC ∧ nE (s + 5) gTl ∧ nE (s + 5) gHd ∧ nE (s + 5) gBy ∧ nE (s + 5) gOu ∧ nE (s + 5) gIn ∧ nE (s + 5) gJo) (hO : rd Γ s (tO 7 [fE (.ref (s + 1)), fE (.ref (s + 2)), fE (.ref (s + 3)), fE (.ref (s + 4)), fE (.ref (s + 5))])) (hSf : rd Γ (s + 1) (xI cI 16 Sf)) (hSR : Rfx 16 0 65535 Sf) (hsn : snP Sf Jo gn (gn : Int)) (hRl : Rfx 272 0 65535 Lv) (hRh : Rfx 2048 (-2147483648) 2147483647 Ho) (hRm : Rfx 16 0 65535 Ml) (ht : Tw (wdS Γ cI s Lv Ho Ml) hp) (hx1 : 0 ≤ x1 ∧ x1 ≤ 65535) (hx2 : 0 ≤ x2 ∧ x2 ≤ 15) (hjo : rwP Jo gn (joX gm F T (fun _ => True))) (hPn : ∀ v, Me x1 v → v < gn) (hPc : ∀ v u, Me x1 v → (joA gm F T) v u → Me x1 u) : Mt (gG D cI cJ cZ cT lo b L xs) mX7_widthOf d 0 0 [.ref s, .ref ga, .int (iv x1), .int (iv x2)] hp n (wdQ Γ cI s n (joA gm F T) x1 x2) := by
  refine Mt.of rfl (Nat.le_of_ble_eq_true rfl) ?_
  refine Rn.pick (lv' := [(0, .ref s), (1, .ref ga), (2, .int (iv x1)), (3, .int (iv x2))]) [0, 1, 2, 3] rfl ?_
  obtain ⟨hg_O, hg_from, hg_to, hg_weight, hg_cost, hg_tail, hg_head, hg_by, hg_out, hg_in, hg_joined, hg_b⟩ := id hg
  obtain ⟨⟨hxg_F, hxg_T, hxg_W, hxg_C, hxg_Tl, hxg_Hd, hxg_By, hxg_Ou, hxg_In, hxg_Jo⟩, ⟨hrg_F, hrg_T, hrg_W, hrg_C, hrg_Tl, hrg_Hd, hrg_By, hrg_Ou, hrg_In, hrg_Jo⟩, houg⟩ := id hxg
  obtain ⟨hr3_ga, hr3_gF, hr3_gT, hr3_gW, hr3_gC, hr3_gTl, hr3_gHd, hr3_gBy, hr3_gOu, hr3_gIn, hr3_gJo⟩ := id hne3
  obtain ⟨hr4_ga, hr4_gF, hr4_gT, hr4_gW, hr4_gC, hr4_gTl, hr4_gHd, hr4_gBy, hr4_gOu, hr4_gIn, hr4_gJo⟩ := id hne4
  obtain ⟨hr5_ga, hr5_gF, hr5_gT, hr5_gW, hr5_gC, hr5_gTl, hr5_gHd, hr5_gBy, hr5_gOu, hr5_gIn, hr5_gJo⟩ := id hne5
  have hgb := hg_b
  have hb1 := bc_le x1 16
  refine r_aload_n (pc := 0) dX7_widthOf_0 (i := 1) rfl rfl ?_
  refine t_getE (pc := 1) (.ref gJo) ht (rd_ov (Ne.symm hr4_ga) (rd_ov (Ne.symm hr5_ga) (rd_ov (Ne.symm hr3_ga) hg_O))) fX7_41 dX7_widthOf_1 rfl ?_
  refine r_iconst (pc := 4) (v := iv 0) dX7_widthOf_4 (by decide) ?_
  refine r_aload_n (pc := 5) dX7_widthOf_5 (i := 0) rfl rfl ?_
  refine t_getE (pc := 6) (.ref (s + 3)) ht (rd_ov (by omega) (rd_ov (by omega) (rd_ov (by omega) hO))) fX7_18 dX7_widthOf_6 rfl ?_
  refine r_iconst (pc := 9) (v := iv 0) dX7_widthOf_9 (by decide) ?_
  refine r_aload_n (pc := 10) dX7_widthOf_10 (i := 1) rfl rfl ?_
  refine t_getE (pc := 11) (.int (iv (gn : Int))) ht (rd_ov (Ne.symm hr4_ga) (rd_ov (Ne.symm hr5_ga) (rd_ov (Ne.symm hr3_ga) hg_O))) fX7_44 dX7_widthOf_11 rfl ?_
  refine t_copyIX (pc := 14) (t0 := 0) ht (rd_ov (Ne.symm hr4_gJo) (rd_ov (Ne.symm hr5_gJo) (rd_ov (Ne.symm hr3_gJo) hxg_Jo))) (rd_ov (by omega) (rd_ov (by omega) (rd_of (ov_s _ _ _)))) aX7_90 dX7_widthOf_14 rfl (by omega) (by omega) (Nat.le_of_ble_eq_true rfl) (fun hp1 ht2 => ?_)
  rw [ov_in3 (show s + 3 ≠ s + 5 by omega) (show s + 3 ≠ s + 4 by omega)] at ht2
  have hR1 : Rfx 272 0 65535 (cpI Jo Lv (Int.toNat 0) (Int.toNat 0) (Int.toNat (gn : Int))) := Rfx_cI2 hrg_Jo hRl (by omega)
  have hrw := lv_cp (M := Lv) (by omega) (fun a h => joX_irr h) hjo hrg_Jo hPn hPc
  refine r_iload_n (pc := 17) dX7_widthOf_17 (i := 3) rfl rfl ?_
  refine r_aload_n (pc := 18) dX7_widthOf_18 (i := 0) rfl rfl ?_
  refine r_aload_n (pc := 19) dX7_widthOf_19 (i := 1) rfl rfl ?_
  refine r_iload_n (pc := 20) dX7_widthOf_20 (i := 2) rfl rfl ?_
  obtain ⟨fs9, hfs9⟩ := t_obj ht2 (rd_ov (by omega) (rd_ov (by omega) (rd_ov (by omega) hO)))
  refine r_callV (pc := 21) (as := [.ref ga, .int (iv x1)]) (st := [.int (iv x2)]) kX7_96 rfl dX7_widthOf_21 hfs9 (c_X7_lowWidthx (d := d - 1) (x1 := x1) (by omega) (TyG.ovx ⟨hr5_ga, hr5_gF, hr5_gT, hr5_gW, hr5_gC, hr5_gTl, hr5_gHd, hr5_gBy, hr5_gOu, hr5_gIn, hr5_gJo⟩ (TyG.ovx ⟨hr3_ga, hr3_gF, hr3_gT, hr3_gW, hr3_gC, hr3_gTl, hr3_gHd, hr3_gBy, hr3_gOu, hr3_gIn, hr3_gJo⟩ hg)) (XG.ovx ⟨hr5_gF, hr5_gT, hr5_gW, hr5_gC, hr5_gTl, hr5_gHd, hr5_gBy, hr5_gOu, hr5_gIn, hr5_gJo⟩ (XG.ovx ⟨hr3_gF, hr3_gT, hr3_gW, hr3_gC, hr3_gTl, hr3_gHd, hr3_gBy, hr3_gOu, hr3_gIn, hr3_gJo⟩ hxg)) hne4 (rd_ov (by omega) (rd_ov (by omega) hO)) hRm ht2 (by omega) hjo hPn hPc) rfl (by omega) (Nat.le_of_ble_eq_true rfl) (Nat.zero_le _) (Nat.zero_le _) rfl (fun r3 hp4 n5 q6 => ?_)
  obtain ⟨hnn5, yl, M1, hrr3, ht7, hRm1, byl, hlw⟩ := q6
  subst n5 r3
  have hl15 := hlw 15 (by omega) (ew_sz (by omega) (by omega) (by omega))
  change Rn _ _ _ 24 _ [.int (iv yl), .int (iv x2)] _ _ _ _ _
  obtain ⟨z8, hz8, bz8⟩ := max_b x2 yl (by omega) (by omega)
  refine r_mmax (pc := 24) (v := iv z8) qX7_58 dX7_widthOf_24 (Nat.le_of_ble_eq_true rfl) hz8 ?_
  refine r_istore (pc := 27) (lv' := [(4, .int (iv z8)), (0, .ref s), (1, .ref ga), (2, .int (iv x1)), (3, .int (iv x2))]) dX7_widthOf_27 (by decide) rfl ?_
  refine r_aload_n (pc := 29) dX7_widthOf_29 (i := 0) rfl rfl ?_
  refine t_getE (pc := 30) (.ref (s + 1)) ht7 (rd_ov (by omega) (rd_ov (by omega) (rd_ov (by omega) hO))) fX7_9 dX7_widthOf_30 rfl ?_
  refine r_iload_n (pc := 33) dX7_widthOf_33 (i := 2) rfl rfl ?_
  refine t_callSI (pc := 34) (as := [.ref (s + 1), .int (iv x1)]) (st := []) kX7_37 dX7_widthOf_34 (c_X7_leastOfGreatestx (d := d - 1) (x1 := x1) (by omega) (rd_ov (by omega) (rd_ov (by omega) (rd_ov (by omega) hSf))) hSR (by omega) (show gn ≤ 16 by omega) (sn_nj hsn (fun i hi j => hjo.1 i hi j)) ht7 (by omega) (fun i j h => nj_sym i j h) hPn) rfl (by omega) (Nat.le_of_ble_eq_true rfl) rfl (fun hp10 y9 ht11 by9 => ?_)
  obtain ⟨by91, hcl9⟩ := by9
  have hcq := cq_nj hcl9 hPn
  refine r_istore (pc := 37) (lv' := [(5, .int (iv y9)), (4, .int (iv z8)), (0, .ref s), (1, .ref ga), (2, .int (iv x1)), (3, .int (iv x2))]) dX7_widthOf_37 (by decide) rfl ?_
  refine r_iload (pc := 39) dX7_widthOf_39 rfl ?_
  refine r_istore (pc := 41) (lv' := [(6, .int (iv z8)), (5, .int (iv y9)), (4, .int (iv z8)), (0, .ref s), (1, .ref ga), (2, .int (iv x1)), (3, .int (iv x2))]) dX7_widthOf_41 (by decide) rfl ?_
  have B43 : ∀ k : Nat, ∀ Lv43 : Nat → Int, ∀ Ho43 : Nat → Int, ∀ Ml43 : Nat → Int, ∀ hp43 : MH, Tw (ov (ov (ov Γ (s + 3) (xI cI 272 Lv43)) (s + 5) (xI cI 2048 Ho43)) (s + 4) (xI cI 16 Ml43)) hp43 → ∀  (v43_6 : Int), 0 ≤ v43_6 ∧ v43_6 ≤ 16 ∧ z8 ≤ v43_6 ∧ (x2 ≤ v43_6) ∧ (Rfx 16 0 65535 Ml43) ∧ (Rfx 272 0 65535 Lv43) ∧ (Rfx 2048 (-2147483648) 2147483647 Ho43) ∧ (rwE (hG (joA gm F T) (Me x1) (Me x1)) x1 (lvW Lv43 0)) ∧ (wkI (joA gm F T) x1 x2 v43_6) → 16 - v43_6 ≤ (k : Int) → Rn (gG D cI cJ cZ cT lo b L xs) mX7_widthOf d 43 [(0, .ref s), (2, .int (iv x1)), (5, .int (iv y9)), (6, .int (iv v43_6))] [] hp43 n 0 0 (wdQ Γ cI s n (joA gm F T) x1 x2) := by
    refine lpS _ ?_
    intro k43 ih43 Lv43 Ho43 Ml43 hp43 ht43 v43_6 hf43 hm43
    obtain ⟨hf43_0, hf43_1, hf43_2, hf43_3, ha43_4, ha43_5, ha43_6, ha43_7, ha43_8⟩ := hf43
    refine r_iload (pc := 43) dX7_widthOf_43 rfl ?_
    refine r_bipush (pc := 45) (v := iv 16) dX7_widthOf_45 (by decide) ?_
    refine t_icmp_ge (pc := 47) (tgt := 80) dX7_widthOf_47 (by decide) (by omega) (by omega) (fun c47 => ?_) (fun c47 => ?_)
    · refine r_bipush (pc := 80) (v := iv 15) dX7_widthOf_80 (by decide) ?_
      exact r_iret (pc := 82) dX7_widthOf_82 rfl (absurd (gw_sz (by omega) (by omega) (by omega)) ((by assumption : wkI (joA gm F T) x1 x2 v43_6) 15 (by omega) (by omega)))
    · refine r_aload_n (pc := 50) dX7_widthOf_50 (i := 0) rfl rfl ?_
      refine t_getE (pc := 51) (.ref (s + 5)) ht43 (rd_ov (by omega) (rd_ov (by omega) (rd_ov (by omega) hO))) fX7_24 dX7_widthOf_51 rfl ?_
      refine r_iconst (pc := 54) (v := iv 0) dX7_widthOf_54 (by decide) ?_
      refine t_fillX (pc := 55) ht43 (eq_ov (by omega) (ov_s _ _ _)) kX7_64 dX7_widthOf_55 (by omega) (by omega) (by omega) (Nat.le_of_ble_eq_true rfl) (fun hp12 ht13 => ?_)
      rw [ov_in2 (show s + 5 ≠ s + 4 by omega)] at ht13
      refine r_aload_n (pc := 58) dX7_widthOf_58 (i := 0) rfl rfl ?_
      refine r_iload_n (pc := 59) dX7_widthOf_59 (i := 2) rfl rfl ?_
      refine r_iload (pc := 60) dX7_widthOf_60 rfl ?_
      refine r_iload (pc := 62) dX7_widthOf_62 rfl ?_
      refine r_iconst (pc := 64) (v := iv 0) dX7_widthOf_64 (by decide) ?_
      obtain ⟨fs8, hfs8⟩ := t_obj ht13 (rd_ov (by omega) (rd_ov (by omega) (rd_ov (by omega) hO)))
      have ht19 := ht13
      rw [ov_c (ov Γ (s + 3) _) _ _ (show s + 5 ≠ s + 4 by omega), ov_c Γ _ _ (show s + 3 ≠ s + 4 by omega)] at ht19
      refine r_callV (pc := 65) (as := [.int (iv x1), .int (iv v43_6), .int (iv y9), .int (iv 0)]) (st := []) kX7_99 rfl dX7_widthOf_65 hfs8 (c_X7_canGox (R := (joA gm F T)) (P := Me x1) (x2 := v43_6) (x3 := y9) (rd_ov (by omega) hO) (by omega) (by omega) (fun i j h => joX_sym i j h) hcq 16 _ _ (d - 1) x1 0 Lv43 (fun _ => 0) (by omega) (by omega) (by omega) (by omega) (by omega) (fun _ g => g) (by assumption) ho_R0 (by assumption) hok_0 ht19) rfl (by omega) (Nat.le_of_ble_eq_true rfl) (Nat.zero_le _) (Nat.zero_le _) rfl (fun r14 hp15 n16 q17 => ?_)
      obtain ⟨hnn16, vr, L2, H2, hrr14, ht18, hR2, hR3, hkk, hsm2, bvr, hvq⟩ := q17
      subst n16 r14
      rw [ov_c Γ _ _ (show s + 4 ≠ s + 3 by omega), ov_c (ov Γ (s + 3) _) _ _ (show s + 4 ≠ s + 5 by omega)] at ht18
      have hrw2 := rw_lv (by assumption : rwE (hG (joA gm F T) (Me x1) (Me x1)) x1 (lvW Lv43 0)) (by omega) hsm2
      change Rn _ _ _ 68 _ [.int (iv vr)] _ _ _ _ _
      refine t_if_eq (pc := 68) (tgt := 74) dX7_widthOf_68 (by decide) (by omega) (fun c68 => ?_) (fun c68 => ?_)
      · have hwk := wkI_st (by assumption : wkI (joA gm F T) x1 x2 v43_6) (fun g9 => absurd (hvq.mpr g9) (by omega))
        refine r_iinc (pc := 74) (v := iv (v43_6 + 1)) (lv' := [(6, .int (iv (v43_6 + 1))), (0, .ref s), (2, .int (iv x1)), (5, .int (iv y9))]) dX7_widthOf_74 rfl (iv_add _ _) (by decide) rfl ?_
        refine r_goto (pc := 77) (tgt := 43) dX7_widthOf_77 (by decide) ?_
        refine Rn.pick (lv' := [(0, .ref s), (2, .int (iv x1)), (5, .int (iv y9)), (6, .int (iv (v43_6 + 1)))]) [1, 2, 3, 0] rfl ?_
        exact ih43 (Int.toNat (16 - (v43_6 + 1))) (by omega) L2 H2 Ml43 _ ht18 (v43_6 + 1) ⟨by omega, by omega, by omega, by omega, by (first | exact hRm1 | assumption), by (first | exact hR2 | exact hR1), by (first | exact hR3 | exact hRh), by (first | exact hrw2 | exact hrw), by (first | exact hwk | exact wkI_0 (fun i j h => joX_sym i j h) (by omega) hlw (by omega))⟩ (by omega)
      · have hgw := hvq.mp (by omega)
        refine r_iload (pc := 71) dX7_widthOf_71 rfl ?_
        exact r_iret (pc := 73) dX7_widthOf_73 rfl ⟨rfl, _, _, _, _, rfl, ht18, ⟨hR2, hR3, by assumption⟩, by omega, hgw, fun k9 h9 g9 => Int.not_lt.mp (fun l9 => (by assumption : wkI (joA gm F T) x1 x2 v43_6) k9 h9 l9 g9)⟩
  refine Rn.pick (lv' := [(0, .ref s), (2, .int (iv x1)), (5, .int (iv y9)), (6, .int (iv z8))]) [3, 5, 1, 0] rfl ?_
  exact B43 (Int.toNat (16 - z8)) (cpI Jo Lv (Int.toNat 0) (Int.toNat 0) (Int.toNat (gn : Int))) Ho M1 _ ht11 z8 ⟨by omega, by omega, by omega, by omega, by (first | exact hRm1 | assumption), by (first | exact hR2 | exact hR1), by (first | exact hR3 | exact hRh), by (first | exact hrw2 | exact hrw), by (first | exact hwk | exact wkI_0 (fun i j h => joX_sym i j h) (by omega) hlw (by omega))⟩ (by omega)
