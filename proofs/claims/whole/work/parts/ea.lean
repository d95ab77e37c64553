set_option maxHeartbeats 4000000 in
set_option maxRecDepth 100000 in
theorem w_X10_traceWide {D : va_G} {cI cJ cZ cT : ClassId} {lo b L : Nat} {xs : Nat → Int32} {hp : MH} {n d : Nat} {Γ : TG} {ga : Nat} {gF : Nat} {gT : Nat} {gW : Nat} {gC : Nat} {gTl : Nat} {gHd : Nat} {gBy : Nat} {gOu : Nat} {gIn : Nat} {gJo : Nat} {gn : Nat} {gm : Nat} {gq : Nat} {gdr : Int} {F T W C Tl Hd By Ou In Jo : Nat → Int} {wa : Nat} {vs : Nat → Int} {vo : Nat → Int64} {vl : Nat → Int} {vm : Nat → Int64} {vr : Nat → Int} {x2 : Int} {pos : Nat → Nat} {Po9 : Option Value → MH → Nat → Prop} (hd0 : 2 ≤ d) (hg : TyG Γ cI cJ cZ ga gF gT gW gC gTl gHd gBy gOu gIn gJo gn gm gq gdr) (hltg : ga < wa ∧ gF < wa ∧ gT < wa ∧ gW < wa ∧ gC < wa ∧ gTl < wa ∧ gHd < wa ∧ gBy < wa ∧ gOu < wa ∧ gIn < wa ∧ gJo < wa) (hxg : XG Γ cI gF gT gW gC gTl gHd gBy gOu gIn gJo gn gm gq F T W C Tl Hd By Ou In Jo) (ht : Tw (WE Γ cI cJ cZ cT wa gn vs vo vl vm vr) hp) (hR_vs : Rfx gn 0 2 vs) (hR_vl : Rfx gn (-1) ((gn : Int) - 1) vl) (hR_vr : Rfx (gn * gn) 0 59 vr) (hx2 : 0 ≤ x2 ∧ x2 ≤ 15) (hgo : GoS gm gq gdr F T Tl Hd By pos) (hx9 : x2 < (gn : Int)) (hn9 : n = wa + 6) (hlo : ∀ (q : Nat) (T : va_E → Prop), Γ q = some T → q < wa) (hwf : ∀ v, v < gn → wfP gm gdr F T W (Int.toNat x2) vs vo v) (hvl : ∀ w, vl w = if w = (Int.toNat x2) then 0 else -1) (hvm : ∀ w, vm w = if w = (Int.toNat x2) then 1 else 0) (hPo : ∀ r hp1 n1, (n1 = wa + 6 + 2 ∧ ∃ (vl1 : Nat → Int) (vm1 : Nat → Int64) (vr1 : Nat → Int), Tw (WE Γ cI cJ cZ cT wa gn vs vo vl1 vm1 vr1) hp1 ∧ r = none ∧ (∀ v, v < gn → wyP gm gdr F T W 2 (Int.toNat x2) (gn : Int) v (vs v) (vo v) (vl1 v) (vm1 v) (fun i => vr1 (v * gn + i))) ∧ (Rfx gn (-1) ((gn : Int) - 1) vl1) ∧ (Rfx (gn * gn) 0 59 vr1)) → Po9 r hp1 n1) : Mt (gG D cI cJ cZ cT lo b L xs) mX10_traceWide d 2 (gn + gn) [.ref wa, .ref ga, .int (iv x2)] hp n Po9 := by
  refine Mt.of rfl (Nat.le_of_ble_eq_true rfl) ?_
  refine Rn.pick (lv' := [(0, .ref wa), (1, .ref ga), (2, .int (iv x2))]) [0, 1, 2] rfl ?_
  subst hn9
  obtain ⟨hg_O, hg_from, hg_to, hg_weight, hg_cost, hg_tail, hg_head, hg_by, hg_out, hg_in, hg_joined, hg_b⟩ := id hg
  obtain ⟨⟨hxg_F, hxg_T, hxg_W, hxg_C, hxg_Tl, hxg_Hd, hxg_By, hxg_Ou, hxg_In, hxg_Jo⟩, ⟨hrg_F, hrg_T, hrg_W, hrg_C, hrg_Tl, hrg_Hd, hrg_By, hrg_Ou, hrg_In, hrg_Jo⟩, houg⟩ := id hxg
  have hgb := hg_b
  have hsq : gn * gn ≤ 256 := Nat.le_trans (Nat.mul_le_mul (show gn ≤ 16 by omega) (show gn ≤ 16 by omega)) (by decide)
  have hFT : ∀ k, k < gm → (0 ≤ F k ∧ F k < (gn : Int)) ∧ (0 ≤ T k ∧ T k < (gn : Int)) := fun k hk => by have h1 := hrg_F k hk; have h2 := hrg_T k hk; omega
  have hW9 : ∀ e, e < gm → -1000 ≤ W e ∧ W e ≤ 1000 := hrg_W
  refine r_aload_n (pc := 0) dX10_traceWide_0 (i := 0) rfl rfl ?_
  refine t_getE (pc := 1) (.int (iv (gn : Int))) ht (rd_of WE_0) fX10_15 dX10_traceWide_1 rfl ?_
  refine t_newI (pc := 4) (t0 := 0) (N := gn) 0 0 ht dX10_traceWide_4 (tb_t (k := 68) (w := Cond.arrayClass .int) (by decide +kernel)) rfl (by omega) (by omega) (by decide) (by omega) (by omega) (fun hp4 Γ4 hE4 hN4 ht4 => ?_)
  refine r_astore_n (pc := 6) (lv' := [(3, .ref (wa + 6)), (0, .ref wa), (1, .ref ga), (2, .int (iv x2))]) dX10_traceWide_6 (i := 3) rfl (by decide) rfl ?_
  refine r_aload_n (pc := 7) dX10_traceWide_7 (i := 0) rfl rfl ?_
  refine t_getE (pc := 8) (.int (iv (gn : Int))) ht4 (rd_ext hE4 (rd_of WE_0)) fX10_15 dX10_traceWide_8 rfl ?_
  refine t_newJ (pc := 11) (t0 := 1) (N := gn) ht4 dX10_traceWide_11 (tb_t (k := 79) (w := Cond.arrayClass .long) (by decide +kernel)) rfl (by omega) (by omega) (by omega) (by omega) (fun hp11 Γ11 hE11 hN11 ht11 => ?_)
  obtain ⟨lv0, -, htA⟩ := ht11.openI (rd_of (hE11 _ _ hN4))
  obtain ⟨su0, -, htB⟩ := htA.openJ (rd_ov (by omega) (rd_of hN11))
  have htL := WL_of (fun q T9 h9 => hE11 _ _ (hE4 _ _ h9)) htB
  refine r_astore (pc := 13) (lv' := [(4, .ref (wa + 7)), (3, .ref (wa + 6)), (0, .ref wa), (1, .ref ga), (2, .int (iv x2))]) dX10_traceWide_13 (by decide) rfl ?_
  refine r_iconst (pc := 15) (v := iv 0) dX10_traceWide_15 (by decide) ?_
  refine r_istore (pc := 16) (lv' := [(5, .int (iv 0)), (4, .ref (wa + 7)), (3, .ref (wa + 6)), (0, .ref wa), (1, .ref ga), (2, .int (iv x2))]) dX10_traceWide_16 (by decide) rfl ?_
  have B18 : ∀ k : Nat, ∀ vl18 : Nat → Int, ∀ vm18 : Nat → Int64, ∀ vr18 : Nat → Int, ∀ lv18 : Nat → Int, ∀ su18 : Nat → Int64, ∀ hp18 : MH, Tw (WL Γ cI cJ cZ cT wa gn vs vo vl18 vm18 vr18 lv18 su18) hp18 → ∀  (v18_5 : Int), 0 ≤ v18_5 ∧ v18_5 ≤ 16 ∧ (Rfx gn (-1) ((gn : Int) - 1) vl18) ∧ (Rfx (gn * gn) 0 59 vr18) ∧ (v18_5 ≤ (gn : Int)) ∧ (twR gm gdr F T W (Int.toNat x2) gn vs vo vl18 vm18 vr18 v18_5) → 16 - v18_5 ≤ (k : Int) → Rn (gG D cI cJ cZ cT lo b L xs) mX10_traceWide d 18 [(0, .ref wa), (1, .ref ga), (2, .int (iv x2)), (3, .ref (wa + 6)), (4, .ref (wa + 7)), (5, .int (iv v18_5))] [] hp18 (wa + 6 + 1 + 1) ((2 - 1) - 1) (((gn + gn) - gn) - gn) Po9 := by
    refine lpS _ ?_
    intro k18 ih18 vl18 vm18 vr18 lv18 su18 hp18 ht18 v18_5 hf18 hm18
    obtain ⟨hf18_0, hf18_1, ha18_2, ha18_3, hf18_4, ha18_5⟩ := hf18
    refine r_iload (pc := 18) dX10_traceWide_18 rfl ?_
    refine r_aload_n (pc := 20) dX10_traceWide_20 (i := 0) rfl rfl ?_
    refine t_getE (pc := 21) (.int (iv (gn : Int))) ht18 (rd_of WL_0) fX10_15 dX10_traceWide_21 rfl ?_
    refine t_icmp_ge (pc := 24) (tgt := 92) dX10_traceWide_24 (by decide) (by omega) (by omega) (fun c24 => ?_) (fun c24 => ?_)
    · exact r_vret (pc := 92) dX10_traceWide_92 rfl (hPo _ _ _ ⟨by omega, vl18, vm18, vr18, (WL_dn hlo ht18), rfl, (by exact tw_end (by assumption) (by omega)), (by assumption), (by assumption)⟩)
    · refine r_iload (pc := 27) dX10_traceWide_27 rfl ?_
      refine r_iload_n (pc := 29) dX10_traceWide_29 (i := 2) rfl rfl ?_
      have B86 : ∀ vl86 : Nat → Int, ∀ vm86 : Nat → Int64, ∀ vr86 : Nat → Int, ∀ lv86 : Nat → Int, ∀ su86 : Nat → Int64, ∀ hp86 : MH, Tw (WL Γ cI cJ cZ cT wa gn vs vo vl86 vm86 vr86 lv86 su86) hp86 → (Rfx gn (-1) ((gn : Int) - 1) vl86) ∧ (Rfx (gn * gn) 0 59 vr86) ∧ (twR gm gdr F T W (Int.toNat x2) gn vs vo vl86 vm86 vr86 (v18_5 + 1)) → Rn (gG D cI cJ cZ cT lo b L xs) mX10_traceWide d 86 [(0, .ref wa), (1, .ref ga), (2, .int (iv x2)), (3, .ref (wa + 6)), (4, .ref (wa + 7)), (5, .int (iv v18_5))] [] hp86 (wa + 6 + 1 + 1) ((2 - 1) - 1) (((gn + gn) - gn) - gn) Po9 := by
        intro vl86 vm86 vr86 lv86 su86 hp86 ht86 hf86
        obtain ⟨ha86_0, ha86_1, ha86_2⟩ := hf86
        refine r_iinc (pc := 86) (v := iv (v18_5 + 1)) (lv' := [(5, .int (iv (v18_5 + 1))), (0, .ref wa), (1, .ref ga), (2, .int (iv x2)), (3, .ref (wa + 6)), (4, .ref (wa + 7))]) dX10_traceWide_86 rfl (iv_add _ _) (by decide) rfl ?_
        refine r_goto (pc := 89) (tgt := 18) dX10_traceWide_89 (by decide) ?_
        refine Rn.pick (lv' := [(0, .ref wa), (1, .ref ga), (2, .int (iv x2)), (3, .ref (wa + 6)), (4, .ref (wa + 7)), (5, .int (iv (v18_5 + 1)))]) [1, 2, 3, 4, 5, 0] rfl ?_
        exact ih18 (Int.toNat (16 - (v18_5 + 1))) (by omega) vl86 vm86 vr86 lv86 su86 _ ht86 (v18_5 + 1) ⟨by omega, by omega, by assumption, by assumption, by omega, by (first | assumption | exact tw_0 hvl hvm)⟩ (by omega)
      refine t_icmp_eq (pc := 30) (tgt := 86) dX10_traceWide_30 (by decide) (by omega) (by omega) (fun c30 => ?_) (fun c30 => ?_)
      · refine Rn.pick (lv' := [(0, .ref wa), (1, .ref ga), (2, .int (iv x2)), (3, .ref (wa + 6)), (4, .ref (wa + 7)), (5, .int (iv v18_5))]) [0, 1, 2, 3, 4, 5] rfl ?_
        exact B86 vl18 vm18 vr18 lv18 su18 _ ht18 ⟨by assumption, by assumption, by (first | assumption | exact htw9 | exact tw_s (by omega) (by assumption) (by omega) (by omega) (hwf _ (by omega)) | exact tw_u hW9 (by assumption) (by omega) (by omega) (by omega) (hwf _ (by omega)))⟩
      · refine r_aload_n (pc := 33) dX10_traceWide_33 (i := 0) rfl rfl ?_
        refine t_getE (pc := 34) (.ref (wa + 1)) ht18 (rd_of WL_0) fX10_18 dX10_traceWide_34 rfl ?_
        refine r_iload (pc := 37) dX10_traceWide_37 rfl ?_
        refine t_ialdX (pc := 39) (t0 := 0) ht18 (rd_of WL_1) dX10_traceWide_39 rfl (by omega) (by omega) (fun b1 => ?_)
        have rb1 := (show Rfx gn 0 2 vs by assumption) (Int.toNat v18_5) (by omega)
        refine r_iconst (pc := 40) (v := iv 1) dX10_traceWide_40 (by decide) ?_
        refine t_icmp_ne (pc := 41) (tgt := 86) dX10_traceWide_41 (by decide) (by omega) (by omega) (fun c41 => ?_) (fun c41 => ?_)
        · refine Rn.pick (lv' := [(0, .ref wa), (1, .ref ga), (2, .int (iv x2)), (3, .ref (wa + 6)), (4, .ref (wa + 7)), (5, .int (iv v18_5))]) [0, 1, 2, 3, 4, 5] rfl ?_
          exact B86 vl18 vm18 vr18 lv18 su18 _ ht18 ⟨by assumption, by assumption, by (first | assumption | exact htw9 | exact tw_s (by omega) (by assumption) (by omega) (by omega) (hwf _ (by omega)) | exact tw_u hW9 (by assumption) (by omega) (by omega) (by omega) (hwf _ (by omega)))⟩
        · refine r_aload_n (pc := 44) dX10_traceWide_44 (i := 0) rfl rfl ?_
          refine r_aload_n (pc := 45) dX10_traceWide_45 (i := 1) rfl rfl ?_
          refine r_iload_n (pc := 46) dX10_traceWide_46 (i := 2) rfl rfl ?_
          refine r_iload (pc := 47) dX10_traceWide_47 rfl ?_
          refine r_aload_n (pc := 49) dX10_traceWide_49 (i := 3) rfl rfl ?_
          refine r_aload (pc := 50) dX10_traceWide_50 rfl ?_
          obtain ⟨fs6, hfs6⟩ := t_obj ht18 (rd_of WL_0)
          refine r_callV (pc := 52) (as := [.ref ga, .int (iv x2), .int (iv v18_5), .ref (wa + 6), .ref (wa + 7)]) (st := []) kX10_113 rfl dX10_traceWide_52 hfs6 (w_X10_countWide (d := d - 1) (x2 := x2) (x3 := v18_5) (by omega) hg hltg hxg ht18 (by omega) (by omega) hgo (by omega) (fun _ _ _ h => h)) rfl (by omega) (Nat.le_of_ble_eq_true rfl) (Nat.zero_le _) (Nat.zero_le _) rfl (fun r3 hp2 n4 hq5 => ?_)
          obtain ⟨hnn4, lv1_8, su1_9, r1_10, ht7, hrr3, hhq50, hhq51, hhq52⟩ := hq5
          subst n4 r3
          have hhq50 : cwP gm gdr F T W (vo (Int.toNat v18_5)).toInt (Int.toNat x2) gn lv1_8 su1_9 r1_10 := hhq50
          have hhq51 : (gn : Int) - 1 ≤ r1_10 ∨ 0 ≤ lv1_8 (Int.toNat v18_5) := hhq51
          have hhq52 : Rfx gn (-1) 16 lv1_8 := hhq52
          change Rn _ _ _ 55 _ [] _ _ _ _ _
          have hwf9 := wf_1 (hwf (Int.toNat v18_5) (by omega)) (by omega) (by omega)
          have hlv9 := cw_lv (by omega) hFT hW9 (by omega) hhq50 (by omega) hwf9.2.1 hhq51
          refine r_aload_n (pc := 55) dX10_traceWide_55 (i := 0) rfl rfl ?_
          refine t_getE (pc := 56) (.ref (wa + 3)) ht7 (rd_of WL_0) fX10_26 dX10_traceWide_56 rfl ?_
          refine r_iload (pc := 59) dX10_traceWide_59 rfl ?_
          refine r_aload_n (pc := 61) dX10_traceWide_61 (i := 3) rfl rfl ?_
          refine r_iload (pc := 62) dX10_traceWide_62 rfl ?_
          refine t_ialdX (pc := 64) (t0 := 0) ht7 (rd_of WL_6) dX10_traceWide_64 rfl (by omega) (by omega) (fun b11 => ?_)
          have rb11 := (show Rfx gn (-1) 16 lv1_8 by assumption) (Int.toNat v18_5) (by omega)
          refine t_iastX (pc := 65) (t0 := 0) ht7 WL_3 dX10_traceWide_65 rfl (by omega) (by omega) (by omega) (fun hp12 ht13 => ?_)
          have ht14 := WLw_vl ht13
          have hqht14 : Rfx gn (-1) ((gn : Int) - 1) (fup vl18 (Int.toNat v18_5) (lv1_8 (Int.toNat v18_5))) := Rfx_up (by assumption) (by omega)
          refine r_aload_n (pc := 66) dX10_traceWide_66 (i := 0) rfl rfl ?_
          refine t_getE (pc := 67) (.ref (wa + 4)) ht14 (rd_of WL_0) fX10_29 dX10_traceWide_67 rfl ?_
          refine r_iload (pc := 70) dX10_traceWide_70 rfl ?_
          refine r_aload (pc := 72) dX10_traceWide_72 rfl ?_
          refine r_iload (pc := 74) dX10_traceWide_74 rfl ?_
          refine t_laldX (pc := 76) (t0 := 1) ht14 (rd_of WL_7) dX10_traceWide_76 rfl (by omega) (by omega) ?_
          refine t_lastX (pc := 77) (t0 := 1) ht14 WL_4 dX10_traceWide_77 rfl (by omega) (by omega) (fun hp15 ht16 => ?_)
          have ht17 := WLw_vm ht16
          refine r_aload_n (pc := 78) dX10_traceWide_78 (i := 0) rfl rfl ?_
          refine r_aload_n (pc := 79) dX10_traceWide_79 (i := 1) rfl rfl ?_
          refine r_iload (pc := 80) dX10_traceWide_80 rfl ?_
          refine r_aload_n (pc := 82) dX10_traceWide_82 (i := 3) rfl rfl ?_
          obtain ⟨fs22, hfs22⟩ := t_obj ht17 (rd_of WL_0)
          refine r_callV (pc := 83) (as := [.ref ga, .int (iv v18_5), .ref (wa + 6)]) (st := []) kX10_117 rfl dX10_traceWide_83 hfs22 (w_X10_followBack (d := d - 1) (x2 := v18_5) (s9 := (Int.toNat x2)) (r9 := r1_10) (by omega) hg hltg hxg ht17 (by assumption) (by assumption) (by assumption) (by omega) hgo hhq50 (by omega) ⟨fup_s _ _ _, hlv9.1, hlv9.2⟩ (fun _ _ _ h => h)) rfl (by omega) (Nat.le_of_ble_eq_true rfl) (Nat.zero_le _) (Nat.zero_le _) rfl (fun r19 hp18 n20 hq21 => ?_)
          obtain ⟨hnn20, vr1_24, ht23, hrr19, hhq210, hhq211, hhq212⟩ := hq21
          subst n20 r19
          have hhq210 : tcP gm gdr F T W 2 (vo (Int.toNat v18_5)).toInt (Int.toNat x2) (Int.toNat ((fup vl18 (Int.toNat v18_5) (lv1_8 (Int.toNat v18_5))) (Int.toNat v18_5))) v18_5 (fun i => vr1_24 ((Int.toNat v18_5) * gn + i)) := hhq210
          have hhq211 : rwO gn vr18 vr1_24 (Int.toNat v18_5) := hhq211
          have hhq212 : Rfx (gn * gn) 0 59 vr1_24 := hhq212
          change Rn _ _ _ 86 _ [] _ _ _ _ _
          rw [fup_s] at hhq210
          have htw9 := tw_f (by assumption : twR gm gdr F T W (Int.toNat x2) gn vs vo vl18 vm18 vr18 v18_5) (by omega) (by omega) (by omega) (hwf _ (by omega)) hhq50 hlv9 hhq210 hhq211
          refine Rn.pick (lv' := [(0, .ref wa), (1, .ref ga), (2, .int (iv x2)), (3, .ref (wa + 6)), (4, .ref (wa + 7)), (5, .int (iv v18_5))]) [0, 1, 2, 3, 4, 5] rfl ?_
          exact B86 (fup vl18 (Int.toNat v18_5) (lv1_8 (Int.toNat v18_5))) (fuj vm18 (Int.toNat v18_5) (su1_9 (Int.toNat v18_5))) vr1_24 lv1_8 su1_9 _ ht23 ⟨by assumption, by assumption, by (first | assumption | exact htw9 | exact tw_s (by omega) (by assumption) (by omega) (by omega) (hwf _ (by omega)) | exact tw_u hW9 (by assumption) (by omega) (by omega) (by omega) (hwf _ (by omega)))⟩
  refine Rn.pick (lv' := [(0, .ref wa), (1, .ref ga), (2, .int (iv x2)), (3, .ref (wa + 6)), (4, .ref (wa + 7)), (5, .int (iv 0))]) [3, 4, 5, 2, 1, 0] rfl ?_
  exact B18 (Int.toNat (16 - 0)) vl vm vr lv0 su0 _ htL 0 ⟨by omega, by omega, by assumption, by assumption, by omega, by (first | assumption | exact tw_0 hvl hvm)⟩ (by omega)
