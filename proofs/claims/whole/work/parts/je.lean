theorem lo_1 {x z : Int} (h : (x = 0 → z = 0) ∧ (0 < x → ∃ i : Nat, z = ((2 ^ i : Nat) : Int) ∧ Me x i ∧ ∀ j, j < i → ¬ Me x j)) (hx : 0 < x) : ∃ v : Nat, (∀ i, Me z i ↔ i = v) ∧ Me x v := by
  obtain ⟨i, e, h1, _⟩ := h.2 hx
  exact ⟨i, fun j => by rw [e]; exact Me_shl i j, h1⟩
theorem wi_bc {L L1 E : Int} {v : Nat} (hL : 0 ≤ L ∧ L ≤ 65535) (hL1 : 0 ≤ L1 ∧ L1 ≤ 65535) (h1 : ∀ i, Me L1 i ↔ Me L i ∧ ¬ Me E i) (hv : Me L v) (hE : Me E v) : bcI L1 16 < bcI L 16 :=
  bc_less hL.2 hL1 (fun i g => ((h1 i).mp g).1) hv (fun g => ((h1 v).mp g).2 hE)
theorem bc_pos1 {L : Int} (h : 0 < L) (h1 : L ≤ 65535) : 1 ≤ bcI L 16 := by
  obtain ⟨i, hi⟩ := Me_ex h
  exact bc_mem h1 hi
theorem wi_gw {R : Nat → Nat → Prop} {A L L1 E b b1 : Int} (hR : ∀ i j, R i j → R j i) (h : wiI R A L b) (hE : suP E L) (hc : ∀ i j, Me E i → R i j → Me E j) (h1 : ∀ i, Me L1 i ↔ Me L i ∧ ¬ Me E i) (hb : b ≤ b1) (he : gW R (Me E) b1 E) (hm : ∀ k : Int, b ≤ k → gW R (Me E) k E → b1 ≤ k) : wiI R A L1 b1 :=
  wi_st hR h hE hc h1 hb ((gw_ew hR).mp he) (fun k hk g => hm k hk ((gw_ew hR).mpr g))
theorem bc_z {L : Int} (h0 : 0 ≤ L ∧ L ≤ 65535) (h : L = 0 ∨ bcI L 16 ≤ 0) : L = 0 := by
  by_cases e : L = 0
  · exact e
  · have := bc_pos1 (L := L) (by omega) h0.2
    omega
theorem xI_an {cA : ClassId} {L : Nat} {f : Nat → Int} (e : va_E) (h : xI cA L f e) : tI cA L anyI e := tI_imp (fun _ _ _ _ => trivial) e (xI_any e h)
set_option maxHeartbeats 4000000 in
set_option maxRecDepth 100000 in
theorem c_X7_widthx {D : va_G} {cI cJ cZ cT : ClassId} {lo b L : Nat} {xs : Nat → Int32} {hp : MH} {n d : Nat} {Γ : TG} {ga : Nat} {gF : Nat} {gT : Nat} {gW : Nat} {gC : Nat} {gTl : Nat} {gHd : Nat} {gBy : Nat} {gOu : Nat} {gIn : Nat} {gJo : Nat} {gn : Nat} {gm : Nat} {gq : Nat} {gdr : Int} {F T W C Tl Hd By Ou In Jo : Nat → Int} {s : Nat} (hd0 : 21 ≤ d) (hg : TyG Γ cI cJ cZ ga gF gT gW gC gTl gHd gBy gOu gIn gJo gn gm gq gdr) (hxg : XG Γ cI gF gT gW gC gTl gHd gBy gOu gIn gJo gn gm gq F T W C Tl Hd By Ou In Jo) (hne : nE (s + 1) ga ∧ nE (s + 1) gF ∧ nE (s + 1) gT ∧ nE (s + 1) gW ∧ nE (s + 1) gC ∧ nE (s + 1) gTl ∧ nE (s + 1) gHd ∧ nE (s + 1) gBy ∧ nE (s + 1) gOu ∧ nE (s + 1) gIn ∧ nE (s + 1) gJo) (hne3 : nE (s + 3) ga ∧ nE (s + 3) gF ∧ nE (s + 3) gT ∧ nE (s + 3) gW ∧ nE (s + 3) gC ∧ nE (s + 3) gTl ∧ nE (s + 3) gHd ∧ nE (s + 3) gBy ∧ nE (s + 3) gOu ∧ nE (s + 3) gIn ∧ nE (s + 3) gJo) (hne4 : nE (s + 4) ga ∧ nE (s + 4) gF ∧ nE (s + 4) gT ∧ nE (s + 4) gW ∧ nE (s + 4) gC ∧ nE (s + 4) gTl ∧ nE (s + 4) gHd ∧ nE (s + 4) gBy ∧ nE (s + 4) gOu ∧ nE (s + 4) gIn ∧ nE (s + 4) gJo) (hne5 : nE (s + 5) ga ∧ nE (s + 5) gF ∧ nE (s + 5) gT ∧ nE (s + 5) gW ∧ nE (s + 5) gC ∧ nE (s + 5) gTl ∧ nE (s + 5) gHd ∧ nE (s + 5) gBy ∧ nE (s + 5) gOu ∧ nE (s + 5) gIn ∧ nE (s + 5) gJo) (hs : TySets Γ cI cJ cZ s) (ht : Tw Γ hp) (hjo : rwP Jo gn (joX gm F T (fun _ => True))) : Mt (gG D cI cJ cZ cT lo b L xs) mX7_width d 0 0 [.ref s, .ref ga] hp n (pI Γ n (fun r => (0 ≤ r ∧ r ≤ 15) ∧ wdA (joA gm F T) (Me (((2 ^ gn : Nat) : Int) - 1)) r)) := by
  refine Mt.of rfl (Nat.le_of_ble_eq_true rfl) ?_
  refine Rn.pick (lv' := [(0, .ref s), (1, .ref ga)]) [0, 1] rfl ?_
  obtain ⟨hg_O, hg_from, hg_to, hg_weight, hg_cost, hg_tail, hg_head, hg_by, hg_out, hg_in, hg_joined, hg_b⟩ := id hg
  obtain ⟨⟨hxg_F, hxg_T, hxg_W, hxg_C, hxg_Tl, hxg_Hd, hxg_By, hxg_Ou, hxg_In, hxg_Jo⟩, ⟨hrg_F, hrg_T, hrg_W, hrg_C, hrg_Tl, hrg_Hd, hrg_By, hrg_Ou, hrg_In, hrg_Jo⟩, houg⟩ := id hxg
  obtain ⟨hq_ga, hq_gF, hq_gT, hq_gW, hq_gC, hq_gTl, hq_gHd, hq_gBy, hq_gOu, hq_gIn, hq_gJo⟩ := id hne
  obtain ⟨hr3_ga, hr3_gF, hr3_gT, hr3_gW, hr3_gC, hr3_gTl, hr3_gHd, hr3_gBy, hr3_gOu, hr3_gIn, hr3_gJo⟩ := id hne3
  obtain ⟨hr4_ga, hr4_gF, hr4_gT, hr4_gW, hr4_gC, hr4_gTl, hr4_gHd, hr4_gBy, hr4_gOu, hr4_gIn, hr4_gJo⟩ := id hne4
  obtain ⟨hr5_ga, hr5_gF, hr5_gT, hr5_gW, hr5_gC, hr5_gTl, hr5_gHd, hr5_gBy, hr5_gOu, hr5_gIn, hr5_gJo⟩ := id hne5
  have hgb := hg_b
  have t8 := Tw.ovr ht hs.2.1
  obtain ⟨Sf, hSf, t9⟩ := t8.unI
  have hR9 : Rfx 16 0 65535 Sf := fun i hi => (hSf i hi).1
  refine r_aload_n (pc := 0) dX7_width_0 (i := 1) rfl rfl ?_
  refine t_callVI (pc := 1) (as := []) (st := []) t9 (rd_ov (Ne.symm hq_ga) hg_O) kX7_31 rfl dX7_width_1 (c_X3_allNodesx (d := d - 1)  (by omega) (TyG.ovx ⟨hq_ga, hq_gF, hq_gT, hq_gW, hq_gC, hq_gTl, hq_gHd, hq_gBy, hq_gOu, hq_gIn, hq_gJo⟩ hg) (XG.ovx ⟨hq_gF, hq_gT, hq_gW, hq_gC, hq_gTl, hq_gHd, hq_gBy, hq_gOu, hq_gIn, hq_gJo⟩ hxg) t9  ) rfl (by omega) (Nat.le_of_ble_eq_true rfl) rfl (fun hp2 y1 ht3 by1 => ?_)
  have fy1 : (y1 = ((2 ^ gn : Nat) : Int) - 1) := by1
  have ey1 : y1 = ((2 ^ gn : Nat) : Int) - 1 := fy1
  subst ey1
  have mp5 : 1 ≤ 2 ^ gn := Nat.one_le_two_pow
  have mq5 : 2 ^ gn ≤ 2 ^ 16 := Nat.pow_le_pow_right (by omega) (by omega)
  refine r_istore_n (pc := 4) (lv' := [(2, .int (iv (((2 ^ gn : Nat) : Int) - 1))), (0, .ref s), (1, .ref ga)]) dX7_width_4 (i := 2) rfl (by decide) rfl ?_
  refine r_iconst (pc := 5) (v := iv 0) dX7_width_5 (by decide) ?_
  refine r_istore_n (pc := 6) (lv' := [(3, .int (iv 0)), (2, .int (iv (((2 ^ gn : Nat) : Int) - 1))), (0, .ref s), (1, .ref ga)]) dX7_width_6 (i := 3) rfl (by decide) rfl ?_
  refine r_aload_n (pc := 7) dX7_width_7 (i := 0) rfl rfl ?_
  refine r_aload_n (pc := 8) dX7_width_8 (i := 1) rfl rfl ?_
  obtain ⟨fs9, hfs9⟩ := t_obj ht3 (rd_ov (by omega) (rd_of hs.1))
  refine r_callV (pc := 9) (as := [.ref ga]) (st := []) kX7_27 rfl dX7_width_9 hfs9 (c_X7_fillStrangersx (d := d - 1) (by omega) hg hxg hne (rd_of hs.1) hR9 ht3) rfl (by omega) (Nat.le_of_ble_eq_true rfl) (Nat.zero_le _) (Nat.zero_le _) rfl (fun r9 hp9 n9 q9 => ?_)
  obtain ⟨hn9, hr9, f2, t2, hR2, hsn⟩ := q9
  subst n9 r9
  change Rn _ _ _ 12 _ [] _ _ _ _ _
  have e3 : ov Γ (s + 1) (xI cI 16 f2) (s + 3) = some _ := eq_ov (by omega) hs.2.2.2.1
  have e4 : ov Γ (s + 1) (xI cI 16 f2) (s + 4) = some _ := eq_ov (by omega) hs.2.2.2.2.1
  have e5 : ov Γ (s + 1) (xI cI 16 f2) (s + 5) = some _ := eq_ov (by omega) hs.2.2.2.2.2
  obtain ⟨Lv0, hLv0, t3⟩ := (Tw.ovr t2 e3).unI
  have hRl : Rfx 272 0 65535 Lv0 := fun i hi => (hLv0 i hi).1
  obtain ⟨Ho0, hHo0, t4⟩ := (Tw.ovr t3 (eq_ov (show s + 5 ≠ s + 3 by omega) e5)).unI
  have hRh : Rfx 2048 (-2147483648) 2147483647 Ho0 := fun i hi => (hHo0 i hi).2
  obtain ⟨Ml0, hMl0, t5⟩ := (Tw.ovr t4 (eq_ov (show s + 4 ≠ s + 5 by omega) (eq_ov (show s + 4 ≠ s + 3 by omega) e4))).unI
  have hRm : Rfx 16 0 65535 Ml0 := fun i hi => (hMl0 i hi).1
  refine r_iconst (pc := 12) (v := iv 0) dX7_width_12 (by decide) ?_
  refine r_istore (pc := 13) (lv' := [(4, .int (iv 0)), (3, .int (iv 0)), (2, .int (iv (((2 ^ gn : Nat) : Int) - 1))), (0, .ref s), (1, .ref ga)]) dX7_width_13 (by decide) rfl ?_
  have B15 : ∀ k : Nat, ∀ Sf15 : Nat → Int, ∀ Lv15 : Nat → Int, ∀ Ho15 : Nat → Int, ∀ Ml15 : Nat → Int, ∀ hp15 : MH, Tw (ov (ov (ov (ov Γ (s + 1) (xI cI 16 Sf15)) (s + 3) (xI cI 272 Lv15)) (s + 5) (xI cI 2048 Ho15)) (s + 4) (xI cI 16 Ml15)) hp15 → ∀  (v15_2 : Int) (v15_3 : Int) (v15_4 : Int), 0 ≤ v15_2 ∧ v15_2 ≤ 65535 ∧ v15_2 ≤ (((2 ^ gn : Nat) : Int) - 1) ∧ 0 ≤ v15_3 ∧ v15_3 ≤ 15 ∧ 0 ≤ v15_4 ∧ v15_4 ≤ 16 ∧ (bcI v15_2 16 + v15_4 ≤ 16) ∧ (Rfx 16 0 65535 Sf15) ∧ (snP Sf15 Jo gn (gn : Int)) ∧ (Rfx 272 0 65535 Lv15) ∧ (Rfx 2048 (-2147483648) 2147483647 Ho15) ∧ (Rfx 16 0 65535 Ml15) ∧ (wiI (joA gm F T) (((2 ^ gn : Nat) : Int) - 1) v15_2 v15_3) → 16 - v15_4 ≤ (k : Int) → Rn (gG D cI cJ cZ cT lo b L xs) mX7_width d 15 [(0, .ref s), (1, .ref ga), (2, .int (iv v15_2)), (3, .int (iv v15_3)), (4, .int (iv v15_4))] [] hp15 n 0 0 (pI Γ n (fun r => (0 ≤ r ∧ r ≤ 15) ∧ wdA (joA gm F T) (Me (((2 ^ gn : Nat) : Int) - 1)) r)) := by
    refine lpS _ ?_
    intro k15 ih15 Sf15 Lv15 Ho15 Ml15 hp15 ht15 v15_2 v15_3 v15_4 hf15 hm15
    obtain ⟨hf15_0, hf15_1, hf15_2, hf15_3, hf15_4, hf15_5, hf15_6, ha15_7, ha15_8, ha15_9, ha15_10, ha15_11, ha15_12, ha15_13⟩ := hf15
    refine r_iload (pc := 15) dX7_width_15 rfl ?_
    refine r_bipush (pc := 17) (v := iv 16) dX7_width_17 (by decide) ?_
    refine t_icmp_ge (pc := 19) (tgt := 73) dX7_width_19 (by decide) (by omega) (by omega) (fun c19 => ?_) (fun c19 => ?_)
    · refine r_iload_n (pc := 73) dX7_width_73 (i := 3) rfl rfl ?_
      exact r_iret (pc := 74) dX7_width_74 rfl ⟨rfl, Tw.weak (Tw.weak (Tw.weak (Tw.weak ht15 (eq_ov (show s + 4 ≠ s + 5 by omega) (eq_ov (show s + 4 ≠ s + 3 by omega) (eq_ov (by omega) hs.2.2.2.2.1))) (xI_rg (by assumption : Rfx 16 0 65535 Ml15))) (eq_ov (show s + 5 ≠ s + 3 by omega) (eq_ov (by omega) hs.2.2.2.2.2)) xI_an) (eq_ov (by omega) hs.2.2.2.1) (xI_rg (by assumption : Rfx 272 0 65535 Lv15))) hs.2.1 (xI_rg (by assumption : Rfx 16 0 65535 Sf15)), _, rfl, by omega, wi_e (fun i j h => joX_sym i j h) (fun i j h => (Me_all j).mpr (hjo.2 i j h).2) (by omega) (show wiI (joA gm F T) (((2 ^ gn : Nat) : Int) - 1) 0 v15_3 from (bc_z (L := v15_2) (by omega) (by omega)) ▸ (by assumption : wiI (joA gm F T) (((2 ^ gn : Nat) : Int) - 1) v15_2 v15_3))⟩
    · refine r_iload_n (pc := 22) dX7_width_22 (i := 2) rfl rfl ?_
      refine t_if_eq (pc := 23) (tgt := 73) dX7_width_23 (by decide) (by omega) (fun c23 => ?_) (fun c23 => ?_)
      · refine r_iload_n (pc := 73) dX7_width_73 (i := 3) rfl rfl ?_
        exact r_iret (pc := 74) dX7_width_74 rfl ⟨rfl, Tw.weak (Tw.weak (Tw.weak (Tw.weak ht15 (eq_ov (show s + 4 ≠ s + 5 by omega) (eq_ov (show s + 4 ≠ s + 3 by omega) (eq_ov (by omega) hs.2.2.2.2.1))) (xI_rg (by assumption : Rfx 16 0 65535 Ml15))) (eq_ov (show s + 5 ≠ s + 3 by omega) (eq_ov (by omega) hs.2.2.2.2.2)) xI_an) (eq_ov (by omega) hs.2.2.2.1) (xI_rg (by assumption : Rfx 272 0 65535 Lv15))) hs.2.1 (xI_rg (by assumption : Rfx 16 0 65535 Sf15)), _, rfl, by omega, wi_e (fun i j h => joX_sym i j h) (fun i j h => (Me_all j).mpr (hjo.2 i j h).2) (by omega) (show wiI (joA gm F T) (((2 ^ gn : Nat) : Int) - 1) 0 v15_3 from (bc_z (L := v15_2) (by omega) (by omega)) ▸ (by assumption : wiI (joA gm F T) (((2 ^ gn : Nat) : Int) - 1) v15_2 v15_3))⟩
      · refine r_aload_n (pc := 26) dX7_width_26 (i := 1) rfl rfl ?_
        refine t_getE (pc := 27) (.ref gJo) ht15 (rd_ov (Ne.symm hr4_ga) (rd_ov (Ne.symm hr5_ga) (rd_ov (Ne.symm hr3_ga) (rd_ov (Ne.symm hq_ga) hg_O)))) fX7_41 dX7_width_27 rfl ?_
        refine r_iload_n (pc := 30) dX7_width_30 (i := 2) rfl rfl ?_
        refine r_iload_n (pc := 31) dX7_width_31 (i := 2) rfl rfl ?_
        refine r_ineg (pc := 32) (v := iv (-v15_2)) dX7_width_32 (iv_neg _) ?_
        obtain ⟨z4, hz4, bz4⟩ := and_l v15_2 (-v15_2) (by omega) (by omega)
        refine r_iand (pc := 33) (v := iv z4) dX7_width_33 hz4 ?_
        have mez4 := Me_low hz4 (by omega) (by omega)
        obtain ⟨vl, hvl, hml⟩ := lo_1 mez4 (by omega)
        have hclo := (by assumption : wiI (joA gm F T) (((2 ^ gn : Nat) : Int) - 1) v15_2 v15_3).2.1
        refine r_iload_n (pc := 34) dX7_width_34 (i := 2) rfl rfl ?_
        refine t_callSI (pc := 35) (as := [.ref gJo, .int (iv z4), .int (iv v15_2)]) (st := []) kX7_81 dX7_width_35 (t_X8_reachx (d := d - 1) (Nx := Jo) (rL := gn) (x1 := z4) (x2 := v15_2) (by omega) (rd_ov (Ne.symm hr4_gJo) (rd_ov (Ne.symm hr5_gJo) (rd_ov (Ne.symm hr3_gJo) (rd_ov (Ne.symm hq_gJo) hxg_Jo)))) hrg_Jo (by omega) ht15 (by omega) (by omega)) rfl (by omega) (Nat.le_of_ble_eq_true rfl) rfl (fun hp6 y5 ht7 by5 => ?_)
        obtain ⟨by51, hrx35⟩ := by5
        obtain ⟨hEs, hEv, hEc⟩ := rx_pc hrx35 hjo hvl hml hclo
        refine r_istore (pc := 38) (lv' := [(5, .int (iv y5)), (0, .ref s), (1, .ref ga), (2, .int (iv v15_2)), (3, .int (iv v15_3)), (4, .int (iv v15_4))]) dX7_width_38 (by decide) rfl ?_
        refine r_iload_n (pc := 40) dX7_width_40 (i := 2) rfl rfl ?_
        refine r_iload (pc := 41) dX7_width_41 rfl ?_
        refine r_iconst (pc := 43) (v := iv (-1)) dX7_width_43 (by decide) ?_
        refine r_ixor (pc := 44) (v := iv (-y5 - 1)) dX7_width_44 (iv_not _) ?_
        obtain ⟨z8, hz8, bz8⟩ := and_l v15_2 (-y5 - 1) (by omega) (by omega)
        refine r_iand (pc := 45) (v := iv z8) dX7_width_45 hz8 ?_
        have mez8 := Me_not (y := y5) hz8 (by omega) (by omega) (by omega)
        have hz45 : ∀ i, Me z8 i ↔ Me v15_2 i ∧ ¬ Me y5 i := fun i => mez8 i
        have hlt := wi_bc (by omega) (by omega) hz45 hml hEv
        refine r_istore_n (pc := 46) (lv' := [(2, .int (iv z8)), (5, .int (iv y5)), (0, .ref s), (1, .ref ga), (3, .int (iv v15_3)), (4, .int (iv v15_4))]) dX7_width_46 (i := 2) rfl (by decide) rfl ?_
        refine r_iload (pc := 47) dX7_width_47 rfl ?_
        refine t_callSI (pc := 49) (as := [.int (iv y5)]) (st := []) kX7_52 dX7_width_49 (t_bitCountx (d := d - 1) (x := y5) (by omega) ht7 (by omega)) rfl (by omega) (Nat.le_of_ble_eq_true rfl) rfl (fun hp10 y9 ht11 by9 => ?_)
        have ey9 : y9 = bcI y5 16 := by9
        subst ey9
        have ry9 := bc_le y5 16
        refine r_iload_n (pc := 52) dX7_width_52 (i := 3) rfl rfl ?_
        refine r_iconst (pc := 53) (v := iv 1) dX7_width_53 (by decide) ?_
        refine r_iadd (pc := 54) (v := iv (v15_3 + 1)) dX7_width_54 (iv_add _ _) ?_
        refine t_icmp_le (pc := 55) (tgt := 67) dX7_width_55 (by decide) (by omega) (by omega) (fun c55 => ?_) (fun c55 => ?_)
        · have hwi := wi_sm (fun i j h => joX_sym i j h) (by assumption : wiI (joA gm F T) (((2 ^ gn : Nat) : Int) - 1) v15_2 v15_3) hEs (by omega) hEc hz45 (by omega)
          refine r_iinc (pc := 67) (v := iv (v15_4 + 1)) (lv' := [(4, .int (iv (v15_4 + 1))), (2, .int (iv z8)), (5, .int (iv y5)), (0, .ref s), (1, .ref ga), (3, .int (iv v15_3))]) dX7_width_67 rfl (iv_add _ _) (by decide) rfl ?_
          refine r_goto (pc := 70) (tgt := 15) dX7_width_70 (by decide) ?_
          refine Rn.pick (lv' := [(0, .ref s), (1, .ref ga), (2, .int (iv z8)), (3, .int (iv v15_3)), (4, .int (iv (v15_4 + 1)))]) [3, 4, 1, 5, 0] rfl ?_
          exact ih15 (Int.toNat (16 - (v15_4 + 1))) (by omega) Sf15 Lv15 Ho15 Ml15 _ ht11 z8 v15_3 (v15_4 + 1) ⟨by omega, by omega, by omega, by omega, by omega, by omega, by omega, by (have hbA := bc_le (((2 ^ gn : Nat) : Int) - 1) 16; omega), by (first | exact hR2 | assumption), by (first | exact hsn | assumption), by (first | exact hRl2 | assumption), by (first | exact hRh2 | assumption), by (first | exact hRm2 | assumption), by (first | exact hwi | exact wiI_0 (fun i j h => (Me_all j).mpr (hjo.2 i j h).2))⟩ (by omega)
        · have hbE := bc_le y5 16
          refine r_aload_n (pc := 58) dX7_width_58 (i := 0) rfl rfl ?_
          refine r_aload_n (pc := 59) dX7_width_59 (i := 1) rfl rfl ?_
          refine r_iload (pc := 60) dX7_width_60 rfl ?_
          refine r_iload_n (pc := 62) dX7_width_62 (i := 3) rfl rfl ?_
          obtain ⟨fs8, hfs8⟩ := t_obj ht11 (rd_ov (by omega) (rd_ov (by omega) (rd_ov (by omega) (rd_ov (by omega) (rd_of hs.1)))))
          refine r_callV (pc := 63) (as := [.ref ga, .int (iv y5), .int (iv v15_3)]) (st := []) kX7_86 rfl dX7_width_63 hfs8 (c_X7_widthOfx (d := d - 1) (x1 := y5) (x2 := v15_3) (Sf := Sf15) (by omega) (TyG.ovx ⟨hq_ga, hq_gF, hq_gT, hq_gW, hq_gC, hq_gTl, hq_gHd, hq_gBy, hq_gOu, hq_gIn, hq_gJo⟩ hg) (XG.ovx ⟨hq_gF, hq_gT, hq_gW, hq_gC, hq_gTl, hq_gHd, hq_gBy, hq_gOu, hq_gIn, hq_gJo⟩ hxg) hne3 hne4 hne5 (rd_ov (by omega) (rd_of hs.1)) (rd_of (ov_s _ _ _)) (by assumption) (by assumption) (by assumption) (by assumption) (by assumption) ht11 (by omega) (by omega) hjo (fun v g => (Me_all v).mp ((by assumption : wiI (joA gm F T) (((2 ^ gn : Nat) : Int) - 1) v15_2 v15_3).1 v (hEs v g))) (fun v u g h => hEc v u g h)) rfl (by omega) (Nat.le_of_ble_eq_true rfl) (Nat.zero_le _) (Nat.zero_le _) rfl (fun r12 hp13 n14 q15 => ?_)
          obtain ⟨hnn14, yw, L2, H2, M2, hrr12, ht16, ⟨hRl2, hRh2, hRm2⟩, byw, hgw, hgm⟩ := q15
          subst n14 r12
          have hwi := wi_gw (fun i j h => joX_sym i j h) (by assumption : wiI (joA gm F T) (((2 ^ gn : Nat) : Int) - 1) v15_2 v15_3) hEs hEc hz45 byw.1 hgw hgm
          change Rn _ _ _ 66 _ [.int (iv yw)] _ _ _ _ _
          refine r_istore_n (pc := 66) (lv' := [(3, .int (iv yw)), (2, .int (iv z8)), (5, .int (iv y5)), (0, .ref s), (1, .ref ga), (4, .int (iv v15_4))]) dX7_width_66 (i := 3) rfl (by decide) rfl ?_
          refine r_iinc (pc := 67) (v := iv (v15_4 + 1)) (lv' := [(4, .int (iv (v15_4 + 1))), (3, .int (iv yw)), (2, .int (iv z8)), (5, .int (iv y5)), (0, .ref s), (1, .ref ga)]) dX7_width_67 rfl (iv_add _ _) (by decide) rfl ?_
          refine r_goto (pc := 70) (tgt := 15) dX7_width_70 (by decide) ?_
          refine Rn.pick (lv' := [(0, .ref s), (1, .ref ga), (2, .int (iv z8)), (3, .int (iv yw)), (4, .int (iv (v15_4 + 1)))]) [4, 5, 2, 1, 0] rfl ?_
          exact ih15 (Int.toNat (16 - (v15_4 + 1))) (by omega) Sf15 L2 H2 M2 _ ht16 z8 yw (v15_4 + 1) ⟨by omega, by omega, by omega, by omega, by omega, by omega, by omega, by (have hbA := bc_le (((2 ^ gn : Nat) : Int) - 1) 16; omega), by (first | exact hR2 | assumption), by (first | exact hsn | assumption), by (first | exact hRl2 | assumption), by (first | exact hRh2 | assumption), by (first | exact hRm2 | assumption), by (first | exact hwi | exact wiI_0 (fun i j h => (Me_all j).mpr (hjo.2 i j h).2))⟩ (by omega)
  refine Rn.pick (lv' := [(0, .ref s), (1, .ref ga), (2, .int (iv (((2 ^ gn : Nat) : Int) - 1))), (3, .int (iv 0)), (4, .int (iv 0))]) [3, 4, 2, 1, 0] rfl ?_
  exact B15 (Int.toNat (16 - 0)) f2 Lv0 Ho0 Ml0 _ t5 (((2 ^ gn : Nat) : Int) - 1) 0 0 ⟨by omega, by omega, by omega, by omega, by omega, by omega, by omega, by (have hbA := bc_le (((2 ^ gn : Nat) : Int) - 1) 16; omega), by (first | exact hR2 | assumption), by (first | exact hsn | assumption), by (first | exact hRl2 | assumption), by (first | exact hRh2 | assumption), by (first | exact hRm2 | assumption), by (first | exact hwi | exact wiI_0 (fun i j h => (Me_all j).mpr (hjo.2 i j h).2))⟩ (by omega)
