set_option maxHeartbeats 4000000 in
set_option maxRecDepth 100000 in
theorem w_X10_lowerAll {D : va_G} {cI cJ cZ cT : ClassId} {lo b L : Nat} {xs : Nat → Int32} {hp : MH} {n d : Nat} {Γ : TG} {ga : Nat} {gF : Nat} {gT : Nat} {gW : Nat} {gC : Nat} {gTl : Nat} {gHd : Nat} {gBy : Nat} {gOu : Nat} {gIn : Nat} {gJo : Nat} {gn : Nat} {gm : Nat} {gq : Nat} {gdr : Int} {F T W C Tl Hd By Ou In Jo : Nat → Int} {wa : Nat} {vs : Nat → Int} {vo : Nat → Int64} {vl : Nat → Int} {vm : Nat → Int64} {vr : Nat → Int} {x2 : Int} {pos : Nat → Nat} {s9 : Nat} {Po9 : Option Value → MH → Nat → Prop} (hd0 : 2 ≤ d) (hg : TyG Γ cI cJ cZ ga gF gT gW gC gTl gHd gBy gOu gIn gJo gn gm gq gdr) (hltg : ga < wa ∧ gF < wa ∧ gT < wa ∧ gW < wa ∧ gC < wa ∧ gTl < wa ∧ gHd < wa ∧ gBy < wa ∧ gOu < wa ∧ gIn < wa ∧ gJo < wa) (hxg : XG Γ cI gF gT gW gC gTl gHd gBy gOu gIn gJo gn gm gq F T W C Tl Hd By Ou In Jo) (ht : Tw (WE Γ cI cJ cZ cT wa gn vs vo vl vm vr) hp) (hR_vs : Rfx gn 0 2 vs) (hR_vl : Rfx gn (-1) 100000 vl) (hx2 : 0 ≤ x2 ∧ x2 ≤ 1) (hgo : GoS gm gq gdr F T Tl Hd By pos) (hs9 : s9 < gn) (hli : liP gn gq (s9 : Int) Tl Hd (prI x2 W By) vs vo vl 0) (hlw : lwW gm gdr F T (wE x2 W) s9 gn vs vo vl) (hlb : lwB gm gdr F T (wE x2 W) s9 vs vo vl (1 - 1)) (hPo : ∀ r hp1 n1, (n1 = n ∧ ∃ (vs1 : Nat → Int) (vo1 : Nat → Int64) (vl1 : Nat → Int), Tw (WE Γ cI cJ cZ cT wa gn vs1 vo1 vl1 vm vr) hp1 ∧ r = none ∧ (liP gn gq (s9 : Int) Tl Hd (prI x2 W By) vs1 vo1 vl1 2000) ∧ (lwW gm gdr F T (wE x2 W) s9 gn vs1 vo1 vl1) ∧ (lwB gm gdr F T (wE x2 W) s9 vs1 vo1 vl1 ((gn : Int) - 1))) → Po9 r hp1 n1) : Mt (gG D cI cJ cZ cT lo b L xs) mX10_lowerAll d 0 0 [.ref wa, .ref ga, .int (iv x2)] hp n Po9 := by
  refine Mt.of rfl (Nat.le_of_ble_eq_true rfl) ?_
  refine Rn.pick (lv' := [(0, .ref wa), (1, .ref ga), (2, .int (iv x2))]) [0, 1, 2] rfl ?_
  obtain ⟨hg_O, hg_from, hg_to, hg_weight, hg_cost, hg_tail, hg_head, hg_by, hg_out, hg_in, hg_joined, hg_b⟩ := id hg
  obtain ⟨⟨hxg_F, hxg_T, hxg_W, hxg_C, hxg_Tl, hxg_Hd, hxg_By, hxg_Ou, hxg_In, hxg_Jo⟩, ⟨hrg_F, hrg_T, hrg_W, hrg_C, hrg_Tl, hrg_Hd, hrg_By, hrg_Ou, hrg_In, hrg_Jo⟩, houg⟩ := id hxg
  have hgb := hg_b
  have hsq : gn * gn ≤ 256 := Nat.le_trans (Nat.mul_le_mul (show gn ≤ 16 by omega) (show gn ≤ 16 by omega)) (by decide)
  have hFT : ∀ k, k < gm → (0 ≤ F k ∧ F k < (gn : Int)) ∧ (0 ≤ T k ∧ T k < (gn : Int)) := fun k hk => by have h1 := hrg_F k hk; have h2 := hrg_T k hk; omega
  have hW9 : ∀ e, e < gm → -1000 ≤ W e ∧ W e ≤ 1000 := hrg_W
  refine r_iconst (pc := 0) (v := iv 1) dX10_lowerAll_0 (by decide) ?_
  refine r_istore_n (pc := 1) (lv' := [(3, .int (iv 1)), (0, .ref wa), (1, .ref ga), (2, .int (iv x2))]) dX10_lowerAll_1 (i := 3) rfl (by decide) rfl ?_
  refine r_iconst (pc := 2) (v := iv 1) dX10_lowerAll_2 (by decide) ?_
  refine r_istore (pc := 3) (lv' := [(4, .int (iv 1)), (3, .int (iv 1)), (0, .ref wa), (1, .ref ga), (2, .int (iv x2))]) dX10_lowerAll_3 (by decide) rfl ?_
  have B5 : ∀ k : Nat, ∀ vs5 : Nat → Int, ∀ vo5 : Nat → Int64, ∀ vl5 : Nat → Int, ∀ hp5 : MH, Tw (WE Γ cI cJ cZ cT wa gn vs5 vo5 vl5 vm vr) hp5 → ∀  (v5_3 : Int) (v5_4 : Int), 0 ≤ v5_3 ∧ v5_3 ≤ 1 ∧ 1 ≤ v5_4 ∧ v5_4 ≤ 16 ∧ (Rfx gn 0 2 vs5) ∧ (Rfx gn (-1) 100000 vl5) ∧ (liP gn gq (s9 : Int) Tl Hd (prI x2 W By) vs5 vo5 vl5 (120 * (v5_4 - 1))) ∧ (lwW gm gdr F T (wE x2 W) s9 gn vs5 vo5 vl5) ∧ (lwB gm gdr F T (wE x2 W) s9 vs5 vo5 vl5 (v5_4 - 1)) ∧ (lwC Tl Hd (prI x2 W By) vs5 vo5 vl5 v5_3 (gq : Int)) → 16 - v5_4 ≤ (k : Int) → Rn (gG D cI cJ cZ cT lo b L xs) mX10_lowerAll d 5 [(0, .ref wa), (1, .ref ga), (2, .int (iv x2)), (3, .int (iv v5_3)), (4, .int (iv v5_4))] [] hp5 n 0 0 Po9 := by
    refine lpS _ ?_
    intro k5 ih5 vs5 vo5 vl5 hp5 ht5 v5_3 v5_4 hf5 hm5
    obtain ⟨hf5_0, hf5_1, hf5_2, hf5_3, ha5_4, ha5_5, ha5_6, ha5_7, ha5_8, ha5_9⟩ := hf5
    refine r_iload (pc := 5) dX10_lowerAll_5 rfl ?_
    refine r_aload_n (pc := 7) dX10_lowerAll_7 (i := 0) rfl rfl ?_
    refine t_getE (pc := 8) (.int (iv (gn : Int))) ht5 (rd_of WE_0) fX10_15 dX10_lowerAll_8 rfl ?_
    refine t_icmp_ge (pc := 11) (tgt := 121) dX10_lowerAll_11 (by decide) (by omega) (by omega) (fun c11 => ?_) (fun c11 => ?_)
    · exact r_vret (pc := 121) dX10_lowerAll_121 rfl (hPo _ _ _ ⟨rfl, vs5, vo5, vl5, ht5, rfl, (by exact li_mono (by assumption) (by omega)), (by assumption), (by exact lw_end (p := (prI x2 W By)) (r := v5_4) (c := v5_3) hgo prI_wE (by omega) (by assumption) (by assumption) (by omega))⟩)
    · refine r_iload_n (pc := 14) dX10_lowerAll_14 (i := 3) rfl rfl ?_
      refine t_if_eq (pc := 15) (tgt := 121) dX10_lowerAll_15 (by decide) (by omega) (fun c15 => ?_) (fun c15 => ?_)
      · exact r_vret (pc := 121) dX10_lowerAll_121 rfl (hPo _ _ _ ⟨rfl, vs5, vo5, vl5, ht5, rfl, (by exact li_mono (by assumption) (by omega)), (by assumption), (by exact lw_end (p := (prI x2 W By)) (r := v5_4) (c := v5_3) hgo prI_wE (by omega) (by assumption) (by assumption) (by omega))⟩)
      · refine r_iconst (pc := 18) (v := iv 0) dX10_lowerAll_18 (by decide) ?_
        refine r_istore_n (pc := 19) (lv' := [(3, .int (iv 0)), (0, .ref wa), (1, .ref ga), (2, .int (iv x2)), (4, .int (iv v5_4))]) dX10_lowerAll_19 (i := 3) rfl (by decide) rfl ?_
        refine r_iconst (pc := 20) (v := iv 0) dX10_lowerAll_20 (by decide) ?_
        refine r_istore (pc := 21) (lv' := [(5, .int (iv 0)), (3, .int (iv 0)), (0, .ref wa), (1, .ref ga), (2, .int (iv x2)), (4, .int (iv v5_4))]) dX10_lowerAll_21 (by decide) rfl ?_
        have B23 : ∀ k : Nat, ∀ vs23 : Nat → Int, ∀ vo23 : Nat → Int64, ∀ vl23 : Nat → Int, ∀ hp23 : MH, Tw (WE Γ cI cJ cZ cT wa gn vs23 vo23 vl23 vm vr) hp23 → ∀  (v23_3 : Int) (v23_5 : Int), 0 ≤ v23_3 ∧ v23_3 ≤ 1 ∧ 0 ≤ v23_5 ∧ v23_5 ≤ 120 ∧ (Rfx gn 0 2 vs23) ∧ (Rfx gn (-1) 100000 vl23) ∧ (v23_5 ≤ (gq : Int)) ∧ (liP gn gq (s9 : Int) Tl Hd (prI x2 W By) vs23 vo23 vl23 (120 * (v5_4 - 1) + v23_5)) ∧ (lwW gm gdr F T (wE x2 W) s9 gn vs23 vo23 vl23) ∧ (lwB gm gdr F T (wE x2 W) s9 vs23 vo23 vl23 (v5_4 - 1)) ∧ (lwG gm gdr F T (wE x2 W) s9 Tl Hd By vs23 vo23 vl23 (v5_4 - 1) v23_5) ∧ (lwC Tl Hd (prI x2 W By) vs23 vo23 vl23 v23_3 v23_5) → 120 - v23_5 ≤ (k : Int) → Rn (gG D cI cJ cZ cT lo b L xs) mX10_lowerAll d 23 [(0, .ref wa), (1, .ref ga), (2, .int (iv x2)), (3, .int (iv v23_3)), (4, .int (iv v5_4)), (5, .int (iv v23_5))] [] hp23 n 0 0 Po9 := by
          refine lpS _ ?_
          intro k23 ih23 vs23 vo23 vl23 hp23 ht23 v23_3 v23_5 hf23 hm23
          obtain ⟨hf23_0, hf23_1, hf23_2, hf23_3, ha23_4, ha23_5, hf23_6, ha23_7, ha23_8, ha23_9, ha23_10, ha23_11⟩ := hf23
          refine r_iload (pc := 23) dX10_lowerAll_23 rfl ?_
          refine r_aload_n (pc := 25) dX10_lowerAll_25 (i := 1) rfl rfl ?_
          refine t_getE (pc := 26) (.int (iv (gq : Int))) ht23 (rd_WE (by omega) hg_O) fX10_77 dX10_lowerAll_26 rfl ?_
          refine t_icmp_ge (pc := 29) (tgt := 115) dX10_lowerAll_29 (by decide) (by omega) (by omega) (fun c29 => ?_) (fun c29 => ?_)
          · refine r_iinc (pc := 115) (v := iv (v5_4 + 1)) (lv' := [(4, .int (iv (v5_4 + 1))), (0, .ref wa), (1, .ref ga), (2, .int (iv x2)), (3, .int (iv v23_3)), (5, .int (iv v23_5))]) dX10_lowerAll_115 rfl (iv_add _ _) (by decide) rfl ?_
            refine r_goto (pc := 118) (tgt := 5) dX10_lowerAll_118 (by decide) ?_
            refine Rn.pick (lv' := [(0, .ref wa), (1, .ref ga), (2, .int (iv x2)), (3, .int (iv v23_3)), (4, .int (iv (v5_4 + 1)))]) [1, 2, 3, 4, 0] rfl ?_
            exact ih5 (Int.toNat (16 - (v5_4 + 1))) (by omega) vs23 vo23 vl23 _ ht23 v23_3 (v5_4 + 1) ⟨by omega, by omega, by omega, by omega, by assumption, by assumption, by (first | assumption | exact li_mono (by assumption) (by omega)), by (first | assumption), by (first | assumption | exact lw_rd2 (r := v5_4 - 1) hgo (by omega) (by assumption) (by assumption) (by omega) (by omega)), by (first | assumption | exact lwC_1 | exact lwC_le (by assumption) (by omega))⟩ (by omega)
          · refine r_aload_n (pc := 32) dX10_lowerAll_32 (i := 0) rfl rfl ?_
            refine r_aload_n (pc := 33) dX10_lowerAll_33 (i := 1) rfl rfl ?_
            refine r_iload_n (pc := 34) dX10_lowerAll_34 (i := 2) rfl rfl ?_
            refine r_iload (pc := 35) dX10_lowerAll_35 rfl ?_
            refine t_callVI (pc := 37) (as := [.ref ga, .int (iv x2), .int (iv v23_5)]) (st := []) ht23 (rd_of WE_0) kX10_80 rfl dX10_lowerAll_37 (t_X10_lowersx (d := d - 1) (x1 := x2) (x2 := v23_5) (by omega) (TyG.we hltg hg) (rd_WE (by omega) hxg_Tl) (rd_WE (by omega) hxg_Hd) (rd_WE (by omega) hxg_By) (rd_WE (by omega) hxg_W) hrg_Tl hrg_Hd hrg_By hrg_W (rd_of WE_0) (rd_of WE_1) (rd_of WE_2) (rd_of WE_3) (by assumption) (by assumption) (li_B (by assumption) (by omega)) ht23 (by omega) (by omega)) rfl (by omega) (Nat.le_of_ble_eq_true rfl) rfl (fun hp2 y1 ht3 by1 => ?_)
            obtain ⟨by11, hlo⟩ := by1
            have B109 : ∀ vs109 : Nat → Int, ∀ vo109 : Nat → Int64, ∀ vl109 : Nat → Int, ∀ hp109 : MH, Tw (WE Γ cI cJ cZ cT wa gn vs109 vo109 vl109 vm vr) hp109 → ∀  (v109_3 : Int), 0 ≤ v109_3 ∧ v109_3 ≤ 1 ∧ (Rfx gn 0 2 vs109) ∧ (Rfx gn (-1) 100000 vl109) ∧ (liP gn gq (s9 : Int) Tl Hd (prI x2 W By) vs109 vo109 vl109 (120 * (v5_4 - 1) + v23_5 + 1)) ∧ (lwW gm gdr F T (wE x2 W) s9 gn vs109 vo109 vl109) ∧ (lwB gm gdr F T (wE x2 W) s9 vs109 vo109 vl109 (v5_4 - 1)) ∧ (lwG gm gdr F T (wE x2 W) s9 Tl Hd By vs109 vo109 vl109 (v5_4 - 1) (v23_5 + 1)) ∧ (lwC Tl Hd (prI x2 W By) vs109 vo109 vl109 v109_3 (v23_5 + 1)) → Rn (gG D cI cJ cZ cT lo b L xs) mX10_lowerAll d 109 [(0, .ref wa), (1, .ref ga), (2, .int (iv x2)), (3, .int (iv v109_3)), (4, .int (iv v5_4)), (5, .int (iv v23_5))] [] hp109 n 0 0 Po9 := by
              intro vs109 vo109 vl109 hp109 ht109 v109_3 hf109
              obtain ⟨hf109_0, hf109_1, ha109_2, ha109_3, ha109_4, ha109_5, ha109_6, ha109_7, ha109_8⟩ := hf109
              refine r_iinc (pc := 109) (v := iv (v23_5 + 1)) (lv' := [(5, .int (iv (v23_5 + 1))), (0, .ref wa), (1, .ref ga), (2, .int (iv x2)), (3, .int (iv v109_3)), (4, .int (iv v5_4))]) dX10_lowerAll_109 rfl (iv_add _ _) (by decide) rfl ?_
              refine r_goto (pc := 112) (tgt := 23) dX10_lowerAll_112 (by decide) ?_
              refine Rn.pick (lv' := [(0, .ref wa), (1, .ref ga), (2, .int (iv x2)), (3, .int (iv v109_3)), (4, .int (iv v5_4)), (5, .int (iv (v23_5 + 1)))]) [1, 2, 3, 4, 5, 0] rfl ?_
              exact ih23 (Int.toNat (120 - (v23_5 + 1))) (by omega) vs109 vo109 vl109 _ ht109 v109_3 (v23_5 + 1) ⟨by omega, by omega, by omega, by omega, by assumption, by assumption, by omega, by (first | assumption | exact li_mono (by assumption) (by omega)), by (first | assumption), by (first | assumption), by (first | assumption | exact lwG_0), by (first | assumption | exact lwC_0)⟩ (by omega)
            refine t_if_eq (pc := 40) (tgt := 109) dX10_lowerAll_40 (by decide) (by omega) (fun c40 => ?_) (fun c40 => ?_)
            · refine Rn.pick (lv' := [(0, .ref wa), (1, .ref ga), (2, .int (iv x2)), (3, .int (iv v23_3)), (4, .int (iv v5_4)), (5, .int (iv v23_5))]) [0, 1, 2, 3, 4, 5] rfl ?_
              exact B109 vs23 vo23 vl23 _ ht3 v23_3 ⟨by omega, by omega, by assumption, by assumption, by (first | assumption | exact li_mono (by assumption) (by omega)), by (first | assumption), by (first | assumption), by (first | assumption | exact lw_n prI_wE (by assumption) (by assumption) (by omega) (fun h9 => by have h8 := hlo.mpr h9; omega)), by (first | assumption | exact lwC_1 | exact lwC_n (by assumption) (by omega) (fun h9 => by have h8 := hlo.mpr h9; omega))⟩
            · refine r_aload_n (pc := 43) dX10_lowerAll_43 (i := 1) rfl rfl ?_
              refine t_getE (pc := 44) (.ref gTl) ht3 (rd_WE (by omega) hg_O) fX10_67 dX10_lowerAll_44 rfl ?_
              refine r_iload (pc := 47) dX10_lowerAll_47 rfl ?_
              refine t_ialdX (pc := 49) (t0 := 0) ht3 (rd_WE (by omega) hxg_Tl) dX10_lowerAll_49 rfl (by omega) (by omega) (fun b4 => ?_)
              have rb4 := (show Rfx gq 0 ((gn : Int) - 1) Tl by assumption) (Int.toNat v23_5) (by omega)
              refine r_istore (pc := 50) (lv' := [(6, .int (iv (Tl (Int.toNat v23_5)))), (0, .ref wa), (1, .ref ga), (2, .int (iv x2)), (3, .int (iv v23_3)), (4, .int (iv v5_4)), (5, .int (iv v23_5))]) dX10_lowerAll_50 (by decide) rfl ?_
              refine r_aload_n (pc := 52) dX10_lowerAll_52 (i := 1) rfl rfl ?_
              refine t_getE (pc := 53) (.ref gHd) ht3 (rd_WE (by omega) hg_O) fX10_70 dX10_lowerAll_53 rfl ?_
              refine r_iload (pc := 56) dX10_lowerAll_56 rfl ?_
              refine t_ialdX (pc := 58) (t0 := 0) ht3 (rd_WE (by omega) hxg_Hd) dX10_lowerAll_58 rfl (by omega) (by omega) (fun b5 => ?_)
              have rb5 := (show Rfx gq 0 ((gn : Int) - 1) Hd by assumption) (Int.toNat v23_5) (by omega)
              refine r_istore (pc := 59) (lv' := [(7, .int (iv (Hd (Int.toNat v23_5)))), (6, .int (iv (Tl (Int.toNat v23_5)))), (0, .ref wa), (1, .ref ga), (2, .int (iv x2)), (3, .int (iv v23_3)), (4, .int (iv v5_4)), (5, .int (iv v23_5))]) dX10_lowerAll_59 (by decide) rfl ?_
              refine r_aload_n (pc := 61) dX10_lowerAll_61 (i := 0) rfl rfl ?_
              refine t_getE (pc := 62) (.ref (wa + 1)) ht3 (rd_of WE_0) fX10_18 dX10_lowerAll_62 rfl ?_
              refine r_iload (pc := 65) dX10_lowerAll_65 rfl ?_
              refine r_iconst (pc := 67) (v := iv 1) dX10_lowerAll_67 (by decide) ?_
              refine t_iastX (pc := 68) (t0 := 0) ht3 WE_1 dX10_lowerAll_68 rfl (by omega) (by omega) (by omega) (fun hp6 ht7 => ?_)
              have ht8 := WEw_vs ht7
              have hqht8 : Rfx gn 0 2 (fup vs23 (Int.toNat (Hd (Int.toNat v23_5))) 1) := Rfx_up (by assumption) (by omega)
              refine r_aload_n (pc := 69) dX10_lowerAll_69 (i := 0) rfl rfl ?_
              refine t_getE (pc := 70) (.ref (wa + 2)) ht8 (rd_of WE_0) fX10_22 dX10_lowerAll_70 rfl ?_
              refine r_iload (pc := 73) dX10_lowerAll_73 rfl ?_
              refine r_aload_n (pc := 75) dX10_lowerAll_75 (i := 0) rfl rfl ?_
              refine t_getE (pc := 76) (.ref (wa + 2)) ht8 (rd_of WE_0) fX10_22 dX10_lowerAll_76 rfl ?_
              refine r_iload (pc := 79) dX10_lowerAll_79 rfl ?_
              refine t_laldX (pc := 81) (t0 := 1) ht8 (rd_of WE_2) dX10_lowerAll_81 rfl (by omega) (by omega) ?_
              refine r_aload_n (pc := 82) dX10_lowerAll_82 (i := 1) rfl rfl ?_
              refine r_iload_n (pc := 83) dX10_lowerAll_83 (i := 2) rfl rfl ?_
              refine r_iload (pc := 84) dX10_lowerAll_84 rfl ?_
              refine t_callSJ (pc := 86) (as := [.ref ga, .int (iv x2), .int (iv v23_5)]) (st := [.long (vo23 (Int.toNat (Tl (Int.toNat v23_5)))), .int (iv (Hd (Int.toNat v23_5))), .ref (wa + 2)]) kX10_73 dX10_lowerAll_86 (t_X10_priceOfx (d := d - 1) (x1 := x2) (x2 := v23_5) (by omega) (TyG.we hltg hg) (rd_WE (by omega) hxg_Tl) (rd_WE (by omega) hxg_Hd) (rd_WE (by omega) hxg_By) (rd_WE (by omega) hxg_W) hrg_Tl hrg_Hd hrg_By hrg_W ht8 (by omega) (by omega)) rfl (by omega) (Nat.le_of_ble_eq_true rfl) rfl (fun hp10 y9 ht11 by9 => ?_)
              have ey9 : y9 = prV x2 W By (Int.toNat v23_5) := by9
              subst ey9
              have rBy9 := hrg_By (Int.toNat v23_5) (by omega)
              obtain ⟨py91, py92, py93⟩ := prV_i (each := x2) (Wt := W) (By := By) (k := Int.toNat v23_5) (hrg_W _ (by omega))
              refine r_ladd (pc := 89) (v := (vo23 (Int.toNat (Tl (Int.toNat v23_5)))) + (prV x2 W By (Int.toNat v23_5))) dX10_lowerAll_89 rfl ?_
              have hlo9 := hlo.mp (by omega)
              have hbw9 := li_B (by assumption : liP gn gq (s9 : Int) Tl Hd (prI x2 W By) vs23 vo23 vl23 _) (by omega) (Int.toNat (Tl (Int.toNat v23_5))) (by omega) hlo9.1
              have hla9 := l_add (x := vo23 (Int.toNat (Tl (Int.toNat v23_5)))) (y := prV x2 W By (Int.toNat v23_5)) (by omega)
              refine t_lastX (pc := 90) (t0 := 1) ht11 WE_2 dX10_lowerAll_90 rfl (by omega) (by omega) (fun hp12 ht13 => ?_)
              have ht14 := WEw_vo ht13
              refine r_aload_n (pc := 91) dX10_lowerAll_91 (i := 0) rfl rfl ?_
              refine t_getE (pc := 92) (.ref (wa + 3)) ht14 (rd_of WE_0) fX10_26 dX10_lowerAll_92 rfl ?_
              refine r_iload (pc := 95) dX10_lowerAll_95 rfl ?_
              refine r_aload_n (pc := 97) dX10_lowerAll_97 (i := 0) rfl rfl ?_
              refine t_getE (pc := 98) (.ref (wa + 3)) ht14 (rd_of WE_0) fX10_26 dX10_lowerAll_98 rfl ?_
              refine r_iload (pc := 101) dX10_lowerAll_101 rfl ?_
              refine t_ialdX (pc := 103) (t0 := 0) ht14 (rd_of WE_3) dX10_lowerAll_103 rfl (by omega) (by omega) (fun b15 => ?_)
              have rb15 := (show Rfx gn (-1) 100000 vl23 by assumption) (Int.toNat (Tl (Int.toNat v23_5))) (by omega)
              have hle9 := li_le (by assumption : liP gn gq (s9 : Int) Tl Hd (prI x2 W By) vs23 vo23 vl23 _) (i := Int.toNat (Tl (Int.toNat v23_5))) (by omega) hlo9.1
              refine r_iconst (pc := 104) (v := iv 1) dX10_lowerAll_104 (by decide) ?_
              refine r_iadd (pc := 105) (v := iv ((vl23 (Int.toNat (Tl (Int.toNat v23_5)))) + 1)) dX10_lowerAll_105 (iv_add _ _) ?_
              refine t_iastX (pc := 106) (t0 := 0) ht14 WE_3 dX10_lowerAll_106 rfl (by omega) (by omega) (by omega) (fun hp16 ht17 => ?_)
              have ht18 := WEw_vl ht17
              have hqht18 : Rfx gn (-1) 100000 (fup vl23 (Int.toNat (Hd (Int.toNat v23_5))) ((vl23 (Int.toNat (Tl (Int.toNat v23_5)))) + 1)) := Rfx_up (by assumption) (by omega)
              have hx9 : (vo23 (Int.toNat (Tl (Int.toNat v23_5))) + prV x2 W By (Int.toNat v23_5)).toInt = (vo23 (Int.toNat (Tl (Int.toNat v23_5)))).toInt + (prI x2 W By) (Int.toNat v23_5) := by rw [hla9]; omega
              have hli9 : liP gn gq (s9 : Int) Tl Hd (prI x2 W By) (fup vs23 (Int.toNat (Hd (Int.toNat v23_5))) 1) (fuj vo23 (Int.toNat (Hd (Int.toNat v23_5))) ((vo23 (Int.toNat (Tl (Int.toNat v23_5)))) + (prV x2 W By (Int.toNat v23_5)))) (fup vl23 (Int.toNat (Hd (Int.toNat v23_5))) ((vl23 (Int.toNat (Tl (Int.toNat v23_5)))) + 1)) (120 * (v5_4 - 1) + v23_5 + 1) := li_up (by assumption) (by omega) (by omega) (by omega) (by omega) hlo9 hx9
              obtain ⟨hB9, hG9⟩ := lw_y prI_wE (by assumption : lwB gm gdr F T (wE x2 W) s9 vs23 vo23 vl23 (v5_4 - 1)) (by assumption : lwG gm gdr F T (wE x2 W) s9 Tl Hd By vs23 vo23 vl23 (v5_4 - 1) v23_5) (by omega) hlo9 hx9
              have hW8 := lw_W (Wt := wE x2 W) hgo hFT (by assumption : lwW gm gdr F T (wE x2 W) s9 gn vs23 vo23 vl23) (show Int.toNat v23_5 < gq by omega) hlo9.1 hx9
              refine r_iconst (pc := 107) (v := iv 1) dX10_lowerAll_107 (by decide) ?_
              refine r_istore_n (pc := 108) (lv' := [(3, .int (iv 1)), (7, .int (iv (Hd (Int.toNat v23_5)))), (6, .int (iv (Tl (Int.toNat v23_5)))), (0, .ref wa), (1, .ref ga), (2, .int (iv x2)), (4, .int (iv v5_4)), (5, .int (iv v23_5))]) dX10_lowerAll_108 (i := 3) rfl (by decide) rfl ?_
              refine Rn.pick (lv' := [(0, .ref wa), (1, .ref ga), (2, .int (iv x2)), (3, .int (iv 1)), (4, .int (iv v5_4)), (5, .int (iv v23_5))]) [3, 4, 5, 0, 6, 7] rfl ?_
              exact B109 (fup vs23 (Int.toNat (Hd (Int.toNat v23_5))) 1) (fuj vo23 (Int.toNat (Hd (Int.toNat v23_5))) ((vo23 (Int.toNat (Tl (Int.toNat v23_5)))) + (prV x2 W By (Int.toNat v23_5)))) (fup vl23 (Int.toNat (Hd (Int.toNat v23_5))) ((vl23 (Int.toNat (Tl (Int.toNat v23_5)))) + 1)) _ ht18 1 ⟨by omega, by omega, by assumption, by assumption, by (first | assumption | exact li_mono (by assumption) (by omega)), by (first | assumption), by (first | assumption), by (first | assumption | exact lw_n prI_wE (by assumption) (by assumption) (by omega) (fun h9 => by have h8 := hlo.mpr h9; omega)), by (first | assumption | exact lwC_1 | exact lwC_n (by assumption) (by omega) (fun h9 => by have h8 := hlo.mpr h9; omega))⟩
        refine Rn.pick (lv' := [(0, .ref wa), (1, .ref ga), (2, .int (iv x2)), (3, .int (iv 0)), (4, .int (iv v5_4)), (5, .int (iv 0))]) [2, 3, 4, 1, 5, 0] rfl ?_
        exact B23 (Int.toNat (120 - 0)) vs5 vo5 vl5 _ ht5 0 0 ⟨by omega, by omega, by omega, by omega, by assumption, by assumption, by omega, by (first | assumption | exact li_mono (by assumption) (by omega)), by (first | assumption), by (first | assumption), by (first | assumption | exact lwG_0), by (first | assumption | exact lwC_0)⟩ (by omega)
  refine Rn.pick (lv' := [(0, .ref wa), (1, .ref ga), (2, .int (iv x2)), (3, .int (iv 1)), (4, .int (iv 1))]) [2, 3, 4, 1, 0] rfl ?_
  exact B5 (Int.toNat (16 - 1)) vs vo vl _ ht 1 1 ⟨by omega, by omega, by omega, by omega, by assumption, by assumption, by (first | assumption | exact li_mono (by assumption) (by omega)), by (first | assumption), by (first | assumption | exact lw_rd2 (r := v5_4 - 1) hgo (by omega) (by assumption) (by assumption) (by omega) (by omega)), by (first | assumption | exact lwC_1 | exact lwC_le (by assumption) (by omega))⟩ (by omega)
