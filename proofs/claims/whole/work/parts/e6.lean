set_option maxHeartbeats 4000000 in
set_option maxRecDepth 100000 in
theorem w_X10_traceLow {D : va_G} {cI cJ cZ cT : ClassId} {lo b L : Nat} {xs : Nat → Int32} {hp : MH} {n d : Nat} {Γ : TG} {ga : Nat} {gF : Nat} {gT : Nat} {gW : Nat} {gC : Nat} {gTl : Nat} {gHd : Nat} {gBy : Nat} {gOu : Nat} {gIn : Nat} {gJo : Nat} {gn : Nat} {gm : Nat} {gq : Nat} {gdr : Int} {F T W C Tl Hd By Ou In Jo : Nat → Int} {wa : Nat} {vs : Nat → Int} {vo : Nat → Int64} {vl : Nat → Int} {vm : Nat → Int64} {vr : Nat → Int} {x2 : Int} {pos : Nat → Nat} {s9 : Nat} {Po9 : Option Value → MH → Nat → Prop} (hd0 : 2 ≤ d) (hg : TyG Γ cI cJ cZ ga gF gT gW gC gTl gHd gBy gOu gIn gJo gn gm gq gdr) (hltg : ga < wa ∧ gF < wa ∧ gT < wa ∧ gW < wa ∧ gC < wa ∧ gTl < wa ∧ gHd < wa ∧ gBy < wa ∧ gOu < wa ∧ gIn < wa ∧ gJo < wa) (hxg : XG Γ cI gF gT gW gC gTl gHd gBy gOu gIn gJo gn gm gq F T W C Tl Hd By Ou In Jo) (ht : Tw (WE Γ cI cJ cZ cT wa gn vs vo vl vm vr) hp) (hR_vs : Rfx gn 0 2 vs) (hR_vl : Rfx gn (-1) ((gn : Int) - 1) vl) (hR_vr : Rfx (gn * gn) 0 59 vr) (hx2 : 0 ≤ x2 ∧ x2 ≤ 1) (hgo : GoS gm gq gdr F T Tl Hd By pos) (hs9 : s9 < gn) (hlv : ∀ v, v < gn → lwF gm gdr F T (wE x2 W) s9 gn vs vo vl v ∧ vm v = (if vs v = 1 ∧ v = s9 then 1 else 0)) (hPo : ∀ r hp1 n1, (n1 = n ∧ ∃ (vm1 : Nat → Int64) (vr1 : Nat → Int), Tw (WE Γ cI cJ cZ cT wa gn vs vo vl vm1 vr1) hp1 ∧ r = none ∧ (trL gm gdr F T (wE x2 W) s9 gn vs vl vm1 vr1 (gn : Int) 0) ∧ (Rfx (gn * gn) 0 59 vr1)) → Po9 r hp1 n1) : Mt (gG D cI cJ cZ cT lo b L xs) mX10_traceLow d 0 0 [.ref wa, .ref ga, .int (iv x2)] hp n Po9 := by
  refine Mt.of rfl (Nat.le_of_ble_eq_true rfl) ?_
  refine Rn.pick (lv' := [(0, .ref wa), (1, .ref ga), (2, .int (iv x2))]) [0, 1, 2] rfl ?_
  obtain ⟨hg_O, hg_from, hg_to, hg_weight, hg_cost, hg_tail, hg_head, hg_by, hg_out, hg_in, hg_joined, hg_b⟩ := id hg
  obtain ⟨⟨hxg_F, hxg_T, hxg_W, hxg_C, hxg_Tl, hxg_Hd, hxg_By, hxg_Ou, hxg_In, hxg_Jo⟩, ⟨hrg_F, hrg_T, hrg_W, hrg_C, hrg_Tl, hrg_Hd, hrg_By, hrg_Ou, hrg_In, hrg_Jo⟩, houg⟩ := id hxg
  have hgb := hg_b
  have hsq : gn * gn ≤ 256 := Nat.le_trans (Nat.mul_le_mul (show gn ≤ 16 by omega) (show gn ≤ 16 by omega)) (by decide)
  have hFT : ∀ k, k < gm → (0 ≤ F k ∧ F k < (gn : Int)) ∧ (0 ≤ T k ∧ T k < (gn : Int)) := fun k hk => by have h1 := hrg_F k hk; have h2 := hrg_T k hk; omega
  have hW9 : ∀ e, e < gm → -1000 ≤ W e ∧ W e ≤ 1000 := hrg_W
  have hls : ∀ v, v < gn → lwF gm gdr F T (wE x2 W) s9 gn vs vo vl v := fun v hv => (hlv v hv).1
  refine r_iconst (pc := 0) (v := iv 1) dX10_traceLow_0 (by decide) ?_
  refine r_istore_n (pc := 1) (lv' := [(3, .int (iv 1)), (0, .ref wa), (1, .ref ga), (2, .int (iv x2))]) dX10_traceLow_1 (i := 3) rfl (by decide) rfl ?_
  have B2 : ∀ k : Nat, ∀ vm2 : Nat → Int64, ∀ vr2 : Nat → Int, ∀ hp2 : MH, Tw (WE Γ cI cJ cZ cT wa gn vs vo vl vm2 vr2) hp2 → ∀  (v2_3 : Int), 1 ≤ v2_3 ∧ v2_3 ≤ 16 ∧ (Rfx (gn * gn) 0 59 vr2) ∧ (v2_3 ≤ (gn : Int)) ∧ (trL gm gdr F T (wE x2 W) s9 gn vs vl vm2 vr2 v2_3 0) → 16 - v2_3 ≤ (k : Int) → Rn (gG D cI cJ cZ cT lo b L xs) mX10_traceLow d 2 [(0, .ref wa), (1, .ref ga), (2, .int (iv x2)), (3, .int (iv v2_3))] [] hp2 n 0 0 Po9 := by
    refine lpS _ ?_
    intro k2 ih2 vm2 vr2 hp2 ht2 v2_3 hf2 hm2
    obtain ⟨hf2_0, hf2_1, ha2_2, hf2_3, ha2_4⟩ := hf2
    refine r_iload_n (pc := 2) dX10_traceLow_2 (i := 3) rfl rfl ?_
    refine r_aload_n (pc := 3) dX10_traceLow_3 (i := 0) rfl rfl ?_
    refine t_getE (pc := 4) (.int (iv (gn : Int))) ht2 (rd_of WE_0) fX10_15 dX10_traceLow_4 rfl ?_
    refine t_icmp_ge (pc := 7) (tgt := 64) dX10_traceLow_7 (by decide) (by omega) (by omega) (fun c7 => ?_) (fun c7 => ?_)
    · exact r_vret (pc := 64) dX10_traceLow_64 rfl (hPo _ _ _ ⟨rfl, vm2, vr2, ht2, rfl, (by (have h8 : trL gm gdr F T (wE x2 W) s9 gn vs vl vm2 vr2 v2_3 0 := (by assumption); rw [show v2_3 = (gn : Int) by omega] at h8; exact h8)), (by assumption)⟩)
    · refine r_iconst (pc := 10) (v := iv 0) dX10_traceLow_10 (by decide) ?_
      refine r_istore (pc := 11) (lv' := [(4, .int (iv 0)), (0, .ref wa), (1, .ref ga), (2, .int (iv x2)), (3, .int (iv v2_3))]) dX10_traceLow_11 (by decide) rfl ?_
      have B13 : ∀ k : Nat, ∀ vm13 : Nat → Int64, ∀ vr13 : Nat → Int, ∀ hp13 : MH, Tw (WE Γ cI cJ cZ cT wa gn vs vo vl vm13 vr13) hp13 → ∀  (v13_4 : Int), 0 ≤ v13_4 ∧ v13_4 ≤ 16 ∧ (Rfx (gn * gn) 0 59 vr13) ∧ (v13_4 ≤ (gn : Int)) ∧ (trL gm gdr F T (wE x2 W) s9 gn vs vl vm13 vr13 v2_3 v13_4) → 16 - v13_4 ≤ (k : Int) → Rn (gG D cI cJ cZ cT lo b L xs) mX10_traceLow d 13 [(0, .ref wa), (1, .ref ga), (2, .int (iv x2)), (3, .int (iv v2_3)), (4, .int (iv v13_4))] [] hp13 n 0 0 Po9 := by
        refine lpS _ ?_
        intro k13 ih13 vm13 vr13 hp13 ht13 v13_4 hf13 hm13
        obtain ⟨hf13_0, hf13_1, ha13_2, hf13_3, ha13_4⟩ := hf13
        refine r_iload (pc := 13) dX10_traceLow_13 rfl ?_
        refine r_aload_n (pc := 15) dX10_traceLow_15 (i := 0) rfl rfl ?_
        refine t_getE (pc := 16) (.int (iv (gn : Int))) ht13 (rd_of WE_0) fX10_15 dX10_traceLow_16 rfl ?_
        refine t_icmp_ge (pc := 19) (tgt := 58) dX10_traceLow_19 (by decide) (by omega) (by omega) (fun c19 => ?_) (fun c19 => ?_)
        · refine r_iinc (pc := 58) (v := iv (v2_3 + 1)) (lv' := [(3, .int (iv (v2_3 + 1))), (0, .ref wa), (1, .ref ga), (2, .int (iv x2)), (4, .int (iv v13_4))]) dX10_traceLow_58 rfl (iv_add _ _) (by decide) rfl ?_
          refine r_goto (pc := 61) (tgt := 2) dX10_traceLow_61 (by decide) ?_
          refine Rn.pick (lv' := [(0, .ref wa), (1, .ref ga), (2, .int (iv x2)), (3, .int (iv (v2_3 + 1)))]) [1, 2, 3, 0] rfl ?_
          exact ih2 (Int.toNat (16 - (v2_3 + 1))) (by omega) vm13 vr13 _ ht13 (v2_3 + 1) ⟨by omega, by omega, by assumption, by omega, by (first | assumption | exact tr_0 hlv (by omega) rfl | exact tr_nx (by assumption) (by omega))⟩ (by omega)
        · refine r_aload_n (pc := 22) dX10_traceLow_22 (i := 0) rfl rfl ?_
          refine t_getE (pc := 23) (.ref (wa + 1)) ht13 (rd_of WE_0) fX10_18 dX10_traceLow_23 rfl ?_
          refine r_iload (pc := 26) dX10_traceLow_26 rfl ?_
          refine t_ialdX (pc := 28) (t0 := 0) ht13 (rd_of WE_1) dX10_traceLow_28 rfl (by omega) (by omega) (fun b1 => ?_)
          have rb1 := (show Rfx gn 0 2 vs by assumption) (Int.toNat v13_4) (by omega)
          refine r_iconst (pc := 29) (v := iv 1) dX10_traceLow_29 (by decide) ?_
          have B52 : ∀ vm52 : Nat → Int64, ∀ vr52 : Nat → Int, ∀ hp52 : MH, Tw (WE Γ cI cJ cZ cT wa gn vs vo vl vm52 vr52) hp52 → (Rfx (gn * gn) 0 59 vr52) ∧ (trL gm gdr F T (wE x2 W) s9 gn vs vl vm52 vr52 v2_3 (v13_4 + 1)) → Rn (gG D cI cJ cZ cT lo b L xs) mX10_traceLow d 52 [(0, .ref wa), (1, .ref ga), (2, .int (iv x2)), (3, .int (iv v2_3)), (4, .int (iv v13_4))] [] hp52 n 0 0 Po9 := by
            intro vm52 vr52 hp52 ht52 hf52
            obtain ⟨ha52_0, ha52_1⟩ := hf52
            refine r_iinc (pc := 52) (v := iv (v13_4 + 1)) (lv' := [(4, .int (iv (v13_4 + 1))), (0, .ref wa), (1, .ref ga), (2, .int (iv x2)), (3, .int (iv v2_3))]) dX10_traceLow_52 rfl (iv_add _ _) (by decide) rfl ?_
            refine r_goto (pc := 55) (tgt := 13) dX10_traceLow_55 (by decide) ?_
            refine Rn.pick (lv' := [(0, .ref wa), (1, .ref ga), (2, .int (iv x2)), (3, .int (iv v2_3)), (4, .int (iv (v13_4 + 1)))]) [1, 2, 3, 4, 0] rfl ?_
            exact ih13 (Int.toNat (16 - (v13_4 + 1))) (by omega) vm52 vr52 _ ht52 (v13_4 + 1) ⟨by omega, by omega, by assumption, by omega, by (first | assumption)⟩ (by omega)
          refine t_icmp_ne (pc := 30) (tgt := 52) dX10_traceLow_30 (by decide) (by omega) (by omega) (fun c30 => ?_) (fun c30 => ?_)
          · refine Rn.pick (lv' := [(0, .ref wa), (1, .ref ga), (2, .int (iv x2)), (3, .int (iv v2_3)), (4, .int (iv v13_4))]) [0, 1, 2, 3, 4] rfl ?_
            exact B52 vm13 vr13 _ ht13 ⟨by assumption, by (first | assumption | exact tr_no (by assumption) (by omega) (fun h9 => by have h8 := h9.1; have h7 := h9.2; omega))⟩
          · refine r_aload_n (pc := 33) dX10_traceLow_33 (i := 0) rfl rfl ?_
            refine t_getE (pc := 34) (.ref (wa + 3)) ht13 (rd_of WE_0) fX10_26 dX10_traceLow_34 rfl ?_
            refine r_iload (pc := 37) dX10_traceLow_37 rfl ?_
            refine t_ialdX (pc := 39) (t0 := 0) ht13 (rd_of WE_3) dX10_traceLow_39 rfl (by omega) (by omega) (fun b2 => ?_)
            have rb2 := (show Rfx gn (-1) ((gn : Int) - 1) vl by assumption) (Int.toNat v13_4) (by omega)
            refine r_iload_n (pc := 40) dX10_traceLow_40 (i := 3) rfl rfl ?_
            refine t_icmp_ne (pc := 41) (tgt := 52) dX10_traceLow_41 (by decide) (by omega) (by omega) (fun c41 => ?_) (fun c41 => ?_)
            · refine Rn.pick (lv' := [(0, .ref wa), (1, .ref ga), (2, .int (iv x2)), (3, .int (iv v2_3)), (4, .int (iv v13_4))]) [0, 1, 2, 3, 4] rfl ?_
              exact B52 vm13 vr13 _ ht13 ⟨by assumption, by (first | assumption | exact tr_no (by assumption) (by omega) (fun h9 => by have h8 := h9.1; have h7 := h9.2; omega))⟩
            · refine r_aload_n (pc := 44) dX10_traceLow_44 (i := 0) rfl rfl ?_
              refine r_aload_n (pc := 45) dX10_traceLow_45 (i := 1) rfl rfl ?_
              refine r_iload_n (pc := 46) dX10_traceLow_46 (i := 2) rfl rfl ?_
              refine r_iload (pc := 47) dX10_traceLow_47 rfl ?_
              obtain ⟨fs7, hfs7⟩ := t_obj ht13 (rd_of WE_0)
              refine r_callV (pc := 49) (as := [.ref ga, .int (iv x2), .int (iv v13_4)]) (st := []) kX10_97 rfl dX10_traceLow_49 hfs7 (w_X10_traceLowTo (d := d - 1) (x2 := x2) (x3 := v13_4) (L9 := v2_3) (by omega) hg hltg hxg ht13 (by assumption) (by assumption) (by assumption) (by omega) (by omega) hgo hs9 hls (by omega) (by omega) (by omega) (by assumption) (fun _ _ _ h => h)) rfl (by omega) (Nat.le_of_ble_eq_true rfl) (Nat.zero_le _) (Nat.zero_le _) rfl (fun r4 hp3 n5 hq6 => ?_)
              obtain ⟨hnn5, vm1_9, vr1_10, ht8, hrr4, hhq60, hhq61⟩ := hq6
              subst n5 r4
              have hhq60 : trL gm gdr F T (wE x2 W) s9 gn vs vl vm1_9 vr1_10 v2_3 (v13_4 + 1) := hhq60
              have hhq61 : Rfx (gn * gn) 0 59 vr1_10 := hhq61
              change Rn _ _ _ 52 _ [] _ _ _ _ _
              refine Rn.pick (lv' := [(0, .ref wa), (1, .ref ga), (2, .int (iv x2)), (3, .int (iv v2_3)), (4, .int (iv v13_4))]) [0, 1, 2, 3, 4] rfl ?_
              exact B52 vm1_9 vr1_10 _ ht8 ⟨by assumption, by (first | assumption | exact tr_no (by assumption) (by omega) (fun h9 => by have h8 := h9.1; have h7 := h9.2; omega))⟩
      refine Rn.pick (lv' := [(0, .ref wa), (1, .ref ga), (2, .int (iv x2)), (3, .int (iv v2_3)), (4, .int (iv 0))]) [1, 2, 3, 4, 0] rfl ?_
      exact B13 (Int.toNat (16 - 0)) vm2 vr2 _ ht2 0 ⟨by omega, by omega, by assumption, by omega, by (first | assumption)⟩ (by omega)
  refine Rn.pick (lv' := [(0, .ref wa), (1, .ref ga), (2, .int (iv x2)), (3, .int (iv 1))]) [1, 2, 3, 0] rfl ?_
  exact B2 (Int.toNat (16 - 1)) vm vr _ ht 1 ⟨by omega, by omega, by assumption, by omega, by (first | assumption | exact tr_0 hlv (by omega) rfl | exact tr_nx (by assumption) (by omega))⟩ (by omega)
