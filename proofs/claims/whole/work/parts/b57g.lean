set_option maxHeartbeats 4000000 in
set_option maxRecDepth 100000 in
theorem d_X1_drawSquared {D : va_G} {cI cJ cZ cT : ClassId} {lo b L : Nat} {xs : Nat → Int32} {hp : MH} {n d : Nat} {Γ : TG} {s : Nat} {kn : Int} {kd : Int} {ka : Int} {kf : Nat → Int} {kt : Nat → Int} {kw : Nat → Int} {kc : Nat → Int} {lt : Nat → Int} {ga : Nat} {gF : Nat} {gT : Nat} {gW : Nat} {gC : Nat} {gTl : Nat} {gHd : Nat} {gBy : Nat} {gOu : Nat} {gIn : Nat} {gJo : Nat} {gn : Nat} {gm : Nat} {gq : Nat} {gdr : Int} {F T W C Tl Hd By Ou In Jo : Nat → Int} {pos : Nat → Nat} (hd0 : 2 ≤ d) (hg : TyG Γ cI cJ cZ ga gF gT gW gC gTl gHd gBy gOu gIn gJo gn gm gq gdr) (hltg : s + 6 ≤ ga ∧ s + 6 ≤ gF ∧ s + 6 ≤ gT ∧ s + 6 ≤ gW ∧ s + 6 ≤ gC ∧ s + 6 ≤ gTl ∧ s + 6 ≤ gHd ∧ s + 6 ≤ gBy ∧ s + 6 ≤ gOu ∧ s + 6 ≤ gIn ∧ s + 6 ≤ gJo) (hn_kn : 1 ≤ kn ∧ kn ≤ 16) (hn_kd : 0 ≤ kd ∧ kd ≤ 1) (hn_ka : 0 ≤ ka ∧ ka ≤ 60) (ht : Tw (DX Γ cI cJ cZ cT s kn kd ka kf kt kw kc lt) hp)  (hlt9 : Rfx 256 (-1000) 5000 lt) (hxg : XG Γ cI gF gT gW gC gTl gHd gBy gOu gIn gJo gn gm gq F T W C Tl Hd By Ou In Jo) (hgo : GoS gm gq gdr F T Tl Hd By pos) : Mt (gG D cI cJ cZ cT lo b L xs) mX1_drawSquared d 0 0 [.ref s, .ref ga] hp n (qd_X1_drawSquared Γ cI cJ cZ cT s n kn kd ka kf kt kw kc lt ga gF gT gW gC gTl gHd gBy gOu gIn gJo gn gm gq gdr F T W C Tl Hd By Ou In Jo) := by
  refine Mt.of rfl (Nat.le_of_ble_eq_true rfl) ?_
  refine Rn.pick (lv' := [(0, .ref s), (1, .ref ga)]) [0, 1] rfl ?_
  obtain ⟨hg_O, hg_from, hg_to, hg_weight, hg_cost, hg_tail, hg_head, hg_by, hg_out, hg_in, hg_joined, hg_b⟩ := id hg
  obtain ⟨⟨hxg_F, hxg_T, hxg_W, hxg_C, hxg_Tl, hxg_Hd, hxg_By, hxg_Ou, hxg_In, hxg_Jo⟩, ⟨hrg_F, hrg_T, hrg_W, hrg_C, hrg_Tl, hrg_Hd, hrg_By, hrg_Ou, hrg_In, hrg_Jo⟩, houg⟩ := id hxg
  have hFT : ∀ k, k < gm → (0 ≤ F k ∧ F k < (gn : Int)) ∧ (0 ≤ T k ∧ T k < (gn : Int)) := fun k hk => by have h1 := hrg_F k hk; have h2 := hrg_T k hk; omega
  have hWW : ∀ k, k < gm → -1000 ≤ W k ∧ W k ≤ 1000 := fun k hk => hrg_W k hk
  refine r_aload_n (pc := 0) dX1_drawSquared_0 (i := 0) rfl rfl ?_
  refine r_aload_n (pc := 1) dX1_drawSquared_1 (i := 1) rfl rfl ?_
  refine t_getE (pc := 2) (.int (iv (gn : Int))) ht (rd_DX (by omega) hg_O) fX1_60 dX1_drawSquared_2 rfl ?_
  refine r_aload_n (pc := 5) dX1_drawSquared_5 (i := 1) rfl rfl ?_
  refine t_getE (pc := 6) (.int (iv gdr)) ht (rd_DX (by omega) hg_O) fX1_61 dX1_drawSquared_6 rfl ?_
  obtain ⟨fs5, hfs5⟩ := t_obj ht (rd_of DX_0)
  refine r_callV (pc := 9) (as := [.int (iv (gn : Int)), .int (iv gdr)]) (st := []) kX1_62 rfl dX1_drawSquared_9 hfs5 (d_X1_restart (d := d - 1) (x1 := (gn : Int)) (x2 := gdr) (by omega)  ht (by omega) (by omega)) rfl (by omega) (Nat.le_of_ble_eq_true rfl) (Nat.zero_le _) (Nat.zero_le _) rfl (fun r2 hp1 n3 hq4 => ?_)
  obtain ⟨hnn3, ht6, hrr2⟩ := hq4
  subst n3 r2
  change Rn _ _ _ 12 _ [] _ _ _ _ _
  have ha0 : arP kf kt kw kc 0 (gn : Int) := ar_0 _ _ _ _ _
  have hpl0 : PL ([] ++ acc (sqL gn gm gdr F T W) (Int.toNat 0)) 0 kf kt kw kc := PL_0 _ _ _ _
  refine r_aload_n (pc := 12) dX1_drawSquared_12 (i := 0) rfl rfl ?_
  refine r_aload_n (pc := 13) dX1_drawSquared_13 (i := 1) rfl rfl ?_
  obtain ⟨fs11, hfs11⟩ := t_obj ht6 (rd_of DX_0)
  refine r_callV (pc := 14) (as := [.ref ga]) (st := []) kX1_95 rfl dX1_drawSquared_14 hfs11 (d_X1_fillLightest (d := d - 1)  (by omega) hg hltg ht6  (by assumption) hxg) rfl (by omega) (Nat.le_of_ble_eq_true rfl) (Nat.zero_le _) (Nat.zero_le _) rfl (fun r8 hp7 n9 hq10 => ?_)
  obtain ⟨hnn9, l1_13, ht12, hrr8, hhq100, hhq101⟩ := hq10
  subst n9 r8
  have hhq100 : Rfx 256 (-1000) 5000 l1_13 := hhq100
  have hhq101 : ltP gq Tl Hd By W l1_13 := hhq101
  change Rn _ _ _ 17 _ [] _ _ _ _ _
  refine r_iconst (pc := 17) (v := iv 0) dX1_drawSquared_17 (by decide) ?_
  refine r_istore_n (pc := 18) (lv' := [(2, .int (iv 0)), (0, .ref s), (1, .ref ga)]) dX1_drawSquared_18 (i := 2) rfl (by decide) rfl ?_
  have B19 : ∀ k : Nat, ∀ ka19 : Int, ∀ kf19 : Nat → Int, ∀ kt19 : Nat → Int, ∀ kw19 : Nat → Int, ∀ kc19 : Nat → Int, ∀ hp19 : MH, Tw (DX Γ cI cJ cZ cT s (gn : Int) gdr ka19 kf19 kt19 kw19 kc19 l1_13) hp19 → ∀  (v19_2 : Int), 0 ≤ v19_2 ∧ v19_2 ≤ 16 ∧ (0 ≤ ka19) ∧ (ka19 ≤ 60) ∧ (v19_2 ≤ (gn : Int)) ∧ (arP kf19 kt19 kw19 kc19 ka19 (gn : Int)) ∧ (PL (acc (sqL gn gm gdr F T W) (Int.toNat v19_2)) ka19 kf19 kt19 kw19 kc19) → 16 - v19_2 ≤ (k : Int) → Rn (gG D cI cJ cZ cT lo b L xs) mX1_drawSquared d 19 [(0, .ref s), (2, .int (iv v19_2))] [] hp19 n 0 0 (qd_X1_drawSquared Γ cI cJ cZ cT s n kn kd ka kf kt kw kc lt ga gF gT gW gC gTl gHd gBy gOu gIn gJo gn gm gq gdr F T W C Tl Hd By Ou In Jo) := by
    refine lpS _ ?_
    intro k19 ih19 ka19 kf19 kt19 kw19 kc19 hp19 ht19 v19_2 hf19 hm19
    obtain ⟨hf19_0, hf19_1, hf19_2, hf19_3, hf19_4, ha19_5, ha19_6⟩ := hf19
    refine r_iload_n (pc := 19) dX1_drawSquared_19 (i := 2) rfl rfl ?_
    refine r_aload_n (pc := 20) dX1_drawSquared_20 (i := 0) rfl rfl ?_
    refine t_getE (pc := 21) (.int (iv (gn : Int))) ht19 (rd_of DX_0) fX1_9 dX1_drawSquared_21 rfl ?_
    refine t_icmp_ge (pc := 24) (tgt := 93) dX1_drawSquared_24 (by decide) (by omega) (by omega) (fun c24 => ?_) (fun c24 => ?_)
    · refine r_iconst (pc := 93) (v := iv 1) dX1_drawSquared_93 (by decide) ?_
      exact r_zret (pc := 94) dX1_drawSquared_94 rfl (iv_nar (by omega)) ⟨rfl, (gn : Int), gdr, ka19, kf19, kt19, kw19, kc19, l1_13, 1, ht19, rfl, (by omega), (by omega), (by omega), (by (first | assumption | exact ar_0 _ _ _ _ _)), (by assumption), (by (have h8 : PL (acc (sqL gn gm gdr F T W) (Int.toNat v19_2)) _ _ _ _ _ := (by assumption); rw [show v19_2 = (gn : Int) by omega, Int.toNat_natCast] at h8; exact dr_y h8 (by omega))), (by omega), (by omega)⟩
    · refine r_aload_n (pc := 27) dX1_drawSquared_27 (i := 0) rfl rfl ?_
      refine t_getE (pc := 28) (.int (iv gdr)) ht19 (rd_of DX_0) fX1_15 dX1_drawSquared_28 rfl ?_
      refine t_if_eq (pc := 31) (tgt := 38) dX1_drawSquared_31 (by decide) (by omega) (fun c31 => ?_) (fun c31 => ?_)
      · refine r_iload_n (pc := 38) dX1_drawSquared_38 (i := 2) rfl rfl ?_
        refine r_istore_n (pc := 39) (lv' := [(3, .int (iv v19_2)), (0, .ref s), (2, .int (iv v19_2))]) dX1_drawSquared_39 (i := 3) rfl (by decide) rfl ?_
        have B40 : ∀ k : Nat, ∀ ka40 : Int, ∀ kf40 : Nat → Int, ∀ kt40 : Nat → Int, ∀ kw40 : Nat → Int, ∀ kc40 : Nat → Int, ∀ hp40 : MH, Tw (DX Γ cI cJ cZ cT s (gn : Int) gdr ka40 kf40 kt40 kw40 kc40 l1_13) hp40 → ∀  (v40_3 : Int), 0 ≤ v40_3 ∧ v40_3 ≤ 16 ∧ v19_2 ≤ v40_3 ∧ (0 ≤ ka40) ∧ (ka40 ≤ 60) ∧ (v40_3 ≤ (gn : Int)) ∧ (gdr = 0 → v19_2 ≤ v40_3) ∧ (arP kf40 kt40 kw40 kc40 ka40 (gn : Int)) ∧ (PL (acc (sqL gn gm gdr F T W) (Int.toNat v19_2) ++ acc ((sqR gm gdr F T W) (Int.toNat v19_2)) (Int.toNat v40_3)) ka40 kf40 kt40 kw40 kc40) → 16 - v40_3 ≤ (k : Int) → Rn (gG D cI cJ cZ cT lo b L xs) mX1_drawSquared d 40 [(0, .ref s), (2, .int (iv v19_2)), (3, .int (iv v40_3))] [] hp40 n 0 0 (qd_X1_drawSquared Γ cI cJ cZ cT s n kn kd ka kf kt kw kc lt ga gF gT gW gC gTl gHd gBy gOu gIn gJo gn gm gq gdr F T W C Tl Hd By Ou In Jo) := by
          refine lpS _ ?_
          intro k40 ih40 ka40 kf40 kt40 kw40 kc40 hp40 ht40 v40_3 hf40 hm40
          obtain ⟨hf40_0, hf40_1, hf40_2, hf40_3, hf40_4, hf40_5, hf40_6, ha40_7, ha40_8⟩ := hf40
          refine r_iload_n (pc := 40) dX1_drawSquared_40 (i := 3) rfl rfl ?_
          refine r_aload_n (pc := 41) dX1_drawSquared_41 (i := 0) rfl rfl ?_
          refine t_getE (pc := 42) (.int (iv (gn : Int))) ht40 (rd_of DX_0) fX1_9 dX1_drawSquared_42 rfl ?_
          refine t_icmp_ge (pc := 45) (tgt := 87) dX1_drawSquared_45 (by decide) (by omega) (by omega) (fun c45 => ?_) (fun c45 => ?_)
          · refine r_iinc (pc := 87) (v := iv (v19_2 + 1)) (lv' := [(2, .int (iv (v19_2 + 1))), (0, .ref s), (3, .int (iv v40_3))]) dX1_drawSquared_87 rfl (iv_add _ _) (by decide) rfl ?_
            refine r_goto (pc := 90) (tgt := 19) dX1_drawSquared_90 (by decide) ?_
            refine Rn.pick (lv' := [(0, .ref s), (2, .int (iv (v19_2 + 1)))]) [1, 0] rfl ?_
            exact ih19 (Int.toNat (16 - (v19_2 + 1))) (by omega) ka40 kf40 kt40 kw40 kc40 _ ht40 (v19_2 + 1) ⟨by omega, by omega, by omega, by omega, by omega, by assumption, by (first | (rw [List.nil_append] at hpl0; exact hpl0) | (have h8 : PL (acc (sqL gn gm gdr F T W) (Int.toNat v19_2) ++ acc ((sqR gm gdr F T W) (Int.toNat v19_2)) (Int.toNat v40_3)) _ _ _ _ _ := (by assumption); rw [acc_up (by omega)]; have e9 : (sqL gn gm gdr F T W) (Int.toNat v19_2) = acc ((sqR gm gdr F T W) (Int.toNat v19_2)) (Int.toNat v40_3) := (by show acc _ _ = _; rw [show v40_3 = (gn : Int) by omega, Int.toNat_natCast]); rw [e9]; exact h8))⟩ (by omega)
          · refine r_aload_n (pc := 48) dX1_drawSquared_48 (i := 0) rfl rfl ?_
            refine r_iload_n (pc := 49) dX1_drawSquared_49 (i := 2) rfl rfl ?_
            refine r_iload_n (pc := 50) dX1_drawSquared_50 (i := 3) rfl rfl ?_
            obtain ⟨fs18, hfs18⟩ := t_obj ht40 (rd_of DX_0)
            refine r_callV (pc := 51) (as := [.int (iv v19_2), .int (iv v40_3)]) (st := []) kX1_99 rfl dX1_drawSquared_51 hfs18 (d_X1_lightestOfTwo (d := d - 1) (x1 := v19_2) (x2 := v40_3) (by omega)  (by omega) ht40 (by omega) (by omega) (by assumption)) rfl (by omega) (Nat.le_of_ble_eq_true rfl) (Nat.zero_le _) (Nat.zero_le _) rfl (fun r15 hp14 n16 hq17 => ?_)
            obtain ⟨hnn16, rr_20, ht19, hrr15, hhq170, hhq171⟩ := hq17
            subst n16 r15
            have hhq170 : -2000 ≤ rr_20 ∧ rr_20 ≤ 5000 := hhq170
            have hhq171 : l2P l1_13 (Int.toNat v19_2) (Int.toNat v40_3) (gn : Int) rr_20 := hhq171
            change Rn _ _ _ 54 _ [.int (iv rr_20)] _ _ _ _ _
            have hl2 : l2P l1_13 (Int.toNat v19_2) (Int.toNat v40_3) ((gn : Nat) : Int) rr_20 := hhq171
            have hsq := sq_cls (n := gn) hgo hhq101 (by omega) hFT hWW (by omega) (by omega) hl2
            rw [Int.toNat_of_nonneg (show (0 : Int) ≤ v19_2 by omega), Int.toNat_of_nonneg (show (0 : Int) ≤ v40_3 by omega)] at hsq
            refine r_istore (pc := 54) (lv' := [(4, .int (iv rr_20)), (0, .ref s), (2, .int (iv v19_2)), (3, .int (iv v40_3))]) dX1_drawSquared_54 (by decide) rfl ?_
            refine r_iload (pc := 56) dX1_drawSquared_56 rfl ?_
            refine r_sipush (pc := 58) (v := iv 5000) dX1_drawSquared_58 (by decide) ?_
            refine t_icmp_ge (pc := 61) (tgt := 81) dX1_drawSquared_61 (by decide) (by omega) (by omega) (fun c61 => ?_) (fun c61 => ?_)
            · have hrown : (sqR gm gdr F T W) (Int.toNat v19_2) (Int.toNat v40_3) = [] := by
                unfold sqR
                rw [if_neg (by omega), Int.toNat_of_nonneg (show (0 : Int) ≤ v19_2 by omega), Int.toNat_of_nonneg (show (0 : Int) ≤ v40_3 by omega)]
                exact sqE_n (hsq.2 (by omega))
              refine r_iinc (pc := 81) (v := iv (v40_3 + 1)) (lv' := [(3, .int (iv (v40_3 + 1))), (4, .int (iv rr_20)), (0, .ref s), (2, .int (iv v19_2))]) dX1_drawSquared_81 rfl (iv_add _ _) (by decide) rfl ?_
              refine r_goto (pc := 84) (tgt := 40) dX1_drawSquared_84 (by decide) ?_
              refine Rn.pick (lv' := [(0, .ref s), (2, .int (iv v19_2)), (3, .int (iv (v40_3 + 1)))]) [2, 3, 0] rfl ?_
              exact ih40 (Int.toNat (16 - (v40_3 + 1))) (by omega) ka40 kf40 kt40 kw40 kc40 _ ht19 (v40_3 + 1) ⟨by omega, by omega, by omega, by omega, by omega, by omega, by omega, by assumption, by (first | (rw [show acc ((sqR gm gdr F T W) (Int.toNat v19_2)) (Int.toNat 0) = [] from rfl, List.append_nil]; assumption) | (rw [acc_nil (h := (sqR gm gdr F T W) (Int.toNat v19_2)) (fun i hi => by unfold sqR; rw [if_pos (by omega)]), List.append_nil]; assumption) | exact PL_add (by assumption) (by omega) hrow hc0 hc1 (by omega) | exact PL_n (by assumption) (by omega) hrown)⟩ (by omega)
            · refine r_aload_n (pc := 64) dX1_drawSquared_64 (i := 0) rfl rfl ?_
              refine r_iload_n (pc := 65) dX1_drawSquared_65 (i := 2) rfl rfl ?_
              refine r_iload_n (pc := 66) dX1_drawSquared_66 (i := 3) rfl rfl ?_
              refine r_iload (pc := 67) dX1_drawSquared_67 rfl ?_
              refine t_callSI (pc := 69) (as := [.int (iv rr_20)]) (st := [.int (iv v40_3), .int (iv v19_2), .ref s]) kX1_102 dX1_drawSquared_69 (t_X1_clampx (d := d - 1) (x0 := rr_20) (by omega)   ht19 (by omega) ) rfl (by omega) (Nat.le_of_ble_eq_true rfl) rfl (fun hp21 y23 ht22 by23 => ?_)
              have ey23 : y23 = clW rr_20 := by23
              subst ey23
              have rcl69 : -1000 ≤ clW rr_20 ∧ clW rr_20 ≤ 1000 := by unfold clW; (repeat' split) <;> omega
              refine r_iconst (pc := 72) (v := iv 0) dX1_drawSquared_72 (by decide) ?_
              obtain ⟨fs28, hfs28⟩ := t_obj ht22 (rd_of DX_0)
              refine r_callV (pc := 73) (as := [.int (iv v19_2), .int (iv v40_3), .int (iv (clW rr_20)), .int (iv 0)]) (st := []) kX1_74 rfl dX1_drawSquared_73 hfs28 (d_X1_add (d := d - 1) (x1 := v19_2) (x2 := v40_3) (x3 := clW rr_20) (x4 := 0) (by omega)  (by omega) ht22 (by omega) (by omega) (by omega) (by omega)) rfl (by omega) (Nat.le_of_ble_eq_true rfl) (Nat.zero_le _) (Nat.zero_le _) rfl (fun r25 hp24 n26 hq27 => ?_)
              obtain ⟨hnn26, bb_30, k1_31, f1_32, t1_33, w1_34, c1_35, ht29, hrr25, hhq270, hhq271, hhq272, hhq273⟩ := hq27
              subst n26 r25
              have hhq270 : (bb_30 = 1 ∧ ka40 < 60 ∧ k1_31 = ka40 + 1) ∨ (bb_30 = 0 ∧ 60 ≤ ka40 ∧ k1_31 = ka40) := hhq270
              have hhq271 : ka40 < 60 → f1_32 = fup kf40 (Int.toNat ka40) v19_2 ∧ t1_33 = fup kt40 (Int.toNat ka40) v40_3 ∧ w1_34 = fup kw40 (Int.toNat ka40) (clW rr_20) ∧ c1_35 = fup kc40 (Int.toNat ka40) 0 := hhq271
              have hhq272 : 60 ≤ ka40 → f1_32 = kf40 ∧ t1_33 = kt40 ∧ w1_34 = kw40 ∧ c1_35 = kc40 := hhq272
              have hhq273 : 0 ≤ k1_31 ∧ k1_31 ≤ 60 := hhq273
              change Rn _ _ _ 76 _ [.int (iv bb_30)] _ _ _ _ _
              have hapq36 : arP f1_32 t1_33 w1_34 c1_35 k1_31 (gn : Int) := ar_add (by assumption) (by omega) (by omega) (by omega) (by omega) (by omega) hhq270 hhq271 hhq272
              have hc0 := hhq270
              have hc1 := hhq271
              have hrow : (sqR gm gdr F T W) (Int.toNat v19_2) (Int.toNat v40_3) = [(v19_2, v40_3, clW rr_20, 0)] := by
                unfold sqR
                rw [if_neg (by omega), Int.toNat_of_nonneg (show (0 : Int) ≤ v19_2 by omega), Int.toNat_of_nonneg (show (0 : Int) ≤ v40_3 by omega), sqE_y (hsq.1 (by omega))]
              refine t_if_ne (pc := 76) (tgt := 81) dX1_drawSquared_76 (by decide) (by omega) (fun c76 => ?_) (fun c76 => ?_)
              · refine r_iinc (pc := 81) (v := iv (v40_3 + 1)) (lv' := [(3, .int (iv (v40_3 + 1))), (4, .int (iv rr_20)), (0, .ref s), (2, .int (iv v19_2))]) dX1_drawSquared_81 rfl (iv_add _ _) (by decide) rfl ?_
                refine r_goto (pc := 84) (tgt := 40) dX1_drawSquared_84 (by decide) ?_
                refine Rn.pick (lv' := [(0, .ref s), (2, .int (iv v19_2)), (3, .int (iv (v40_3 + 1)))]) [2, 3, 0] rfl ?_
                exact ih40 (Int.toNat (16 - (v40_3 + 1))) (by omega) k1_31 f1_32 t1_33 w1_34 c1_35 _ ht29 (v40_3 + 1) ⟨by omega, by omega, by omega, by omega, by omega, by omega, by omega, by assumption, by (first | (rw [show acc ((sqR gm gdr F T W) (Int.toNat v19_2)) (Int.toNat 0) = [] from rfl, List.append_nil]; assumption) | (rw [acc_nil (h := (sqR gm gdr F T W) (Int.toNat v19_2)) (fun i hi => by unfold sqR; rw [if_pos (by omega)]), List.append_nil]; assumption) | exact PL_add (by assumption) (by omega) hrow hc0 hc1 (by omega) | exact PL_n (by assumption) (by omega) hrown)⟩ (by omega)
              · refine r_iconst (pc := 79) (v := iv 0) dX1_drawSquared_79 (by decide) ?_
                exact r_zret (pc := 80) dX1_drawSquared_80 rfl (iv_nar (by omega)) ⟨rfl, (gn : Int), gdr, k1_31, f1_32, t1_33, w1_34, c1_35, l1_13, 0, ht29, rfl, (by omega), (by omega), (by omega), (by (first | assumption | exact ar_0 _ _ _ _ _)), (by assumption), (by (exact dr_n (PL_over (g := (sqL gn gm gdr F T W)) (h := (sqR gm gdr F T W) (Int.toNat v19_2)) (a := v19_2) (b := v40_3) (N := gn) (by assumption) (by omega) hrow rfl (by omega) (by omega)))), (by omega), (by omega)⟩
        refine Rn.pick (lv' := [(0, .ref s), (2, .int (iv v19_2)), (3, .int (iv v19_2))]) [1, 2, 0] rfl ?_
        exact B40 (Int.toNat (16 - v19_2)) ka19 kf19 kt19 kw19 kc19 _ ht19 v19_2 ⟨by omega, by omega, by omega, by omega, by omega, by omega, by omega, by assumption, by (first | (rw [show acc ((sqR gm gdr F T W) (Int.toNat v19_2)) (Int.toNat 0) = [] from rfl, List.append_nil]; assumption) | (rw [acc_nil (h := (sqR gm gdr F T W) (Int.toNat v19_2)) (fun i hi => by unfold sqR; rw [if_pos (by omega)]), List.append_nil]; assumption) | exact PL_add (by assumption) (by omega) hrow hc0 hc1 (by omega) | exact PL_n (by assumption) (by omega) hrown)⟩ (by omega)
      · refine r_iconst (pc := 34) (v := iv 0) dX1_drawSquared_34 (by decide) ?_
        refine r_goto (pc := 35) (tgt := 39) dX1_drawSquared_35 (by decide) ?_
        refine r_istore_n (pc := 39) (lv' := [(3, .int (iv 0)), (0, .ref s), (2, .int (iv v19_2))]) dX1_drawSquared_39 (i := 3) rfl (by decide) rfl ?_
        have B40 : ∀ k : Nat, ∀ ka40 : Int, ∀ kf40 : Nat → Int, ∀ kt40 : Nat → Int, ∀ kw40 : Nat → Int, ∀ kc40 : Nat → Int, ∀ hp40 : MH, Tw (DX Γ cI cJ cZ cT s (gn : Int) gdr ka40 kf40 kt40 kw40 kc40 l1_13) hp40 → ∀  (v40_3 : Int), 0 ≤ v40_3 ∧ v40_3 ≤ 16 ∧ (0 ≤ ka40) ∧ (ka40 ≤ 60) ∧ (v40_3 ≤ (gn : Int)) ∧ (gdr = 0 → v19_2 ≤ v40_3) ∧ (arP kf40 kt40 kw40 kc40 ka40 (gn : Int)) ∧ (PL (acc (sqL gn gm gdr F T W) (Int.toNat v19_2) ++ acc ((sqR gm gdr F T W) (Int.toNat v19_2)) (Int.toNat v40_3)) ka40 kf40 kt40 kw40 kc40) → 16 - v40_3 ≤ (k : Int) → Rn (gG D cI cJ cZ cT lo b L xs) mX1_drawSquared d 40 [(0, .ref s), (2, .int (iv v19_2)), (3, .int (iv v40_3))] [] hp40 n 0 0 (qd_X1_drawSquared Γ cI cJ cZ cT s n kn kd ka kf kt kw kc lt ga gF gT gW gC gTl gHd gBy gOu gIn gJo gn gm gq gdr F T W C Tl Hd By Ou In Jo) := by
          refine lpS _ ?_
          intro k40 ih40 ka40 kf40 kt40 kw40 kc40 hp40 ht40 v40_3 hf40 hm40
          obtain ⟨hf40_0, hf40_1, hf40_2, hf40_3, hf40_4, hf40_5, ha40_6, ha40_7⟩ := hf40
          refine r_iload_n (pc := 40) dX1_drawSquared_40 (i := 3) rfl rfl ?_
          refine r_aload_n (pc := 41) dX1_drawSquared_41 (i := 0) rfl rfl ?_
          refine t_getE (pc := 42) (.int (iv (gn : Int))) ht40 (rd_of DX_0) fX1_9 dX1_drawSquared_42 rfl ?_
          refine t_icmp_ge (pc := 45) (tgt := 87) dX1_drawSquared_45 (by decide) (by omega) (by omega) (fun c45 => ?_) (fun c45 => ?_)
          · refine r_iinc (pc := 87) (v := iv (v19_2 + 1)) (lv' := [(2, .int (iv (v19_2 + 1))), (0, .ref s), (3, .int (iv v40_3))]) dX1_drawSquared_87 rfl (iv_add _ _) (by decide) rfl ?_
            refine r_goto (pc := 90) (tgt := 19) dX1_drawSquared_90 (by decide) ?_
            refine Rn.pick (lv' := [(0, .ref s), (2, .int (iv (v19_2 + 1)))]) [1, 0] rfl ?_
            exact ih19 (Int.toNat (16 - (v19_2 + 1))) (by omega) ka40 kf40 kt40 kw40 kc40 _ ht40 (v19_2 + 1) ⟨by omega, by omega, by omega, by omega, by omega, by assumption, by (first | (rw [List.nil_append] at hpl0; exact hpl0) | (have h8 : PL (acc (sqL gn gm gdr F T W) (Int.toNat v19_2) ++ acc ((sqR gm gdr F T W) (Int.toNat v19_2)) (Int.toNat v40_3)) _ _ _ _ _ := (by assumption); rw [acc_up (by omega)]; have e9 : (sqL gn gm gdr F T W) (Int.toNat v19_2) = acc ((sqR gm gdr F T W) (Int.toNat v19_2)) (Int.toNat v40_3) := (by show acc _ _ = _; rw [show v40_3 = (gn : Int) by omega, Int.toNat_natCast]); rw [e9]; exact h8))⟩ (by omega)
          · refine r_aload_n (pc := 48) dX1_drawSquared_48 (i := 0) rfl rfl ?_
            refine r_iload_n (pc := 49) dX1_drawSquared_49 (i := 2) rfl rfl ?_
            refine r_iload_n (pc := 50) dX1_drawSquared_50 (i := 3) rfl rfl ?_
            obtain ⟨fs41, hfs41⟩ := t_obj ht40 (rd_of DX_0)
            refine r_callV (pc := 51) (as := [.int (iv v19_2), .int (iv v40_3)]) (st := []) kX1_99 rfl dX1_drawSquared_51 hfs41 (d_X1_lightestOfTwo (d := d - 1) (x1 := v19_2) (x2 := v40_3) (by omega)  (by omega) ht40 (by omega) (by omega) (by assumption)) rfl (by omega) (Nat.le_of_ble_eq_true rfl) (Nat.zero_le _) (Nat.zero_le _) rfl (fun r38 hp37 n39 hq40 => ?_)
            obtain ⟨hnn39, rr_43, ht42, hrr38, hhq400, hhq401⟩ := hq40
            subst n39 r38
            have hhq400 : -2000 ≤ rr_43 ∧ rr_43 ≤ 5000 := hhq400
            have hhq401 : l2P l1_13 (Int.toNat v19_2) (Int.toNat v40_3) (gn : Int) rr_43 := hhq401
            change Rn _ _ _ 54 _ [.int (iv rr_43)] _ _ _ _ _
            have hl2 : l2P l1_13 (Int.toNat v19_2) (Int.toNat v40_3) ((gn : Nat) : Int) rr_43 := hhq401
            have hsq := sq_cls (n := gn) hgo hhq101 (by omega) hFT hWW (by omega) (by omega) hl2
            rw [Int.toNat_of_nonneg (show (0 : Int) ≤ v19_2 by omega), Int.toNat_of_nonneg (show (0 : Int) ≤ v40_3 by omega)] at hsq
            refine r_istore (pc := 54) (lv' := [(4, .int (iv rr_43)), (0, .ref s), (2, .int (iv v19_2)), (3, .int (iv v40_3))]) dX1_drawSquared_54 (by decide) rfl ?_
            refine r_iload (pc := 56) dX1_drawSquared_56 rfl ?_
            refine r_sipush (pc := 58) (v := iv 5000) dX1_drawSquared_58 (by decide) ?_
            refine t_icmp_ge (pc := 61) (tgt := 81) dX1_drawSquared_61 (by decide) (by omega) (by omega) (fun c61 => ?_) (fun c61 => ?_)
            · have hrown : (sqR gm gdr F T W) (Int.toNat v19_2) (Int.toNat v40_3) = [] := by
                unfold sqR
                rw [if_neg (by omega), Int.toNat_of_nonneg (show (0 : Int) ≤ v19_2 by omega), Int.toNat_of_nonneg (show (0 : Int) ≤ v40_3 by omega)]
                exact sqE_n (hsq.2 (by omega))
              refine r_iinc (pc := 81) (v := iv (v40_3 + 1)) (lv' := [(3, .int (iv (v40_3 + 1))), (4, .int (iv rr_43)), (0, .ref s), (2, .int (iv v19_2))]) dX1_drawSquared_81 rfl (iv_add _ _) (by decide) rfl ?_
              refine r_goto (pc := 84) (tgt := 40) dX1_drawSquared_84 (by decide) ?_
              refine Rn.pick (lv' := [(0, .ref s), (2, .int (iv v19_2)), (3, .int (iv (v40_3 + 1)))]) [2, 3, 0] rfl ?_
              exact ih40 (Int.toNat (16 - (v40_3 + 1))) (by omega) ka40 kf40 kt40 kw40 kc40 _ ht42 (v40_3 + 1) ⟨by omega, by omega, by omega, by omega, by omega, by omega, by assumption, by (first | (rw [show acc ((sqR gm gdr F T W) (Int.toNat v19_2)) (Int.toNat 0) = [] from rfl, List.append_nil]; assumption) | (rw [acc_nil (h := (sqR gm gdr F T W) (Int.toNat v19_2)) (fun i hi => by unfold sqR; rw [if_pos (by omega)]), List.append_nil]; assumption) | exact PL_add (by assumption) (by omega) hrow hc0 hc1 (by omega) | exact PL_n (by assumption) (by omega) hrown)⟩ (by omega)
            · refine r_aload_n (pc := 64) dX1_drawSquared_64 (i := 0) rfl rfl ?_
              refine r_iload_n (pc := 65) dX1_drawSquared_65 (i := 2) rfl rfl ?_
              refine r_iload_n (pc := 66) dX1_drawSquared_66 (i := 3) rfl rfl ?_
              refine r_iload (pc := 67) dX1_drawSquared_67 rfl ?_
              refine t_callSI (pc := 69) (as := [.int (iv rr_43)]) (st := [.int (iv v40_3), .int (iv v19_2), .ref s]) kX1_102 dX1_drawSquared_69 (t_X1_clampx (d := d - 1) (x0 := rr_43) (by omega)   ht42 (by omega) ) rfl (by omega) (Nat.le_of_ble_eq_true rfl) rfl (fun hp44 y46 ht45 by46 => ?_)
              have ey46 : y46 = clW rr_43 := by46
              subst ey46
              have rcl69 : -1000 ≤ clW rr_43 ∧ clW rr_43 ≤ 1000 := by unfold clW; (repeat' split) <;> omega
              refine r_iconst (pc := 72) (v := iv 0) dX1_drawSquared_72 (by decide) ?_
              obtain ⟨fs51, hfs51⟩ := t_obj ht45 (rd_of DX_0)
              refine r_callV (pc := 73) (as := [.int (iv v19_2), .int (iv v40_3), .int (iv (clW rr_43)), .int (iv 0)]) (st := []) kX1_74 rfl dX1_drawSquared_73 hfs51 (d_X1_add (d := d - 1) (x1 := v19_2) (x2 := v40_3) (x3 := clW rr_43) (x4 := 0) (by omega)  (by omega) ht45 (by omega) (by omega) (by omega) (by omega)) rfl (by omega) (Nat.le_of_ble_eq_true rfl) (Nat.zero_le _) (Nat.zero_le _) rfl (fun r48 hp47 n49 hq50 => ?_)
              obtain ⟨hnn49, bb_53, k1_54, f1_55, t1_56, w1_57, c1_58, ht52, hrr48, hhq500, hhq501, hhq502, hhq503⟩ := hq50
              subst n49 r48
              have hhq500 : (bb_53 = 1 ∧ ka40 < 60 ∧ k1_54 = ka40 + 1) ∨ (bb_53 = 0 ∧ 60 ≤ ka40 ∧ k1_54 = ka40) := hhq500
              have hhq501 : ka40 < 60 → f1_55 = fup kf40 (Int.toNat ka40) v19_2 ∧ t1_56 = fup kt40 (Int.toNat ka40) v40_3 ∧ w1_57 = fup kw40 (Int.toNat ka40) (clW rr_43) ∧ c1_58 = fup kc40 (Int.toNat ka40) 0 := hhq501
              have hhq502 : 60 ≤ ka40 → f1_55 = kf40 ∧ t1_56 = kt40 ∧ w1_57 = kw40 ∧ c1_58 = kc40 := hhq502
              have hhq503 : 0 ≤ k1_54 ∧ k1_54 ≤ 60 := hhq503
              change Rn _ _ _ 76 _ [.int (iv bb_53)] _ _ _ _ _
              have hapq59 : arP f1_55 t1_56 w1_57 c1_58 k1_54 (gn : Int) := ar_add (by assumption) (by omega) (by omega) (by omega) (by omega) (by omega) hhq500 hhq501 hhq502
              have hc0 := hhq500
              have hc1 := hhq501
              have hrow : (sqR gm gdr F T W) (Int.toNat v19_2) (Int.toNat v40_3) = [(v19_2, v40_3, clW rr_43, 0)] := by
                unfold sqR
                rw [if_neg (by omega), Int.toNat_of_nonneg (show (0 : Int) ≤ v19_2 by omega), Int.toNat_of_nonneg (show (0 : Int) ≤ v40_3 by omega), sqE_y (hsq.1 (by omega))]
              refine t_if_ne (pc := 76) (tgt := 81) dX1_drawSquared_76 (by decide) (by omega) (fun c76 => ?_) (fun c76 => ?_)
              · refine r_iinc (pc := 81) (v := iv (v40_3 + 1)) (lv' := [(3, .int (iv (v40_3 + 1))), (4, .int (iv rr_43)), (0, .ref s), (2, .int (iv v19_2))]) dX1_drawSquared_81 rfl (iv_add _ _) (by decide) rfl ?_
                refine r_goto (pc := 84) (tgt := 40) dX1_drawSquared_84 (by decide) ?_
                refine Rn.pick (lv' := [(0, .ref s), (2, .int (iv v19_2)), (3, .int (iv (v40_3 + 1)))]) [2, 3, 0] rfl ?_
                exact ih40 (Int.toNat (16 - (v40_3 + 1))) (by omega) k1_54 f1_55 t1_56 w1_57 c1_58 _ ht52 (v40_3 + 1) ⟨by omega, by omega, by omega, by omega, by omega, by omega, by assumption, by (first | (rw [show acc ((sqR gm gdr F T W) (Int.toNat v19_2)) (Int.toNat 0) = [] from rfl, List.append_nil]; assumption) | (rw [acc_nil (h := (sqR gm gdr F T W) (Int.toNat v19_2)) (fun i hi => by unfold sqR; rw [if_pos (by omega)]), List.append_nil]; assumption) | exact PL_add (by assumption) (by omega) hrow hc0 hc1 (by omega) | exact PL_n (by assumption) (by omega) hrown)⟩ (by omega)
              · refine r_iconst (pc := 79) (v := iv 0) dX1_drawSquared_79 (by decide) ?_
                exact r_zret (pc := 80) dX1_drawSquared_80 rfl (iv_nar (by omega)) ⟨rfl, (gn : Int), gdr, k1_54, f1_55, t1_56, w1_57, c1_58, l1_13, 0, ht52, rfl, (by omega), (by omega), (by omega), (by (first | assumption | exact ar_0 _ _ _ _ _)), (by assumption), (by (exact dr_n (PL_over (g := (sqL gn gm gdr F T W)) (h := (sqR gm gdr F T W) (Int.toNat v19_2)) (a := v19_2) (b := v40_3) (N := gn) (by assumption) (by omega) hrow rfl (by omega) (by omega)))), (by omega), (by omega)⟩
        refine Rn.pick (lv' := [(0, .ref s), (2, .int (iv v19_2)), (3, .int (iv 0))]) [1, 2, 0] rfl ?_
        exact B40 (Int.toNat (16 - 0)) ka19 kf19 kt19 kw19 kc19 _ ht19 0 ⟨by omega, by omega, by omega, by omega, by omega, by omega, by assumption, by (first | (rw [show acc ((sqR gm gdr F T W) (Int.toNat v19_2)) (Int.toNat 0) = [] from rfl, List.append_nil]; assumption) | (rw [acc_nil (h := (sqR gm gdr F T W) (Int.toNat v19_2)) (fun i hi => by unfold sqR; rw [if_pos (by omega)]), List.append_nil]; assumption) | exact PL_add (by assumption) (by omega) hrow hc0 hc1 (by omega) | exact PL_n (by assumption) (by omega) hrown)⟩ (by omega)
  refine Rn.pick (lv' := [(0, .ref s), (2, .int (iv 0))]) [1, 0] rfl ?_
  exact B19 (Int.toNat (16 - 0)) 0 kf kt kw kc _ ht12 0 ⟨by omega, by omega, by omega, by omega, by omega, by assumption, by (first | (rw [List.nil_append] at hpl0; exact hpl0) | (have h8 : PL (acc (sqL gn gm gdr F T W) (Int.toNat v19_2) ++ acc ((sqR gm gdr F T W) (Int.toNat v19_2)) (Int.toNat v40_3)) _ _ _ _ _ := (by assumption); rw [acc_up (by omega)]; have e9 : (sqL gn gm gdr F T W) (Int.toNat v19_2) = acc ((sqR gm gdr F T W) (Int.toNat v19_2)) (Int.toNat v40_3) := (by show acc _ _ = _; rw [show v40_3 = (gn : Int) by omega, Int.toNat_natCast]); rw [e9]; exact h8))⟩ (by omega)
def qd_X1_drawLines (Γ : TG) (cI cJ cZ cT : ClassId) (s : Nat) (n : Nat) (kn : Int) (kd : Int) (ka : Int) (kf : Nat → Int) (kt : Nat → Int) (kw : Nat → Int) (kc : Nat → Int) (lt : Nat → Int) (ga : Nat) (gF : Nat) (gT : Nat) (gW : Nat) (gC : Nat) (gTl : Nat) (gHd : Nat) (gBy : Nat) (gOu : Nat) (gIn : Nat) (gJo : Nat) (gn : Nat) (gm : Nat) (gq : Nat) (gdr : Int) (F T W C Tl Hd By Ou In Jo : Nat → Int) : Option Value → MH → Nat → Prop := fun r hp1 n1 => n1 = n ∧ ∃ (n1 : Int) (d1 : Int) (k1 : Int) (f1 : Nat → Int) (t1 : Nat → Int) (w1 : Nat → Int) (c1 : Nat → Int) (l1 : Nat → Int) (bb : Int), Tw (DX Γ cI cJ cZ cT s n1 d1 k1 f1 t1 w1 c1 l1) hp1 ∧ r = some (.int (iv bb)) ∧ (1 ≤ n1 ∧ n1 ≤ 16) ∧ (0 ≤ d1 ∧ d1 ≤ 1) ∧ (0 ≤ k1 ∧ k1 ≤ 60) ∧ (arP f1 t1 w1 c1 k1 n1) ∧ (Rfx 256 (-1000) 5000 l1) ∧ (drwP (acc (lnL gm gdr F T) gm) bb k1 f1 t1 w1 c1) ∧ (n1 = (gm : Int)) ∧ (d1 = gdr)
