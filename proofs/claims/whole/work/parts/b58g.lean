set_option maxHeartbeats 4000000 in
set_option maxRecDepth 100000 in
theorem d_X1_drawLines {D : va_G} {cI cJ cZ cT : ClassId} {lo b L : Nat} {xs : Nat → Int32} {hp : MH} {n d : Nat} {Γ : TG} {s : Nat} {kn : Int} {kd : Int} {ka : Int} {kf : Nat → Int} {kt : Nat → Int} {kw : Nat → Int} {kc : Nat → Int} {lt : Nat → Int} {ga : Nat} {gF : Nat} {gT : Nat} {gW : Nat} {gC : Nat} {gTl : Nat} {gHd : Nat} {gBy : Nat} {gOu : Nat} {gIn : Nat} {gJo : Nat} {gn : Nat} {gm : Nat} {gq : Nat} {gdr : Int} {F T W C Tl Hd By Ou In Jo : Nat → Int} (hd0 : 1 ≤ d) (hg : TyG Γ cI cJ cZ ga gF gT gW gC gTl gHd gBy gOu gIn gJo gn gm gq gdr) (hltg : s + 6 ≤ ga ∧ s + 6 ≤ gF ∧ s + 6 ≤ gT ∧ s + 6 ≤ gW ∧ s + 6 ≤ gC ∧ s + 6 ≤ gTl ∧ s + 6 ≤ gHd ∧ s + 6 ≤ gBy ∧ s + 6 ≤ gOu ∧ s + 6 ≤ gIn ∧ s + 6 ≤ gJo) (hn_kn : 1 ≤ kn ∧ kn ≤ 16) (hn_kd : 0 ≤ kd ∧ kd ≤ 1) (hn_ka : 0 ≤ ka ∧ ka ≤ 60) (ht : Tw (DX Γ cI cJ cZ cT s kn kd ka kf kt kw kc lt) hp)  (hlt9 : Rfx 256 (-1000) 5000 lt) (hxg : XG Γ cI gF gT gW gC gTl gHd gBy gOu gIn gJo gn gm gq F T W C Tl Hd By Ou In Jo) (hm9 : 1 ≤ (gm : Int) ∧ (gm : Int) ≤ 16) : Mt (gG D cI cJ cZ cT lo b L xs) mX1_drawLines d 0 0 [.ref s, .ref ga] hp n (qd_X1_drawLines Γ cI cJ cZ cT s n kn kd ka kf kt kw kc lt ga gF gT gW gC gTl gHd gBy gOu gIn gJo gn gm gq gdr F T W C Tl Hd By Ou In Jo) := by
  refine Mt.of rfl (Nat.le_of_ble_eq_true rfl) ?_
  refine Rn.pick (lv' := [(0, .ref s), (1, .ref ga)]) [0, 1] rfl ?_
  obtain ⟨hg_O, hg_from, hg_to, hg_weight, hg_cost, hg_tail, hg_head, hg_by, hg_out, hg_in, hg_joined, hg_b⟩ := id hg
  obtain ⟨⟨hxg_F, hxg_T, hxg_W, hxg_C, hxg_Tl, hxg_Hd, hxg_By, hxg_Ou, hxg_In, hxg_Jo⟩, ⟨hrg_F, hrg_T, hrg_W, hrg_C, hrg_Tl, hrg_Hd, hrg_By, hrg_Ou, hrg_In, hrg_Jo⟩, houg⟩ := id hxg
  refine r_aload_n (pc := 0) dX1_drawLines_0 (i := 0) rfl rfl ?_
  refine r_aload_n (pc := 1) dX1_drawLines_1 (i := 1) rfl rfl ?_
  refine t_getE (pc := 2) (.int (iv (gm : Int))) ht (rd_DX (by omega) hg_O) fX1_44 dX1_drawLines_2 rfl ?_
  refine r_aload_n (pc := 5) dX1_drawLines_5 (i := 1) rfl rfl ?_
  refine t_getE (pc := 6) (.int (iv gdr)) ht (rd_DX (by omega) hg_O) fX1_61 dX1_drawLines_6 rfl ?_
  obtain ⟨fs5, hfs5⟩ := t_obj ht (rd_of DX_0)
  refine r_callV (pc := 9) (as := [.int (iv (gm : Int)), .int (iv gdr)]) (st := []) kX1_62 rfl dX1_drawLines_9 hfs5 (d_X1_restart (d := d - 1) (x1 := (gm : Int)) (x2 := gdr) (by omega)  ht (by omega) (by omega)) rfl (by omega) (Nat.le_of_ble_eq_true rfl) (Nat.zero_le _) (Nat.zero_le _) rfl (fun r2 hp1 n3 hq4 => ?_)
  obtain ⟨hnn3, ht6, hrr2⟩ := hq4
  subst n3 r2
  change Rn _ _ _ 12 _ [] _ _ _ _ _
  have ha0 : arP kf kt kw kc 0 (gm : Int) := ar_0 _ _ _ _ _
  have hpl0 : PL ([] ++ acc (lnL gm gdr F T) (Int.toNat 0)) 0 kf kt kw kc := PL_0 _ _ _ _
  refine r_iconst (pc := 12) (v := iv 0) dX1_drawLines_12 (by decide) ?_
  refine r_istore_n (pc := 13) (lv' := [(2, .int (iv 0)), (0, .ref s), (1, .ref ga)]) dX1_drawLines_13 (i := 2) rfl (by decide) rfl ?_
  have B14 : ∀ k : Nat, ∀ ka14 : Int, ∀ kf14 : Nat → Int, ∀ kt14 : Nat → Int, ∀ kw14 : Nat → Int, ∀ kc14 : Nat → Int, ∀ hp14 : MH, Tw (DX Γ cI cJ cZ cT s (gm : Int) gdr ka14 kf14 kt14 kw14 kc14 lt) hp14 → ∀  (v14_2 : Int), 0 ≤ v14_2 ∧ v14_2 ≤ 60 ∧ (0 ≤ ka14) ∧ (ka14 ≤ 60) ∧ (v14_2 ≤ (gm : Int)) ∧ (arP kf14 kt14 kw14 kc14 ka14 (gm : Int)) ∧ (PL (acc (lnL gm gdr F T) (Int.toNat v14_2)) ka14 kf14 kt14 kw14 kc14) → 60 - v14_2 ≤ (k : Int) → Rn (gG D cI cJ cZ cT lo b L xs) mX1_drawLines d 14 [(0, .ref s), (1, .ref ga), (2, .int (iv v14_2))] [] hp14 n 0 0 (qd_X1_drawLines Γ cI cJ cZ cT s n kn kd ka kf kt kw kc lt ga gF gT gW gC gTl gHd gBy gOu gIn gJo gn gm gq gdr F T W C Tl Hd By Ou In Jo) := by
    refine lpS _ ?_
    intro k14 ih14 ka14 kf14 kt14 kw14 kc14 hp14 ht14 v14_2 hf14 hm14
    obtain ⟨hf14_0, hf14_1, hf14_2, hf14_3, hf14_4, ha14_5, ha14_6⟩ := hf14
    refine r_iload_n (pc := 14) dX1_drawLines_14 (i := 2) rfl rfl ?_
    refine r_aload_n (pc := 15) dX1_drawLines_15 (i := 1) rfl rfl ?_
    refine t_getE (pc := 16) (.int (iv (gm : Int))) ht14 (rd_DX (by omega) hg_O) fX1_44 dX1_drawLines_16 rfl ?_
    refine t_icmp_ge (pc := 19) (tgt := 113) dX1_drawLines_19 (by decide) (by omega) (by omega) (fun c19 => ?_) (fun c19 => ?_)
    · refine r_iconst (pc := 113) (v := iv 1) dX1_drawLines_113 (by decide) ?_
      exact r_zret (pc := 114) dX1_drawLines_114 rfl (iv_nar (by omega)) ⟨rfl, (gm : Int), gdr, ka14, kf14, kt14, kw14, kc14, lt, 1, ht14, rfl, (by omega), (by omega), (by omega), (by (first | assumption | exact ar_0 _ _ _ _ _)), (by assumption), (by (have h8 : PL (acc (lnL gm gdr F T) (Int.toNat v14_2)) _ _ _ _ _ := (by assumption); rw [show v14_2 = (gm : Int) by omega, Int.toNat_natCast] at h8; exact dr_y h8 (by omega))), (by omega), (by omega)⟩
    · refine r_aload_n (pc := 22) dX1_drawLines_22 (i := 0) rfl rfl ?_
      refine t_getE (pc := 23) (.int (iv gdr)) ht14 (rd_of DX_0) fX1_15 dX1_drawLines_23 rfl ?_
      refine t_if_eq (pc := 26) (tgt := 33) dX1_drawLines_26 (by decide) (by omega) (fun c26 => ?_) (fun c26 => ?_)
      · refine r_iload_n (pc := 33) dX1_drawLines_33 (i := 2) rfl rfl ?_
        refine r_iconst (pc := 34) (v := iv 1) dX1_drawLines_34 (by decide) ?_
        refine r_iadd (pc := 35) (v := iv (v14_2 + 1)) dX1_drawLines_35 (iv_add _ _) ?_
        refine r_istore_n (pc := 36) (lv' := [(3, .int (iv (v14_2 + 1))), (0, .ref s), (1, .ref ga), (2, .int (iv v14_2))]) dX1_drawLines_36 (i := 3) rfl (by decide) rfl ?_
        have B37 : ∀ k : Nat, ∀ ka37 : Int, ∀ kf37 : Nat → Int, ∀ kt37 : Nat → Int, ∀ kw37 : Nat → Int, ∀ kc37 : Nat → Int, ∀ hp37 : MH, Tw (DX Γ cI cJ cZ cT s (gm : Int) gdr ka37 kf37 kt37 kw37 kc37 lt) hp37 → ∀  (v37_3 : Int), 0 ≤ v37_3 ∧ v37_3 ≤ 60 ∧ v14_2 + 1 ≤ v37_3 ∧ (0 ≤ ka37) ∧ (ka37 ≤ 60) ∧ (v37_3 ≤ (gm : Int)) ∧ (gdr = 0 → v14_2 < v37_3) ∧ (arP kf37 kt37 kw37 kc37 ka37 (gm : Int)) ∧ (PL (acc (lnL gm gdr F T) (Int.toNat v14_2) ++ acc ((lnR gdr F T) (Int.toNat v14_2)) (Int.toNat v37_3)) ka37 kf37 kt37 kw37 kc37) → 60 - v37_3 ≤ (k : Int) → Rn (gG D cI cJ cZ cT lo b L xs) mX1_drawLines d 37 [(0, .ref s), (1, .ref ga), (2, .int (iv v14_2)), (3, .int (iv v37_3))] [] hp37 n 0 0 (qd_X1_drawLines Γ cI cJ cZ cT s n kn kd ka kf kt kw kc lt ga gF gT gW gC gTl gHd gBy gOu gIn gJo gn gm gq gdr F T W C Tl Hd By Ou In Jo) := by
          refine lpS _ ?_
          intro k37 ih37 ka37 kf37 kt37 kw37 kc37 hp37 ht37 v37_3 hf37 hm37
          obtain ⟨hf37_0, hf37_1, hf37_2, hf37_3, hf37_4, hf37_5, hf37_6, ha37_7, ha37_8⟩ := hf37
          refine r_iload_n (pc := 37) dX1_drawLines_37 (i := 3) rfl rfl ?_
          refine r_aload_n (pc := 38) dX1_drawLines_38 (i := 1) rfl rfl ?_
          refine t_getE (pc := 39) (.int (iv (gm : Int))) ht37 (rd_DX (by omega) hg_O) fX1_44 dX1_drawLines_39 rfl ?_
          refine t_icmp_ge (pc := 42) (tgt := 107) dX1_drawLines_42 (by decide) (by omega) (by omega) (fun c42 => ?_) (fun c42 => ?_)
          · refine r_iinc (pc := 107) (v := iv (v14_2 + 1)) (lv' := [(2, .int (iv (v14_2 + 1))), (0, .ref s), (1, .ref ga), (3, .int (iv v37_3))]) dX1_drawLines_107 rfl (iv_add _ _) (by decide) rfl ?_
            refine r_goto (pc := 110) (tgt := 14) dX1_drawLines_110 (by decide) ?_
            refine Rn.pick (lv' := [(0, .ref s), (1, .ref ga), (2, .int (iv (v14_2 + 1)))]) [1, 2, 0] rfl ?_
            exact ih14 (Int.toNat (60 - (v14_2 + 1))) (by omega) ka37 kf37 kt37 kw37 kc37 _ ht37 (v14_2 + 1) ⟨by omega, by omega, by omega, by omega, by omega, by assumption, by (first | (rw [List.nil_append] at hpl0; exact hpl0) | (have h8 : PL (acc (lnL gm gdr F T) (Int.toNat v14_2) ++ acc ((lnR gdr F T) (Int.toNat v14_2)) (Int.toNat v37_3)) _ _ _ _ _ := (by assumption); rw [acc_up (by omega)]; have e9 : (lnL gm gdr F T) (Int.toNat v14_2) = acc ((lnR gdr F T) (Int.toNat v14_2)) (Int.toNat v37_3) := (by show acc _ _ = _; rw [show v37_3 = (gm : Int) by omega, Int.toNat_natCast]); rw [e9]; exact h8))⟩ (by omega)
          · refine r_aload_n (pc := 45) dX1_drawLines_45 (i := 0) rfl rfl ?_
            refine t_getE (pc := 46) (.int (iv gdr)) ht37 (rd_of DX_0) fX1_15 dX1_drawLines_46 rfl ?_
            refine t_if_eq (pc := 49) (tgt := 75) dX1_drawLines_49 (by decide) (by omega) (fun c49 => ?_) (fun c49 => ?_)
            · refine r_aload_n (pc := 75) dX1_drawLines_75 (i := 1) rfl rfl ?_
              refine r_iload_n (pc := 76) dX1_drawLines_76 (i := 2) rfl rfl ?_
              refine r_iload_n (pc := 77) dX1_drawLines_77 (i := 3) rfl rfl ?_
              refine t_callVI (pc := 78) (as := [.int (iv v14_2), .int (iv v37_3)]) (st := []) ht37 (rd_DX (by omega) hg_O) kX1_131 rfl dX1_drawLines_78 (c_X3_shareNodex (d := d - 1) (x1 := v14_2) (x2 := v37_3) (by omega) (TyG.dx (by omega) hg) (XG.dx (by omega) hxg) ht37 (by omega) (by omega) (by omega)) rfl (by omega) (Nat.le_of_ble_eq_true rfl) rfl (fun hp8 y7 ht9 by7 => ?_)
              have fy7 : ((0 ≤ y7 ∧ y7 ≤ 1) ∧ (y7 = 1 ↔ (F (Int.toNat v14_2) = F (Int.toNat v37_3) ∨ F (Int.toNat v14_2) = T (Int.toNat v37_3) ∨ T (Int.toNat v14_2) = F (Int.toNat v37_3) ∨ T (Int.toNat v14_2) = T (Int.toNat v37_3)))) := by7
              have hs01 := fy7.1
              have fsh := hid_i fy7.2
              clear fy7 by7
              refine r_istore (pc := 81) (lv' := [(4, .int (iv y7)), (0, .ref s), (1, .ref ga), (2, .int (iv v14_2)), (3, .int (iv v37_3))]) dX1_drawLines_81 (by decide) rfl ?_
              refine r_iload (pc := 83) dX1_drawLines_83 rfl ?_
              refine t_if_eq (pc := 85) (tgt := 101) dX1_drawLines_85 (by decide) (by omega) (fun c85 => ?_) (fun c85 => ?_)
              · have hrown : (lnR gdr F T) (Int.toNat v14_2) (Int.toNat v37_3) = [] := sel_n (by first | exact mt_n0 (by omega) (fun h9 => absurd ((hid_o fsh).mpr h9) (by omega)) | exact mt_n1 (by omega) (by omega))
                refine r_iinc (pc := 101) (v := iv (v37_3 + 1)) (lv' := [(3, .int (iv (v37_3 + 1))), (4, .int (iv y7)), (0, .ref s), (1, .ref ga), (2, .int (iv v14_2))]) dX1_drawLines_101 rfl (iv_add _ _) (by decide) rfl ?_
                refine r_goto (pc := 104) (tgt := 37) dX1_drawLines_104 (by decide) ?_
                refine Rn.pick (lv' := [(0, .ref s), (1, .ref ga), (2, .int (iv v14_2)), (3, .int (iv (v37_3 + 1)))]) [2, 3, 4, 0] rfl ?_
                exact ih37 (Int.toNat (60 - (v37_3 + 1))) (by omega) ka37 kf37 kt37 kw37 kc37 _ ht9 (v37_3 + 1) ⟨by omega, by omega, by omega, by omega, by omega, by omega, by omega, by assumption, by (first | (rw [show acc ((lnR gdr F T) (Int.toNat v14_2)) (Int.toNat 0) = [] from rfl, List.append_nil]; assumption) | (rw [acc_nil (h := (lnR gdr F T) (Int.toNat v14_2)) (fun i hi => sel_n (by unfold mtP; omega)), List.append_nil]; assumption) | exact PL_add (by assumption) (by omega) hrow hc0 hc1 (by omega) | exact PL_n (by assumption) (by omega) hrown)⟩ (by omega)
              · refine r_aload_n (pc := 88) dX1_drawLines_88 (i := 0) rfl rfl ?_
                refine r_iload_n (pc := 89) dX1_drawLines_89 (i := 2) rfl rfl ?_
                refine r_iload_n (pc := 90) dX1_drawLines_90 (i := 3) rfl rfl ?_
                refine r_iconst (pc := 91) (v := iv 0) dX1_drawLines_91 (by decide) ?_
                refine r_iconst (pc := 92) (v := iv 0) dX1_drawLines_92 (by decide) ?_
                obtain ⟨fs14, hfs14⟩ := t_obj ht9 (rd_of DX_0)
                refine r_callV (pc := 93) (as := [.int (iv v14_2), .int (iv v37_3), .int (iv 0), .int (iv 0)]) (st := []) kX1_74 rfl dX1_drawLines_93 hfs14 (d_X1_add (d := d - 1) (x1 := v14_2) (x2 := v37_3) (x3 := 0) (x4 := 0) (by omega)  (by omega) ht9 (by omega) (by omega) (by omega) (by omega)) rfl (by omega) (Nat.le_of_ble_eq_true rfl) (Nat.zero_le _) (Nat.zero_le _) rfl (fun r11 hp10 n12 hq13 => ?_)
                obtain ⟨hnn12, bb_16, k1_17, f1_18, t1_19, w1_20, c1_21, ht15, hrr11, hhq130, hhq131, hhq132, hhq133⟩ := hq13
                subst n12 r11
                have hhq130 : (bb_16 = 1 ∧ ka37 < 60 ∧ k1_17 = ka37 + 1) ∨ (bb_16 = 0 ∧ 60 ≤ ka37 ∧ k1_17 = ka37) := hhq130
                have hhq131 : ka37 < 60 → f1_18 = fup kf37 (Int.toNat ka37) v14_2 ∧ t1_19 = fup kt37 (Int.toNat ka37) v37_3 ∧ w1_20 = fup kw37 (Int.toNat ka37) 0 ∧ c1_21 = fup kc37 (Int.toNat ka37) 0 := hhq131
                have hhq132 : 60 ≤ ka37 → f1_18 = kf37 ∧ t1_19 = kt37 ∧ w1_20 = kw37 ∧ c1_21 = kc37 := hhq132
                have hhq133 : 0 ≤ k1_17 ∧ k1_17 ≤ 60 := hhq133
                change Rn _ _ _ 96 _ [.int (iv bb_16)] _ _ _ _ _
                have hapq22 : arP f1_18 t1_19 w1_20 c1_21 k1_17 (gm : Int) := ar_add (by assumption) (by omega) (by omega) (by omega) (by omega) (by omega) hhq130 hhq131 hhq132
                have hc0 := hhq130
                have hc1 := hhq131
                have hrow : (lnR gdr F T) (Int.toNat v14_2) (Int.toNat v37_3) = [(v14_2, v37_3, 0, 0)] := by
                  show sel _ _ = _
                  rw [sel_y (by first | exact mt_y0 (by omega) (by omega) ((hid_o fsh).mp (by omega)) | exact mt_y1 (by omega) (by omega)), Int.toNat_of_nonneg (show (0 : Int) ≤ v14_2 by omega), Int.toNat_of_nonneg (show (0 : Int) ≤ v37_3 by omega)]
                refine t_if_ne (pc := 96) (tgt := 101) dX1_drawLines_96 (by decide) (by omega) (fun c96 => ?_) (fun c96 => ?_)
                · refine r_iinc (pc := 101) (v := iv (v37_3 + 1)) (lv' := [(3, .int (iv (v37_3 + 1))), (4, .int (iv y7)), (0, .ref s), (1, .ref ga), (2, .int (iv v14_2))]) dX1_drawLines_101 rfl (iv_add _ _) (by decide) rfl ?_
                  refine r_goto (pc := 104) (tgt := 37) dX1_drawLines_104 (by decide) ?_
                  refine Rn.pick (lv' := [(0, .ref s), (1, .ref ga), (2, .int (iv v14_2)), (3, .int (iv (v37_3 + 1)))]) [2, 3, 4, 0] rfl ?_
                  exact ih37 (Int.toNat (60 - (v37_3 + 1))) (by omega) k1_17 f1_18 t1_19 w1_20 c1_21 _ ht15 (v37_3 + 1) ⟨by omega, by omega, by omega, by omega, by omega, by omega, by omega, by assumption, by (first | (rw [show acc ((lnR gdr F T) (Int.toNat v14_2)) (Int.toNat 0) = [] from rfl, List.append_nil]; assumption) | (rw [acc_nil (h := (lnR gdr F T) (Int.toNat v14_2)) (fun i hi => sel_n (by unfold mtP; omega)), List.append_nil]; assumption) | exact PL_add (by assumption) (by omega) hrow hc0 hc1 (by omega) | exact PL_n (by assumption) (by omega) hrown)⟩ (by omega)
                · refine r_iconst (pc := 99) (v := iv 0) dX1_drawLines_99 (by decide) ?_
                  exact r_zret (pc := 100) dX1_drawLines_100 rfl (iv_nar (by omega)) ⟨rfl, (gm : Int), gdr, k1_17, f1_18, t1_19, w1_20, c1_21, lt, 0, ht15, rfl, (by omega), (by omega), (by omega), (by (first | assumption | exact ar_0 _ _ _ _ _)), (by assumption), (by (exact dr_n (PL_over (g := (lnL gm gdr F T)) (h := (lnR gdr F T) (Int.toNat v14_2)) (a := v14_2) (b := v37_3) (N := gm) (by assumption) (by omega) hrow rfl (by omega) (by omega)))), (by omega), (by omega)⟩
            · refine r_aload_n (pc := 52) dX1_drawLines_52 (i := 1) rfl rfl ?_
              refine t_getE (pc := 53) (.ref gT) ht37 (rd_DX (by omega) hg_O) fX1_70 dX1_drawLines_53 rfl ?_
              refine r_iload_n (pc := 56) dX1_drawLines_56 (i := 2) rfl rfl ?_
              refine t_ialdX (pc := 57) (t0 := 0) ht37 (rd_DX (by omega) hxg_T) dX1_drawLines_57 rfl (by omega) (by omega) (fun b23 => ?_)
              have rb23 := (show Rfx gm 0 ((gn : Int) - 1) T by assumption) (Int.toNat v14_2) (by omega)
              refine r_aload_n (pc := 58) dX1_drawLines_58 (i := 1) rfl rfl ?_
              refine t_getE (pc := 59) (.ref gF) ht37 (rd_DX (by omega) hg_O) fX1_71 dX1_drawLines_59 rfl ?_
              refine r_iload_n (pc := 62) dX1_drawLines_62 (i := 3) rfl rfl ?_
              refine t_ialdX (pc := 63) (t0 := 0) ht37 (rd_DX (by omega) hxg_F) dX1_drawLines_63 rfl (by omega) (by omega) (fun b24 => ?_)
              have rb24 := (show Rfx gm 0 ((gn : Int) - 1) F by assumption) (Int.toNat v37_3) (by omega)
              refine t_icmp_ne (pc := 64) (tgt := 71) dX1_drawLines_64 (by decide) (by omega) (by omega) (fun c64 => ?_) (fun c64 => ?_)
              · refine r_iconst (pc := 71) (v := iv 0) dX1_drawLines_71 (by decide) ?_
                refine r_goto (pc := 72) (tgt := 81) dX1_drawLines_72 (by decide) ?_
                refine r_istore (pc := 81) (lv' := [(4, .int (iv 0)), (0, .ref s), (1, .ref ga), (2, .int (iv v14_2)), (3, .int (iv v37_3))]) dX1_drawLines_81 (by decide) rfl ?_
                refine r_iload (pc := 83) dX1_drawLines_83 rfl ?_
                refine t_if_eq (pc := 85) (tgt := 101) dX1_drawLines_85 (by decide) (by omega) (fun c85 => ?_) (fun c85 => ?_)
                · have hrown : (lnR gdr F T) (Int.toNat v14_2) (Int.toNat v37_3) = [] := sel_n (by first | exact mt_n0 (by omega) (fun h9 => absurd ((hid_o fsh).mpr h9) (by omega)) | exact mt_n1 (by omega) (by omega))
                  refine r_iinc (pc := 101) (v := iv (v37_3 + 1)) (lv' := [(3, .int (iv (v37_3 + 1))), (4, .int (iv 0)), (0, .ref s), (1, .ref ga), (2, .int (iv v14_2))]) dX1_drawLines_101 rfl (iv_add _ _) (by decide) rfl ?_
                  refine r_goto (pc := 104) (tgt := 37) dX1_drawLines_104 (by decide) ?_
                  refine Rn.pick (lv' := [(0, .ref s), (1, .ref ga), (2, .int (iv v14_2)), (3, .int (iv (v37_3 + 1)))]) [2, 3, 4, 0] rfl ?_
                  exact ih37 (Int.toNat (60 - (v37_3 + 1))) (by omega) ka37 kf37 kt37 kw37 kc37 _ ht37 (v37_3 + 1) ⟨by omega, by omega, by omega, by omega, by omega, by omega, by omega, by assumption, by (first | (rw [show acc ((lnR gdr F T) (Int.toNat v14_2)) (Int.toNat 0) = [] from rfl, List.append_nil]; assumption) | (rw [acc_nil (h := (lnR gdr F T) (Int.toNat v14_2)) (fun i hi => sel_n (by unfold mtP; omega)), List.append_nil]; assumption) | exact PL_add (by assumption) (by omega) hrow hc0 hc1 (by omega) | exact PL_n (by assumption) (by omega) hrown)⟩ (by omega)
                · exfalso
                  omega
              · refine r_iconst (pc := 67) (v := iv 1) dX1_drawLines_67 (by decide) ?_
                refine r_goto (pc := 68) (tgt := 81) dX1_drawLines_68 (by decide) ?_
                refine r_istore (pc := 81) (lv' := [(4, .int (iv 1)), (0, .ref s), (1, .ref ga), (2, .int (iv v14_2)), (3, .int (iv v37_3))]) dX1_drawLines_81 (by decide) rfl ?_
                refine r_iload (pc := 83) dX1_drawLines_83 rfl ?_
                refine t_if_eq (pc := 85) (tgt := 101) dX1_drawLines_85 (by decide) (by omega) (fun c85 => ?_) (fun c85 => ?_)
                · exfalso
                  omega
                · refine r_aload_n (pc := 88) dX1_drawLines_88 (i := 0) rfl rfl ?_
                  refine r_iload_n (pc := 89) dX1_drawLines_89 (i := 2) rfl rfl ?_
                  refine r_iload_n (pc := 90) dX1_drawLines_90 (i := 3) rfl rfl ?_
                  refine r_iconst (pc := 91) (v := iv 0) dX1_drawLines_91 (by decide) ?_
                  refine r_iconst (pc := 92) (v := iv 0) dX1_drawLines_92 (by decide) ?_
                  obtain ⟨fs29, hfs29⟩ := t_obj ht37 (rd_of DX_0)
                  refine r_callV (pc := 93) (as := [.int (iv v14_2), .int (iv v37_3), .int (iv 0), .int (iv 0)]) (st := []) kX1_74 rfl dX1_drawLines_93 hfs29 (d_X1_add (d := d - 1) (x1 := v14_2) (x2 := v37_3) (x3 := 0) (x4 := 0) (by omega)  (by omega) ht37 (by omega) (by omega) (by omega) (by omega)) rfl (by omega) (Nat.le_of_ble_eq_true rfl) (Nat.zero_le _) (Nat.zero_le _) rfl (fun r26 hp25 n27 hq28 => ?_)
                  obtain ⟨hnn27, bb_31, k1_32, f1_33, t1_34, w1_35, c1_36, ht30, hrr26, hhq280, hhq281, hhq282, hhq283⟩ := hq28
                  subst n27 r26
                  have hhq280 : (bb_31 = 1 ∧ ka37 < 60 ∧ k1_32 = ka37 + 1) ∨ (bb_31 = 0 ∧ 60 ≤ ka37 ∧ k1_32 = ka37) := hhq280
                  have hhq281 : ka37 < 60 → f1_33 = fup kf37 (Int.toNat ka37) v14_2 ∧ t1_34 = fup kt37 (Int.toNat ka37) v37_3 ∧ w1_35 = fup kw37 (Int.toNat ka37) 0 ∧ c1_36 = fup kc37 (Int.toNat ka37) 0 := hhq281
                  have hhq282 : 60 ≤ ka37 → f1_33 = kf37 ∧ t1_34 = kt37 ∧ w1_35 = kw37 ∧ c1_36 = kc37 := hhq282
                  have hhq283 : 0 ≤ k1_32 ∧ k1_32 ≤ 60 := hhq283
                  change Rn _ _ _ 96 _ [.int (iv bb_31)] _ _ _ _ _
                  have hapq37 : arP f1_33 t1_34 w1_35 c1_36 k1_32 (gm : Int) := ar_add (by assumption) (by omega) (by omega) (by omega) (by omega) (by omega) hhq280 hhq281 hhq282
                  have hc0 := hhq280
                  have hc1 := hhq281
                  have hrow : (lnR gdr F T) (Int.toNat v14_2) (Int.toNat v37_3) = [(v14_2, v37_3, 0, 0)] := by
                    show sel _ _ = _
                    rw [sel_y (by first | exact mt_y0 (by omega) (by omega) ((hid_o fsh).mp (by omega)) | exact mt_y1 (by omega) (by omega)), Int.toNat_of_nonneg (show (0 : Int) ≤ v14_2 by omega), Int.toNat_of_nonneg (show (0 : Int) ≤ v37_3 by omega)]
                  refine t_if_ne (pc := 96) (tgt := 101) dX1_drawLines_96 (by decide) (by omega) (fun c96 => ?_) (fun c96 => ?_)
                  · refine r_iinc (pc := 101) (v := iv (v37_3 + 1)) (lv' := [(3, .int (iv (v37_3 + 1))), (4, .int (iv 1)), (0, .ref s), (1, .ref ga), (2, .int (iv v14_2))]) dX1_drawLines_101 rfl (iv_add _ _) (by decide) rfl ?_
                    refine r_goto (pc := 104) (tgt := 37) dX1_drawLines_104 (by decide) ?_
                    refine Rn.pick (lv' := [(0, .ref s), (1, .ref ga), (2, .int (iv v14_2)), (3, .int (iv (v37_3 + 1)))]) [2, 3, 4, 0] rfl ?_
                    exact ih37 (Int.toNat (60 - (v37_3 + 1))) (by omega) k1_32 f1_33 t1_34 w1_35 c1_36 _ ht30 (v37_3 + 1) ⟨by omega, by omega, by omega, by omega, by omega, by omega, by omega, by assumption, by (first | (rw [show acc ((lnR gdr F T) (Int.toNat v14_2)) (Int.toNat 0) = [] from rfl, List.append_nil]; assumption) | (rw [acc_nil (h := (lnR gdr F T) (Int.toNat v14_2)) (fun i hi => sel_n (by unfold mtP; omega)), List.append_nil]; assumption) | exact PL_add (by assumption) (by omega) hrow hc0 hc1 (by omega) | exact PL_n (by assumption) (by omega) hrown)⟩ (by omega)
                  · refine r_iconst (pc := 99) (v := iv 0) dX1_drawLines_99 (by decide) ?_
                    exact r_zret (pc := 100) dX1_drawLines_100 rfl (iv_nar (by omega)) ⟨rfl, (gm : Int), gdr, k1_32, f1_33, t1_34, w1_35, c1_36, lt, 0, ht30, rfl, (by omega), (by omega), (by omega), (by (first | assumption | exact ar_0 _ _ _ _ _)), (by assumption), (by (exact dr_n (PL_over (g := (lnL gm gdr F T)) (h := (lnR gdr F T) (Int.toNat v14_2)) (a := v14_2) (b := v37_3) (N := gm) (by assumption) (by omega) hrow rfl (by omega) (by omega)))), (by omega), (by omega)⟩
        refine Rn.pick (lv' := [(0, .ref s), (1, .ref ga), (2, .int (iv v14_2)), (3, .int (iv (v14_2 + 1)))]) [1, 2, 3, 0] rfl ?_
        exact B37 (Int.toNat (60 - (v14_2 + 1))) ka14 kf14 kt14 kw14 kc14 _ ht14 (v14_2 + 1) ⟨by omega, by omega, by omega, by omega, by omega, by omega, by omega, by assumption, by (first | (rw [show acc ((lnR gdr F T) (Int.toNat v14_2)) (Int.toNat 0) = [] from rfl, List.append_nil]; assumption) | (rw [acc_nil (h := (lnR gdr F T) (Int.toNat v14_2)) (fun i hi => sel_n (by unfold mtP; omega)), List.append_nil]; assumption) | exact PL_add (by assumption) (by omega) hrow hc0 hc1 (by omega) | exact PL_n (by assumption) (by omega) hrown)⟩ (by omega)
      · refine r_iconst (pc := 29) (v := iv 0) dX1_drawLines_29 (by decide) ?_
        refine r_goto (pc := 30) (tgt := 36) dX1_drawLines_30 (by decide) ?_
        refine r_istore_n (pc := 36) (lv' := [(3, .int (iv 0)), (0, .ref s), (1, .ref ga), (2, .int (iv v14_2))]) dX1_drawLines_36 (i := 3) rfl (by decide) rfl ?_
        have B37 : ∀ k : Nat, ∀ ka37 : Int, ∀ kf37 : Nat → Int, ∀ kt37 : Nat → Int, ∀ kw37 : Nat → Int, ∀ kc37 : Nat → Int, ∀ hp37 : MH, Tw (DX Γ cI cJ cZ cT s (gm : Int) gdr ka37 kf37 kt37 kw37 kc37 lt) hp37 → ∀  (v37_3 : Int), 0 ≤ v37_3 ∧ v37_3 ≤ 60 ∧ (0 ≤ ka37) ∧ (ka37 ≤ 60) ∧ (v37_3 ≤ (gm : Int)) ∧ (gdr = 0 → v14_2 < v37_3) ∧ (arP kf37 kt37 kw37 kc37 ka37 (gm : Int)) ∧ (PL (acc (lnL gm gdr F T) (Int.toNat v14_2) ++ acc ((lnR gdr F T) (Int.toNat v14_2)) (Int.toNat v37_3)) ka37 kf37 kt37 kw37 kc37) → 60 - v37_3 ≤ (k : Int) → Rn (gG D cI cJ cZ cT lo b L xs) mX1_drawLines d 37 [(0, .ref s), (1, .ref ga), (2, .int (iv v14_2)), (3, .int (iv v37_3))] [] hp37 n 0 0 (qd_X1_drawLines Γ cI cJ cZ cT s n kn kd ka kf kt kw kc lt ga gF gT gW gC gTl gHd gBy gOu gIn gJo gn gm gq gdr F T W C Tl Hd By Ou In Jo) := by
          refine lpS _ ?_
          intro k37 ih37 ka37 kf37 kt37 kw37 kc37 hp37 ht37 v37_3 hf37 hm37
          obtain ⟨hf37_0, hf37_1, hf37_2, hf37_3, hf37_4, hf37_5, ha37_6, ha37_7⟩ := hf37
          refine r_iload_n (pc := 37) dX1_drawLines_37 (i := 3) rfl rfl ?_
          refine r_aload_n (pc := 38) dX1_drawLines_38 (i := 1) rfl rfl ?_
          refine t_getE (pc := 39) (.int (iv (gm : Int))) ht37 (rd_DX (by omega) hg_O) fX1_44 dX1_drawLines_39 rfl ?_
          refine t_icmp_ge (pc := 42) (tgt := 107) dX1_drawLines_42 (by decide) (by omega) (by omega) (fun c42 => ?_) (fun c42 => ?_)
          · refine r_iinc (pc := 107) (v := iv (v14_2 + 1)) (lv' := [(2, .int (iv (v14_2 + 1))), (0, .ref s), (1, .ref ga), (3, .int (iv v37_3))]) dX1_drawLines_107 rfl (iv_add _ _) (by decide) rfl ?_
            refine r_goto (pc := 110) (tgt := 14) dX1_drawLines_110 (by decide) ?_
            refine Rn.pick (lv' := [(0, .ref s), (1, .ref ga), (2, .int (iv (v14_2 + 1)))]) [1, 2, 0] rfl ?_
            exact ih14 (Int.toNat (60 - (v14_2 + 1))) (by omega) ka37 kf37 kt37 kw37 kc37 _ ht37 (v14_2 + 1) ⟨by omega, by omega, by omega, by omega, by omega, by assumption, by (first | (rw [List.nil_append] at hpl0; exact hpl0) | (have h8 : PL (acc (lnL gm gdr F T) (Int.toNat v14_2) ++ acc ((lnR gdr F T) (Int.toNat v14_2)) (Int.toNat v37_3)) _ _ _ _ _ := (by assumption); rw [acc_up (by omega)]; have e9 : (lnL gm gdr F T) (Int.toNat v14_2) = acc ((lnR gdr F T) (Int.toNat v14_2)) (Int.toNat v37_3) := (by show acc _ _ = _; rw [show v37_3 = (gm : Int) by omega, Int.toNat_natCast]); rw [e9]; exact h8))⟩ (by omega)
          · refine r_aload_n (pc := 45) dX1_drawLines_45 (i := 0) rfl rfl ?_
            refine t_getE (pc := 46) (.int (iv gdr)) ht37 (rd_of DX_0) fX1_15 dX1_drawLines_46 rfl ?_
            refine t_if_eq (pc := 49) (tgt := 75) dX1_drawLines_49 (by decide) (by omega) (fun c49 => ?_) (fun c49 => ?_)
            · refine r_aload_n (pc := 75) dX1_drawLines_75 (i := 1) rfl rfl ?_
              refine r_iload_n (pc := 76) dX1_drawLines_76 (i := 2) rfl rfl ?_
              refine r_iload_n (pc := 77) dX1_drawLines_77 (i := 3) rfl rfl ?_
              refine t_callVI (pc := 78) (as := [.int (iv v14_2), .int (iv v37_3)]) (st := []) ht37 (rd_DX (by omega) hg_O) kX1_131 rfl dX1_drawLines_78 (c_X3_shareNodex (d := d - 1) (x1 := v14_2) (x2 := v37_3) (by omega) (TyG.dx (by omega) hg) (XG.dx (by omega) hxg) ht37 (by omega) (by omega) (by omega)) rfl (by omega) (Nat.le_of_ble_eq_true rfl) rfl (fun hp39 y38 ht40 by38 => ?_)
              have fy38 : ((0 ≤ y38 ∧ y38 ≤ 1) ∧ (y38 = 1 ↔ (F (Int.toNat v14_2) = F (Int.toNat v37_3) ∨ F (Int.toNat v14_2) = T (Int.toNat v37_3) ∨ T (Int.toNat v14_2) = F (Int.toNat v37_3) ∨ T (Int.toNat v14_2) = T (Int.toNat v37_3)))) := by38
              have hs01 := fy38.1
              have fsh := hid_i fy38.2
              clear fy38 by38
              refine r_istore (pc := 81) (lv' := [(4, .int (iv y38)), (0, .ref s), (1, .ref ga), (2, .int (iv v14_2)), (3, .int (iv v37_3))]) dX1_drawLines_81 (by decide) rfl ?_
              refine r_iload (pc := 83) dX1_drawLines_83 rfl ?_
              refine t_if_eq (pc := 85) (tgt := 101) dX1_drawLines_85 (by decide) (by omega) (fun c85 => ?_) (fun c85 => ?_)
              · have hrown : (lnR gdr F T) (Int.toNat v14_2) (Int.toNat v37_3) = [] := sel_n (by first | exact mt_n0 (by omega) (fun h9 => absurd ((hid_o fsh).mpr h9) (by omega)) | exact mt_n1 (by omega) (by omega))
                refine r_iinc (pc := 101) (v := iv (v37_3 + 1)) (lv' := [(3, .int (iv (v37_3 + 1))), (4, .int (iv y38)), (0, .ref s), (1, .ref ga), (2, .int (iv v14_2))]) dX1_drawLines_101 rfl (iv_add _ _) (by decide) rfl ?_
                refine r_goto (pc := 104) (tgt := 37) dX1_drawLines_104 (by decide) ?_
                refine Rn.pick (lv' := [(0, .ref s), (1, .ref ga), (2, .int (iv v14_2)), (3, .int (iv (v37_3 + 1)))]) [2, 3, 4, 0] rfl ?_
                exact ih37 (Int.toNat (60 - (v37_3 + 1))) (by omega) ka37 kf37 kt37 kw37 kc37 _ ht40 (v37_3 + 1) ⟨by omega, by omega, by omega, by omega, by omega, by omega, by assumption, by (first | (rw [show acc ((lnR gdr F T) (Int.toNat v14_2)) (Int.toNat 0) = [] from rfl, List.append_nil]; assumption) | (rw [acc_nil (h := (lnR gdr F T) (Int.toNat v14_2)) (fun i hi => sel_n (by unfold mtP; omega)), List.append_nil]; assumption) | exact PL_add (by assumption) (by omega) hrow hc0 hc1 (by omega) | exact PL_n (by assumption) (by omega) hrown)⟩ (by omega)
              · refine r_aload_n (pc := 88) dX1_drawLines_88 (i := 0) rfl rfl ?_
                refine r_iload_n (pc := 89) dX1_drawLines_89 (i := 2) rfl rfl ?_
                refine r_iload_n (pc := 90) dX1_drawLines_90 (i := 3) rfl rfl ?_
                refine r_iconst (pc := 91) (v := iv 0) dX1_drawLines_91 (by decide) ?_
                refine r_iconst (pc := 92) (v := iv 0) dX1_drawLines_92 (by decide) ?_
                obtain ⟨fs45, hfs45⟩ := t_obj ht40 (rd_of DX_0)
                refine r_callV (pc := 93) (as := [.int (iv v14_2), .int (iv v37_3), .int (iv 0), .int (iv 0)]) (st := []) kX1_74 rfl dX1_drawLines_93 hfs45 (d_X1_add (d := d - 1) (x1 := v14_2) (x2 := v37_3) (x3 := 0) (x4 := 0) (by omega)  (by omega) ht40 (by omega) (by omega) (by omega) (by omega)) rfl (by omega) (Nat.le_of_ble_eq_true rfl) (Nat.zero_le _) (Nat.zero_le _) rfl (fun r42 hp41 n43 hq44 => ?_)
                obtain ⟨hnn43, bb_47, k1_48, f1_49, t1_50, w1_51, c1_52, ht46, hrr42, hhq440, hhq441, hhq442, hhq443⟩ := hq44
                subst n43 r42
                have hhq440 : (bb_47 = 1 ∧ ka37 < 60 ∧ k1_48 = ka37 + 1) ∨ (bb_47 = 0 ∧ 60 ≤ ka37 ∧ k1_48 = ka37) := hhq440
                have hhq441 : ka37 < 60 → f1_49 = fup kf37 (Int.toNat ka37) v14_2 ∧ t1_50 = fup kt37 (Int.toNat ka37) v37_3 ∧ w1_51 = fup kw37 (Int.toNat ka37) 0 ∧ c1_52 = fup kc37 (Int.toNat ka37) 0 := hhq441
                have hhq442 : 60 ≤ ka37 → f1_49 = kf37 ∧ t1_50 = kt37 ∧ w1_51 = kw37 ∧ c1_52 = kc37 := hhq442
                have hhq443 : 0 ≤ k1_48 ∧ k1_48 ≤ 60 := hhq443
                change Rn _ _ _ 96 _ [.int (iv bb_47)] _ _ _ _ _
                have hapq53 : arP f1_49 t1_50 w1_51 c1_52 k1_48 (gm : Int) := ar_add (by assumption) (by omega) (by omega) (by omega) (by omega) (by omega) hhq440 hhq441 hhq442
                have hc0 := hhq440
                have hc1 := hhq441
                have hrow : (lnR gdr F T) (Int.toNat v14_2) (Int.toNat v37_3) = [(v14_2, v37_3, 0, 0)] := by
                  show sel _ _ = _
                  rw [sel_y (by first | exact mt_y0 (by omega) (by omega) ((hid_o fsh).mp (by omega)) | exact mt_y1 (by omega) (by omega)), Int.toNat_of_nonneg (show (0 : Int) ≤ v14_2 by omega), Int.toNat_of_nonneg (show (0 : Int) ≤ v37_3 by omega)]
                refine t_if_ne (pc := 96) (tgt := 101) dX1_drawLines_96 (by decide) (by omega) (fun c96 => ?_) (fun c96 => ?_)
                · refine r_iinc (pc := 101) (v := iv (v37_3 + 1)) (lv' := [(3, .int (iv (v37_3 + 1))), (4, .int (iv y38)), (0, .ref s), (1, .ref ga), (2, .int (iv v14_2))]) dX1_drawLines_101 rfl (iv_add _ _) (by decide) rfl ?_
                  refine r_goto (pc := 104) (tgt := 37) dX1_drawLines_104 (by decide) ?_
                  refine Rn.pick (lv' := [(0, .ref s), (1, .ref ga), (2, .int (iv v14_2)), (3, .int (iv (v37_3 + 1)))]) [2, 3, 4, 0] rfl ?_
                  exact ih37 (Int.toNat (60 - (v37_3 + 1))) (by omega) k1_48 f1_49 t1_50 w1_51 c1_52 _ ht46 (v37_3 + 1) ⟨by omega, by omega, by omega, by omega, by omega, by omega, by assumption, by (first | (rw [show acc ((lnR gdr F T) (Int.toNat v14_2)) (Int.toNat 0) = [] from rfl, List.append_nil]; assumption) | (rw [acc_nil (h := (lnR gdr F T) (Int.toNat v14_2)) (fun i hi => sel_n (by unfold mtP; omega)), List.append_nil]; assumption) | exact PL_add (by assumption) (by omega) hrow hc0 hc1 (by omega) | exact PL_n (by assumption) (by omega) hrown)⟩ (by omega)
                · refine r_iconst (pc := 99) (v := iv 0) dX1_drawLines_99 (by decide) ?_
                  exact r_zret (pc := 100) dX1_drawLines_100 rfl (iv_nar (by omega)) ⟨rfl, (gm : Int), gdr, k1_48, f1_49, t1_50, w1_51, c1_52, lt, 0, ht46, rfl, (by omega), (by omega), (by omega), (by (first | assumption | exact ar_0 _ _ _ _ _)), (by assumption), (by (exact dr_n (PL_over (g := (lnL gm gdr F T)) (h := (lnR gdr F T) (Int.toNat v14_2)) (a := v14_2) (b := v37_3) (N := gm) (by assumption) (by omega) hrow rfl (by omega) (by omega)))), (by omega), (by omega)⟩
            · refine r_aload_n (pc := 52) dX1_drawLines_52 (i := 1) rfl rfl ?_
              refine t_getE (pc := 53) (.ref gT) ht37 (rd_DX (by omega) hg_O) fX1_70 dX1_drawLines_53 rfl ?_
              refine r_iload_n (pc := 56) dX1_drawLines_56 (i := 2) rfl rfl ?_
              refine t_ialdX (pc := 57) (t0 := 0) ht37 (rd_DX (by omega) hxg_T) dX1_drawLines_57 rfl (by omega) (by omega) (fun b54 => ?_)
              have rb54 := (show Rfx gm 0 ((gn : Int) - 1) T by assumption) (Int.toNat v14_2) (by omega)
              refine r_aload_n (pc := 58) dX1_drawLines_58 (i := 1) rfl rfl ?_
              refine t_getE (pc := 59) (.ref gF) ht37 (rd_DX (by omega) hg_O) fX1_71 dX1_drawLines_59 rfl ?_
              refine r_iload_n (pc := 62) dX1_drawLines_62 (i := 3) rfl rfl ?_
              refine t_ialdX (pc := 63) (t0 := 0) ht37 (rd_DX (by omega) hxg_F) dX1_drawLines_63 rfl (by omega) (by omega) (fun b55 => ?_)
              have rb55 := (show Rfx gm 0 ((gn : Int) - 1) F by assumption) (Int.toNat v37_3) (by omega)
              refine t_icmp_ne (pc := 64) (tgt := 71) dX1_drawLines_64 (by decide) (by omega) (by omega) (fun c64 => ?_) (fun c64 => ?_)
              · refine r_iconst (pc := 71) (v := iv 0) dX1_drawLines_71 (by decide) ?_
                refine r_goto (pc := 72) (tgt := 81) dX1_drawLines_72 (by decide) ?_
                refine r_istore (pc := 81) (lv' := [(4, .int (iv 0)), (0, .ref s), (1, .ref ga), (2, .int (iv v14_2)), (3, .int (iv v37_3))]) dX1_drawLines_81 (by decide) rfl ?_
                refine r_iload (pc := 83) dX1_drawLines_83 rfl ?_
                refine t_if_eq (pc := 85) (tgt := 101) dX1_drawLines_85 (by decide) (by omega) (fun c85 => ?_) (fun c85 => ?_)
                · have hrown : (lnR gdr F T) (Int.toNat v14_2) (Int.toNat v37_3) = [] := sel_n (by first | exact mt_n0 (by omega) (fun h9 => absurd ((hid_o fsh).mpr h9) (by omega)) | exact mt_n1 (by omega) (by omega))
                  refine r_iinc (pc := 101) (v := iv (v37_3 + 1)) (lv' := [(3, .int (iv (v37_3 + 1))), (4, .int (iv 0)), (0, .ref s), (1, .ref ga), (2, .int (iv v14_2))]) dX1_drawLines_101 rfl (iv_add _ _) (by decide) rfl ?_
                  refine r_goto (pc := 104) (tgt := 37) dX1_drawLines_104 (by decide) ?_
                  refine Rn.pick (lv' := [(0, .ref s), (1, .ref ga), (2, .int (iv v14_2)), (3, .int (iv (v37_3 + 1)))]) [2, 3, 4, 0] rfl ?_
                  exact ih37 (Int.toNat (60 - (v37_3 + 1))) (by omega) ka37 kf37 kt37 kw37 kc37 _ ht37 (v37_3 + 1) ⟨by omega, by omega, by omega, by omega, by omega, by omega, by assumption, by (first | (rw [show acc ((lnR gdr F T) (Int.toNat v14_2)) (Int.toNat 0) = [] from rfl, List.append_nil]; assumption) | (rw [acc_nil (h := (lnR gdr F T) (Int.toNat v14_2)) (fun i hi => sel_n (by unfold mtP; omega)), List.append_nil]; assumption) | exact PL_add (by assumption) (by omega) hrow hc0 hc1 (by omega) | exact PL_n (by assumption) (by omega) hrown)⟩ (by omega)
                · exfalso
                  omega
              · refine r_iconst (pc := 67) (v := iv 1) dX1_drawLines_67 (by decide) ?_
                refine r_goto (pc := 68) (tgt := 81) dX1_drawLines_68 (by decide) ?_
                refine r_istore (pc := 81) (lv' := [(4, .int (iv 1)), (0, .ref s), (1, .ref ga), (2, .int (iv v14_2)), (3, .int (iv v37_3))]) dX1_drawLines_81 (by decide) rfl ?_
                refine r_iload (pc := 83) dX1_drawLines_83 rfl ?_
                refine t_if_eq (pc := 85) (tgt := 101) dX1_drawLines_85 (by decide) (by omega) (fun c85 => ?_) (fun c85 => ?_)
                · exfalso
                  omega
                · refine r_aload_n (pc := 88) dX1_drawLines_88 (i := 0) rfl rfl ?_
                  refine r_iload_n (pc := 89) dX1_drawLines_89 (i := 2) rfl rfl ?_
                  refine r_iload_n (pc := 90) dX1_drawLines_90 (i := 3) rfl rfl ?_
                  refine r_iconst (pc := 91) (v := iv 0) dX1_drawLines_91 (by decide) ?_
                  refine r_iconst (pc := 92) (v := iv 0) dX1_drawLines_92 (by decide) ?_
                  obtain ⟨fs60, hfs60⟩ := t_obj ht37 (rd_of DX_0)
                  refine r_callV (pc := 93) (as := [.int (iv v14_2), .int (iv v37_3), .int (iv 0), .int (iv 0)]) (st := []) kX1_74 rfl dX1_drawLines_93 hfs60 (d_X1_add (d := d - 1) (x1 := v14_2) (x2 := v37_3) (x3 := 0) (x4 := 0) (by omega)  (by omega) ht37 (by omega) (by omega) (by omega) (by omega)) rfl (by omega) (Nat.le_of_ble_eq_true rfl) (Nat.zero_le _) (Nat.zero_le _) rfl (fun r57 hp56 n58 hq59 => ?_)
                  obtain ⟨hnn58, bb_62, k1_63, f1_64, t1_65, w1_66, c1_67, ht61, hrr57, hhq590, hhq591, hhq592, hhq593⟩ := hq59
                  subst n58 r57
                  have hhq590 : (bb_62 = 1 ∧ ka37 < 60 ∧ k1_63 = ka37 + 1) ∨ (bb_62 = 0 ∧ 60 ≤ ka37 ∧ k1_63 = ka37) := hhq590
                  have hhq591 : ka37 < 60 → f1_64 = fup kf37 (Int.toNat ka37) v14_2 ∧ t1_65 = fup kt37 (Int.toNat ka37) v37_3 ∧ w1_66 = fup kw37 (Int.toNat ka37) 0 ∧ c1_67 = fup kc37 (Int.toNat ka37) 0 := hhq591
                  have hhq592 : 60 ≤ ka37 → f1_64 = kf37 ∧ t1_65 = kt37 ∧ w1_66 = kw37 ∧ c1_67 = kc37 := hhq592
                  have hhq593 : 0 ≤ k1_63 ∧ k1_63 ≤ 60 := hhq593
                  change Rn _ _ _ 96 _ [.int (iv bb_62)] _ _ _ _ _
                  have hapq68 : arP f1_64 t1_65 w1_66 c1_67 k1_63 (gm : Int) := ar_add (by assumption) (by omega) (by omega) (by omega) (by omega) (by omega) hhq590 hhq591 hhq592
                  have hc0 := hhq590
                  have hc1 := hhq591
                  have hrow : (lnR gdr F T) (Int.toNat v14_2) (Int.toNat v37_3) = [(v14_2, v37_3, 0, 0)] := by
                    show sel _ _ = _
                    rw [sel_y (by first | exact mt_y0 (by omega) (by omega) ((hid_o fsh).mp (by omega)) | exact mt_y1 (by omega) (by omega)), Int.toNat_of_nonneg (show (0 : Int) ≤ v14_2 by omega), Int.toNat_of_nonneg (show (0 : Int) ≤ v37_3 by omega)]
                  refine t_if_ne (pc := 96) (tgt := 101) dX1_drawLines_96 (by decide) (by omega) (fun c96 => ?_) (fun c96 => ?_)
                  · refine r_iinc (pc := 101) (v := iv (v37_3 + 1)) (lv' := [(3, .int (iv (v37_3 + 1))), (4, .int (iv 1)), (0, .ref s), (1, .ref ga), (2, .int (iv v14_2))]) dX1_drawLines_101 rfl (iv_add _ _) (by decide) rfl ?_
                    refine r_goto (pc := 104) (tgt := 37) dX1_drawLines_104 (by decide) ?_
                    refine Rn.pick (lv' := [(0, .ref s), (1, .ref ga), (2, .int (iv v14_2)), (3, .int (iv (v37_3 + 1)))]) [2, 3, 4, 0] rfl ?_
                    exact ih37 (Int.toNat (60 - (v37_3 + 1))) (by omega) k1_63 f1_64 t1_65 w1_66 c1_67 _ ht61 (v37_3 + 1) ⟨by omega, by omega, by omega, by omega, by omega, by omega, by assumption, by (first | (rw [show acc ((lnR gdr F T) (Int.toNat v14_2)) (Int.toNat 0) = [] from rfl, List.append_nil]; assumption) | (rw [acc_nil (h := (lnR gdr F T) (Int.toNat v14_2)) (fun i hi => sel_n (by unfold mtP; omega)), List.append_nil]; assumption) | exact PL_add (by assumption) (by omega) hrow hc0 hc1 (by omega) | exact PL_n (by assumption) (by omega) hrown)⟩ (by omega)
                  · refine r_iconst (pc := 99) (v := iv 0) dX1_drawLines_99 (by decide) ?_
                    exact r_zret (pc := 100) dX1_drawLines_100 rfl (iv_nar (by omega)) ⟨rfl, (gm : Int), gdr, k1_63, f1_64, t1_65, w1_66, c1_67, lt, 0, ht61, rfl, (by omega), (by omega), (by omega), (by (first | assumption | exact ar_0 _ _ _ _ _)), (by assumption), (by (exact dr_n (PL_over (g := (lnL gm gdr F T)) (h := (lnR gdr F T) (Int.toNat v14_2)) (a := v14_2) (b := v37_3) (N := gm) (by assumption) (by omega) hrow rfl (by omega) (by omega)))), (by omega), (by omega)⟩
        refine Rn.pick (lv' := [(0, .ref s), (1, .ref ga), (2, .int (iv v14_2)), (3, .int (iv 0))]) [1, 2, 3, 0] rfl ?_
        exact B37 (Int.toNat (60 - 0)) ka14 kf14 kt14 kw14 kc14 _ ht14 0 ⟨by omega, by omega, by omega, by omega, by omega, by omega, by assumption, by (first | (rw [show acc ((lnR gdr F T) (Int.toNat v14_2)) (Int.toNat 0) = [] from rfl, List.append_nil]; assumption) | (rw [acc_nil (h := (lnR gdr F T) (Int.toNat v14_2)) (fun i hi => sel_n (by unfold mtP; omega)), List.append_nil]; assumption) | exact PL_add (by assumption) (by omega) hrow hc0 hc1 (by omega) | exact PL_n (by assumption) (by omega) hrown)⟩ (by omega)
  refine Rn.pick (lv' := [(0, .ref s), (1, .ref ga), (2, .int (iv 0))]) [1, 2, 0] rfl ?_
  exact B14 (Int.toNat (60 - 0)) 0 kf kt kw kc _ ht6 0 ⟨by omega, by omega, by omega, by omega, by omega, by assumption, by (first | (rw [List.nil_append] at hpl0; exact hpl0) | (have h8 : PL (acc (lnL gm gdr F T) (Int.toNat v14_2) ++ acc ((lnR gdr F T) (Int.toNat v14_2)) (Int.toNat v37_3)) _ _ _ _ _ := (by assumption); rw [acc_up (by omega)]; have e9 : (lnL gm gdr F T) (Int.toNat v14_2) = acc ((lnR gdr F T) (Int.toNat v14_2)) (Int.toNat v37_3) := (by show acc _ _ = _; rw [show v37_3 = (gm : Int) by omega, Int.toNat_natCast]); rw [e9]; exact h8))⟩ (by omega)
def qd_X1_drawBoth (Γ : TG) (cI cJ cZ cT : ClassId) (s : Nat) (n : Nat) (kn : Int) (kd : Int) (ka : Int) (kf : Nat → Int) (kt : Nat → Int) (kw : Nat → Int) (kc : Nat → Int) (lt : Nat → Int) (ga : Nat) (gF : Nat) (gT : Nat) (gW : Nat) (gC : Nat) (gTl : Nat) (gHd : Nat) (gBy : Nat) (gOu : Nat) (gIn : Nat) (gJo : Nat) (gn : Nat) (gm : Nat) (gq : Nat) (gdr : Int) (ja : Nat) (jF : Nat) (jT : Nat) (jW : Nat) (jC : Nat) (jTl : Nat) (jHd : Nat) (jBy : Nat) (jOu : Nat) (jIn : Nat) (jJo : Nat) (jn : Nat) (jm : Nat) (jq : Nat) (jdr : Int) (F T W C Tl Hd By Ou In Jo F2 T2 W2 C2 Tl2 Hd2 By2 Ou2 In2 Jo2 : Nat → Int) : Option Value → MH → Nat → Prop := fun r hp1 n1 => n1 = n ∧ ∃ (n1 : Int) (d1 : Int) (k1 : Int) (f1 : Nat → Int) (t1 : Nat → Int) (w1 : Nat → Int) (c1 : Nat → Int) (l1 : Nat → Int), Tw (DX Γ cI cJ cZ cT s n1 d1 k1 f1 t1 w1 c1 l1) hp1 ∧ r = none ∧ (1 ≤ n1 ∧ n1 ≤ 16) ∧ (0 ≤ d1 ∧ d1 ≤ 1) ∧ (0 ≤ k1 ∧ k1 ≤ 60) ∧ (arP f1 t1 w1 c1 k1 n1) ∧ (Rfx 256 (-1000) 5000 l1) ∧ (PL (acc (cpE F T W C 0) gm ++ acc (cpE F2 T2 W2 C2 (gn : Int)) jm) k1 f1 t1 w1 c1) ∧ (n1 = ((gn : Int) + (jn : Int))) ∧ (d1 = gdr)
set_option maxHeartbeats 4000000 in
set_option maxRecDepth 100000 in
theorem d_X1_drawBoth {D : va_G} {cI cJ cZ cT : ClassId} {lo b L : Nat} {xs : Nat → Int32} {hp : MH} {n d : Nat} {Γ : TG} {s : Nat} {kn : Int} {kd : Int} {ka : Int} {kf : Nat → Int} {kt : Nat → Int} {kw : Nat → Int} {kc : Nat → Int} {lt : Nat → Int} {ga : Nat} {gF : Nat} {gT : Nat} {gW : Nat} {gC : Nat} {gTl : Nat} {gHd : Nat} {gBy : Nat} {gOu : Nat} {gIn : Nat} {gJo : Nat} {gn : Nat} {gm : Nat} {gq : Nat} {gdr : Int} {ja : Nat} {jF : Nat} {jT : Nat} {jW : Nat} {jC : Nat} {jTl : Nat} {jHd : Nat} {jBy : Nat} {jOu : Nat} {jIn : Nat} {jJo : Nat} {jn : Nat} {jm : Nat} {jq : Nat} {jdr : Int} {F T W C Tl Hd By Ou In Jo F2 T2 W2 C2 Tl2 Hd2 By2 Ou2 In2 Jo2 : Nat → Int} (hd0 : 1 ≤ d) (hg : TyG Γ cI cJ cZ ga gF gT gW gC gTl gHd gBy gOu gIn gJo gn gm gq gdr) (hltg : s + 6 ≤ ga ∧ s + 6 ≤ gF ∧ s + 6 ≤ gT ∧ s + 6 ≤ gW ∧ s + 6 ≤ gC ∧ s + 6 ≤ gTl ∧ s + 6 ≤ gHd ∧ s + 6 ≤ gBy ∧ s + 6 ≤ gOu ∧ s + 6 ≤ gIn ∧ s + 6 ≤ gJo) (hj : TyG Γ cI cJ cZ ja jF jT jW jC jTl jHd jBy jOu jIn jJo jn jm jq jdr) (hltj : s + 6 ≤ ja ∧ s + 6 ≤ jF ∧ s + 6 ≤ jT ∧ s + 6 ≤ jW ∧ s + 6 ≤ jC ∧ s + 6 ≤ jTl ∧ s + 6 ≤ jHd ∧ s + 6 ≤ jBy ∧ s + 6 ≤ jOu ∧ s + 6 ≤ jIn ∧ s + 6 ≤ jJo) (hn_kn : 1 ≤ kn ∧ kn ≤ 16) (hn_kd : 0 ≤ kd ∧ kd ≤ 1) (hn_ka : 0 ≤ ka ∧ ka ≤ 60) (ht : Tw (DX Γ cI cJ cZ cT s kn kd ka kf kt kw kc lt) hp)  (hlt9 : Rfx 256 (-1000) 5000 lt) (hxg : XG Γ cI gF gT gW gC gTl gHd gBy gOu gIn gJo gn gm gq F T W C Tl Hd By Ou In Jo) (hxj : XG Γ cI jF jT jW jC jTl jHd jBy jOu jIn jJo jn jm jq F2 T2 W2 C2 Tl2 Hd2 By2 Ou2 In2 Jo2) (hm9 : ((gn : Int) + (jn : Int)) ≤ 16 ∧ (gm : Int) + (jm : Int) ≤ 60) : Mt (gG D cI cJ cZ cT lo b L xs) mX1_drawBoth d 0 0 [.ref s, .ref ga, .ref ja] hp n (qd_X1_drawBoth Γ cI cJ cZ cT s n kn kd ka kf kt kw kc lt ga gF gT gW gC gTl gHd gBy gOu gIn gJo gn gm gq gdr ja jF jT jW jC jTl jHd jBy jOu jIn jJo jn jm jq jdr F T W C Tl Hd By Ou In Jo F2 T2 W2 C2 Tl2 Hd2 By2 Ou2 In2 Jo2) := by
  refine Mt.of rfl (Nat.le_of_ble_eq_true rfl) ?_
  refine Rn.pick (lv' := [(0, .ref s), (1, .ref ga), (2, .ref ja)]) [0, 1, 2] rfl ?_
  obtain ⟨hg_O, hg_from, hg_to, hg_weight, hg_cost, hg_tail, hg_head, hg_by, hg_out, hg_in, hg_joined, hg_b⟩ := id hg
  obtain ⟨hj_O, hj_from, hj_to, hj_weight, hj_cost, hj_tail, hj_head, hj_by, hj_out, hj_in, hj_joined, hj_b⟩ := id hj
  obtain ⟨⟨hxg_F, hxg_T, hxg_W, hxg_C, hxg_Tl, hxg_Hd, hxg_By, hxg_Ou, hxg_In, hxg_Jo⟩, ⟨hrg_F, hrg_T, hrg_W, hrg_C, hrg_Tl, hrg_Hd, hrg_By, hrg_Ou, hrg_In, hrg_Jo⟩, houg⟩ := id hxg
  obtain ⟨⟨hxj_F, hxj_T, hxj_W, hxj_C, hxj_Tl, hxj_Hd, hxj_By, hxj_Ou, hxj_In, hxj_Jo⟩, ⟨hrj_F, hrj_T, hrj_W, hrj_C, hrj_Tl, hrj_Hd, hrj_By, hrj_Ou, hrj_In, hrj_Jo⟩, houj⟩ := id hxj
  refine r_aload_n (pc := 0) dX1_drawBoth_0 (i := 0) rfl rfl ?_
  refine r_aload_n (pc := 1) dX1_drawBoth_1 (i := 1) rfl rfl ?_
  refine t_getE (pc := 2) (.int (iv (gn : Int))) ht (rd_DX (by omega) hg_O) fX1_60 dX1_drawBoth_2 rfl ?_
  refine r_aload_n (pc := 5) dX1_drawBoth_5 (i := 2) rfl rfl ?_
  refine t_getE (pc := 6) (.int (iv (jn : Int))) ht (rd_DX (by omega) hj_O) fX1_60 dX1_drawBoth_6 rfl ?_
  refine r_iadd (pc := 9) (v := iv ((gn : Int) + (jn : Int))) dX1_drawBoth_9 (iv_add _ _) ?_
  refine r_aload_n (pc := 10) dX1_drawBoth_10 (i := 1) rfl rfl ?_
  refine t_getE (pc := 11) (.int (iv gdr)) ht (rd_DX (by omega) hg_O) fX1_61 dX1_drawBoth_11 rfl ?_
  obtain ⟨fs5, hfs5⟩ := t_obj ht (rd_of DX_0)
  refine r_callV (pc := 14) (as := [.int (iv ((gn : Int) + (jn : Int))), .int (iv gdr)]) (st := []) kX1_62 rfl dX1_drawBoth_14 hfs5 (d_X1_restart (d := d - 1) (x1 := (gn : Int) + (jn : Int)) (x2 := gdr) (by omega)  ht (by omega) (by omega)) rfl (by omega) (Nat.le_of_ble_eq_true rfl) (Nat.zero_le _) (Nat.zero_le _) rfl (fun r2 hp1 n3 hq4 => ?_)
  obtain ⟨hnn3, ht6, hrr2⟩ := hq4
  subst n3 r2
  change Rn _ _ _ 17 _ [] _ _ _ _ _
  have ha0 : arP kf kt kw kc 0 ((gn : Int) + (jn : Int)) := ar_0 _ _ _ _ _
  have hpl0 : PL ([] ++ acc (cpE F T W C 0) (Int.toNat 0)) 0 kf kt kw kc := PL_0 _ _ _ _
  refine r_iconst (pc := 17) (v := iv 0) dX1_drawBoth_17 (by decide) ?_
  refine r_istore_n (pc := 18) (lv' := [(3, .int (iv 0)), (0, .ref s), (1, .ref ga), (2, .ref ja)]) dX1_drawBoth_18 (i := 3) rfl (by decide) rfl ?_
  have B19 : ∀ k : Nat, ∀ ka19 : Int, ∀ kf19 : Nat → Int, ∀ kt19 : Nat → Int, ∀ kw19 : Nat → Int, ∀ kc19 : Nat → Int, ∀ hp19 : MH, Tw (DX Γ cI cJ cZ cT s ((gn : Int) + (jn : Int)) gdr ka19 kf19 kt19 kw19 kc19 lt) hp19 → ∀  (v19_3 : Int), 0 ≤ v19_3 ∧ v19_3 ≤ 60 ∧ (0 ≤ ka19) ∧ (ka19 ≤ 60) ∧ (ka19 = v19_3) ∧ (v19_3 ≤ (gm : Int)) ∧ (arP kf19 kt19 kw19 kc19 ka19 ((gn : Int) + (jn : Int))) ∧ (PL ([] ++ acc (cpE F T W C 0) (Int.toNat v19_3)) ka19 kf19 kt19 kw19 kc19) → 60 - v19_3 ≤ (k : Int) → Rn (gG D cI cJ cZ cT lo b L xs) mX1_drawBoth d 19 [(0, .ref s), (1, .ref ga), (2, .ref ja), (3, .int (iv v19_3))] [] hp19 n 0 0 (qd_X1_drawBoth Γ cI cJ cZ cT s n kn kd ka kf kt kw kc lt ga gF gT gW gC gTl gHd gBy gOu gIn gJo gn gm gq gdr ja jF jT jW jC jTl jHd jBy jOu jIn jJo jn jm jq jdr F T W C Tl Hd By Ou In Jo F2 T2 W2 C2 Tl2 Hd2 By2 Ou2 In2 Jo2) := by
    refine lpS _ ?_
    intro k19 ih19 ka19 kf19 kt19 kw19 kc19 hp19 ht19 v19_3 hf19 hm19
    obtain ⟨hf19_0, hf19_1, hf19_2, hf19_3, hf19_4, hf19_5, ha19_6, ha19_7⟩ := hf19
    refine r_iload_n (pc := 19) dX1_drawBoth_19 (i := 3) rfl rfl ?_
    refine r_aload_n (pc := 20) dX1_drawBoth_20 (i := 1) rfl rfl ?_
    refine t_getE (pc := 21) (.int (iv (gm : Int))) ht19 (rd_DX (by omega) hg_O) fX1_44 dX1_drawBoth_21 rfl ?_
    refine t_icmp_ge (pc := 24) (tgt := 62) dX1_drawBoth_24 (by decide) (by omega) (by omega) (fun c24 => ?_) (fun c24 => ?_)
    · refine r_iconst (pc := 62) (v := iv 0) dX1_drawBoth_62 (by decide) ?_
      refine r_istore_n (pc := 63) (lv' := [(3, .int (iv 0)), (0, .ref s), (1, .ref ga), (2, .ref ja)]) dX1_drawBoth_63 (i := 3) rfl (by decide) rfl ?_
      have hplm : PL (acc (cpE F T W C 0) gm ++ acc (cpE F2 T2 W2 C2 (gn : Int)) (Int.toNat 0)) ka19 kf19 kt19 kw19 kc19 := by have h8 : PL ([] ++ acc (cpE F T W C 0) (Int.toNat v19_3)) ka19 kf19 kt19 kw19 kc19 := (by assumption); rw [show v19_3 = (gm : Int) by omega, Int.toNat_natCast, List.nil_append] at h8; rw [show acc (cpE F2 T2 W2 C2 (gn : Int)) (Int.toNat 0) = [] from rfl, List.append_nil]; exact h8
      have B64 : ∀ k : Nat, ∀ ka64 : Int, ∀ kf64 : Nat → Int, ∀ kt64 : Nat → Int, ∀ kw64 : Nat → Int, ∀ kc64 : Nat → Int, ∀ hp64 : MH, Tw (DX Γ cI cJ cZ cT s ((gn : Int) + (jn : Int)) gdr ka64 kf64 kt64 kw64 kc64 lt) hp64 → ∀  (v64_3 : Int), 0 ≤ v64_3 ∧ v64_3 ≤ 60 ∧ (0 ≤ ka64) ∧ (ka64 ≤ 60) ∧ (ka64 = (gm : Int) + v64_3) ∧ (v64_3 ≤ (jm : Int)) ∧ (arP kf64 kt64 kw64 kc64 ka64 ((gn : Int) + (jn : Int))) ∧ (PL (acc (cpE F T W C 0) gm ++ acc (cpE F2 T2 W2 C2 (gn : Int)) (Int.toNat v64_3)) ka64 kf64 kt64 kw64 kc64) → 60 - v64_3 ≤ (k : Int) → Rn (gG D cI cJ cZ cT lo b L xs) mX1_drawBoth d 64 [(0, .ref s), (1, .ref ga), (2, .ref ja), (3, .int (iv v64_3))] [] hp64 n 0 0 (qd_X1_drawBoth Γ cI cJ cZ cT s n kn kd ka kf kt kw kc lt ga gF gT gW gC gTl gHd gBy gOu gIn gJo gn gm gq gdr ja jF jT jW jC jTl jHd jBy jOu jIn jJo jn jm jq jdr F T W C Tl Hd By Ou In Jo F2 T2 W2 C2 Tl2 Hd2 By2 Ou2 In2 Jo2) := by
        refine lpS _ ?_
        intro k64 ih64 ka64 kf64 kt64 kw64 kc64 hp64 ht64 v64_3 hf64 hm64
        obtain ⟨hf64_0, hf64_1, hf64_2, hf64_3, hf64_4, hf64_5, ha64_6, ha64_7⟩ := hf64
        refine r_iload_n (pc := 64) dX1_drawBoth_64 (i := 3) rfl rfl ?_
        refine r_aload_n (pc := 65) dX1_drawBoth_65 (i := 2) rfl rfl ?_
        refine t_getE (pc := 66) (.int (iv (jm : Int))) ht64 (rd_DX (by omega) hj_O) fX1_44 dX1_drawBoth_66 rfl ?_
        refine t_icmp_ge (pc := 69) (tgt := 117) dX1_drawBoth_69 (by decide) (by omega) (by omega) (fun c69 => ?_) (fun c69 => ?_)
        · exact r_vret (pc := 117) dX1_drawBoth_117 rfl ⟨rfl, ((gn : Int) + (jn : Int)), gdr, ka64, kf64, kt64, kw64, kc64, lt, ht64, rfl, (by omega), (by omega), (by omega), (by (first | assumption | exact ar_0 _ _ _ _ _)), (by assumption), (by (have h8 : PL (acc (cpE F T W C 0) gm ++ acc (cpE F2 T2 W2 C2 (gn : Int)) (Int.toNat v64_3)) _ _ _ _ _ := (by assumption); rw [show v64_3 = (jm : Int) by omega, Int.toNat_natCast] at h8; exact h8)), (by omega), (by omega)⟩
        · refine r_aload_n (pc := 72) dX1_drawBoth_72 (i := 0) rfl rfl ?_
          refine r_aload_n (pc := 73) dX1_drawBoth_73 (i := 1) rfl rfl ?_
          refine t_getE (pc := 74) (.int (iv (gn : Int))) ht64 (rd_DX (by omega) hg_O) fX1_60 dX1_drawBoth_74 rfl ?_
          refine r_aload_n (pc := 77) dX1_drawBoth_77 (i := 2) rfl rfl ?_
          refine t_getE (pc := 78) (.ref jF) ht64 (rd_DX (by omega) hj_O) fX1_71 dX1_drawBoth_78 rfl ?_
          refine r_iload_n (pc := 81) dX1_drawBoth_81 (i := 3) rfl rfl ?_
          refine t_ialdX (pc := 82) (t0 := 0) ht64 (rd_DX (by omega) hxj_F) dX1_drawBoth_82 rfl (by omega) (by omega) (fun b7 => ?_)
          have rb7 := (show Rfx jm 0 ((jn : Int) - 1) F2 by assumption) (Int.toNat v64_3) (by omega)
          refine r_iadd (pc := 83) (v := iv ((gn : Int) + (F2 (Int.toNat v64_3)))) dX1_drawBoth_83 (iv_add _ _) ?_
          refine r_aload_n (pc := 84) dX1_drawBoth_84 (i := 1) rfl rfl ?_
          refine t_getE (pc := 85) (.int (iv (gn : Int))) ht64 (rd_DX (by omega) hg_O) fX1_60 dX1_drawBoth_85 rfl ?_
          refine r_aload_n (pc := 88) dX1_drawBoth_88 (i := 2) rfl rfl ?_
          refine t_getE (pc := 89) (.ref jT) ht64 (rd_DX (by omega) hj_O) fX1_70 dX1_drawBoth_89 rfl ?_
          refine r_iload_n (pc := 92) dX1_drawBoth_92 (i := 3) rfl rfl ?_
          refine t_ialdX (pc := 93) (t0 := 0) ht64 (rd_DX (by omega) hxj_T) dX1_drawBoth_93 rfl (by omega) (by omega) (fun b8 => ?_)
          have rb8 := (show Rfx jm 0 ((jn : Int) - 1) T2 by assumption) (Int.toNat v64_3) (by omega)
          refine r_iadd (pc := 94) (v := iv ((gn : Int) + (T2 (Int.toNat v64_3)))) dX1_drawBoth_94 (iv_add _ _) ?_
          refine r_aload_n (pc := 95) dX1_drawBoth_95 (i := 2) rfl rfl ?_
          refine t_getE (pc := 96) (.ref jW) ht64 (rd_DX (by omega) hj_O) fX1_72 dX1_drawBoth_96 rfl ?_
          refine r_iload_n (pc := 99) dX1_drawBoth_99 (i := 3) rfl rfl ?_
          refine t_ialdX (pc := 100) (t0 := 0) ht64 (rd_DX (by omega) hxj_W) dX1_drawBoth_100 rfl (by omega) (by omega) (fun b9 => ?_)
          have rb9 := (show Rfx jm (-1000) 1000 W2 by assumption) (Int.toNat v64_3) (by omega)
          refine r_aload_n (pc := 101) dX1_drawBoth_101 (i := 2) rfl rfl ?_
          refine t_getE (pc := 102) (.ref jC) ht64 (rd_DX (by omega) hj_O) fX1_73 dX1_drawBoth_102 rfl ?_
          refine r_iload_n (pc := 105) dX1_drawBoth_105 (i := 3) rfl rfl ?_
          refine t_ialdX (pc := 106) (t0 := 0) ht64 (rd_DX (by omega) hxj_C) dX1_drawBoth_106 rfl (by omega) (by omega) (fun b10 => ?_)
          have rb10 := (show Rfx jm (-1000) 1000 C2 by assumption) (Int.toNat v64_3) (by omega)
          obtain ⟨fs15, hfs15⟩ := t_obj ht64 (rd_of DX_0)
          refine r_callV (pc := 107) (as := [.int (iv ((gn : Int) + (F2 (Int.toNat v64_3)))), .int (iv ((gn : Int) + (T2 (Int.toNat v64_3)))), .int (iv (W2 (Int.toNat v64_3))), .int (iv (C2 (Int.toNat v64_3)))]) (st := []) kX1_74 rfl dX1_drawBoth_107 hfs15 (d_X1_add (d := d - 1) (x1 := (gn : Int) + (F2 (Int.toNat v64_3))) (x2 := (gn : Int) + (T2 (Int.toNat v64_3))) (x3 := W2 (Int.toNat v64_3)) (x4 := C2 (Int.toNat v64_3)) (by omega)  (by omega) ht64 (by omega) (by omega) (by omega) (by omega)) rfl (by omega) (Nat.le_of_ble_eq_true rfl) (Nat.zero_le _) (Nat.zero_le _) rfl (fun r12 hp11 n13 hq14 => ?_)
          obtain ⟨hnn13, bb_17, k1_18, f1_19, t1_20, w1_21, c1_22, ht16, hrr12, hhq140, hhq141, hhq142, hhq143⟩ := hq14
          subst n13 r12
          have hhq140 : (bb_17 = 1 ∧ ka64 < 60 ∧ k1_18 = ka64 + 1) ∨ (bb_17 = 0 ∧ 60 ≤ ka64 ∧ k1_18 = ka64) := hhq140
          have hhq141 : ka64 < 60 → f1_19 = fup kf64 (Int.toNat ka64) ((gn : Int) + (F2 (Int.toNat v64_3))) ∧ t1_20 = fup kt64 (Int.toNat ka64) ((gn : Int) + (T2 (Int.toNat v64_3))) ∧ w1_21 = fup kw64 (Int.toNat ka64) (W2 (Int.toNat v64_3)) ∧ c1_22 = fup kc64 (Int.toNat ka64) (C2 (Int.toNat v64_3)) := hhq141
          have hhq142 : 60 ≤ ka64 → f1_19 = kf64 ∧ t1_20 = kt64 ∧ w1_21 = kw64 ∧ c1_22 = kc64 := hhq142
          have hhq143 : 0 ≤ k1_18 ∧ k1_18 ≤ 60 := hhq143
          change Rn _ _ _ 110 _ [.int (iv bb_17)] _ _ _ _ _
          have hapq23 : arP f1_19 t1_20 w1_21 c1_22 k1_18 ((gn : Int) + (jn : Int)) := ar_add (by assumption) (by omega) (by omega) (by omega) (by omega) (by omega) hhq140 hhq141 hhq142
          have hc0 := hhq140
          have hc1 := hhq141
          have hpl9 : PL (acc (cpE F T W C 0) gm ++ acc (cpE F2 T2 W2 C2 (gn : Int)) (Int.toNat (v64_3 + 1))) k1_18 f1_19 t1_20 w1_21 c1_22 := PL_add (by assumption) (by omega) (show [_] = [_] by rw [Int.add_comm (F2 _), Int.add_comm (T2 _)]) hc0 hc1 (by omega)
          refine r_pop (pc := 110) dX1_drawBoth_110 rfl ?_
          refine r_iinc (pc := 111) (v := iv (v64_3 + 1)) (lv' := [(3, .int (iv (v64_3 + 1))), (0, .ref s), (1, .ref ga), (2, .ref ja)]) dX1_drawBoth_111 rfl (iv_add _ _) (by decide) rfl ?_
          refine r_goto (pc := 114) (tgt := 64) dX1_drawBoth_114 (by decide) ?_
          refine Rn.pick (lv' := [(0, .ref s), (1, .ref ga), (2, .ref ja), (3, .int (iv (v64_3 + 1)))]) [1, 2, 3, 0] rfl ?_
          exact ih64 (Int.toNat (60 - (v64_3 + 1))) (by omega) k1_18 f1_19 t1_20 w1_21 c1_22 _ ht16 (v64_3 + 1) ⟨by omega, by omega, by omega, by omega, by omega, by omega, by assumption, by assumption⟩ (by omega)
      refine Rn.pick (lv' := [(0, .ref s), (1, .ref ga), (2, .ref ja), (3, .int (iv 0))]) [1, 2, 3, 0] rfl ?_
      exact B64 (Int.toNat (60 - 0)) ka19 kf19 kt19 kw19 kc19 _ ht19 0 ⟨by omega, by omega, by omega, by omega, by omega, by omega, by assumption, by assumption⟩ (by omega)
    · refine r_aload_n (pc := 27) dX1_drawBoth_27 (i := 0) rfl rfl ?_
      refine r_aload_n (pc := 28) dX1_drawBoth_28 (i := 1) rfl rfl ?_
      refine t_getE (pc := 29) (.ref gF) ht19 (rd_DX (by omega) hg_O) fX1_71 dX1_drawBoth_29 rfl ?_
      refine r_iload_n (pc := 32) dX1_drawBoth_32 (i := 3) rfl rfl ?_
      refine t_ialdX (pc := 33) (t0 := 0) ht19 (rd_DX (by omega) hxg_F) dX1_drawBoth_33 rfl (by omega) (by omega) (fun b24 => ?_)
      have rb24 := (show Rfx gm 0 ((gn : Int) - 1) F by assumption) (Int.toNat v19_3) (by omega)
      refine r_aload_n (pc := 34) dX1_drawBoth_34 (i := 1) rfl rfl ?_
      refine t_getE (pc := 35) (.ref gT) ht19 (rd_DX (by omega) hg_O) fX1_70 dX1_drawBoth_35 rfl ?_
      refine r_iload_n (pc := 38) dX1_drawBoth_38 (i := 3) rfl rfl ?_
      refine t_ialdX (pc := 39) (t0 := 0) ht19 (rd_DX (by omega) hxg_T) dX1_drawBoth_39 rfl (by omega) (by omega) (fun b25 => ?_)
      have rb25 := (show Rfx gm 0 ((gn : Int) - 1) T by assumption) (Int.toNat v19_3) (by omega)
      refine r_aload_n (pc := 40) dX1_drawBoth_40 (i := 1) rfl rfl ?_
      refine t_getE (pc := 41) (.ref gW) ht19 (rd_DX (by omega) hg_O) fX1_72 dX1_drawBoth_41 rfl ?_
      refine r_iload_n (pc := 44) dX1_drawBoth_44 (i := 3) rfl rfl ?_
      refine t_ialdX (pc := 45) (t0 := 0) ht19 (rd_DX (by omega) hxg_W) dX1_drawBoth_45 rfl (by omega) (by omega) (fun b26 => ?_)
      have rb26 := (show Rfx gm (-1000) 1000 W by assumption) (Int.toNat v19_3) (by omega)
      refine r_aload_n (pc := 46) dX1_drawBoth_46 (i := 1) rfl rfl ?_
      refine t_getE (pc := 47) (.ref gC) ht19 (rd_DX (by omega) hg_O) fX1_73 dX1_drawBoth_47 rfl ?_
      refine r_iload_n (pc := 50) dX1_drawBoth_50 (i := 3) rfl rfl ?_
      refine t_ialdX (pc := 51) (t0 := 0) ht19 (rd_DX (by omega) hxg_C) dX1_drawBoth_51 rfl (by omega) (by omega) (fun b27 => ?_)
      have rb27 := (show Rfx gm (-1000) 1000 C by assumption) (Int.toNat v19_3) (by omega)
      obtain ⟨fs32, hfs32⟩ := t_obj ht19 (rd_of DX_0)
      refine r_callV (pc := 52) (as := [.int (iv (F (Int.toNat v19_3))), .int (iv (T (Int.toNat v19_3))), .int (iv (W (Int.toNat v19_3))), .int (iv (C (Int.toNat v19_3)))]) (st := []) kX1_74 rfl dX1_drawBoth_52 hfs32 (d_X1_add (d := d - 1) (x1 := F (Int.toNat v19_3)) (x2 := T (Int.toNat v19_3)) (x3 := W (Int.toNat v19_3)) (x4 := C (Int.toNat v19_3)) (by omega)  (by omega) ht19 (by omega) (by omega) (by omega) (by omega)) rfl (by omega) (Nat.le_of_ble_eq_true rfl) (Nat.zero_le _) (Nat.zero_le _) rfl (fun r29 hp28 n30 hq31 => ?_)
      obtain ⟨hnn30, bb_34, k1_35, f1_36, t1_37, w1_38, c1_39, ht33, hrr29, hhq310, hhq311, hhq312, hhq313⟩ := hq31
      subst n30 r29
      have hhq310 : (bb_34 = 1 ∧ ka19 < 60 ∧ k1_35 = ka19 + 1) ∨ (bb_34 = 0 ∧ 60 ≤ ka19 ∧ k1_35 = ka19) := hhq310
      have hhq311 : ka19 < 60 → f1_36 = fup kf19 (Int.toNat ka19) (F (Int.toNat v19_3)) ∧ t1_37 = fup kt19 (Int.toNat ka19) (T (Int.toNat v19_3)) ∧ w1_38 = fup kw19 (Int.toNat ka19) (W (Int.toNat v19_3)) ∧ c1_39 = fup kc19 (Int.toNat ka19) (C (Int.toNat v19_3)) := hhq311
      have hhq312 : 60 ≤ ka19 → f1_36 = kf19 ∧ t1_37 = kt19 ∧ w1_38 = kw19 ∧ c1_39 = kc19 := hhq312
      have hhq313 : 0 ≤ k1_35 ∧ k1_35 ≤ 60 := hhq313
      change Rn _ _ _ 55 _ [.int (iv bb_34)] _ _ _ _ _
      have hapq40 : arP f1_36 t1_37 w1_38 c1_39 k1_35 ((gn : Int) + (jn : Int)) := ar_add (by assumption) (by omega) (by omega) (by omega) (by omega) (by omega) hhq310 hhq311 hhq312
      have hc0 := hhq310
      have hc1 := hhq311
      have hpl9 : PL ([] ++ acc (cpE F T W C 0) (Int.toNat (v19_3 + 1))) k1_35 f1_36 t1_37 w1_38 c1_39 := PL_add (by assumption) (by omega) (show [_] = [_] by rw [Int.add_zero, Int.add_zero]) hc0 hc1 (by omega)
      refine r_pop (pc := 55) dX1_drawBoth_55 rfl ?_
      refine r_iinc (pc := 56) (v := iv (v19_3 + 1)) (lv' := [(3, .int (iv (v19_3 + 1))), (0, .ref s), (1, .ref ga), (2, .ref ja)]) dX1_drawBoth_56 rfl (iv_add _ _) (by decide) rfl ?_
      refine r_goto (pc := 59) (tgt := 19) dX1_drawBoth_59 (by decide) ?_
      refine Rn.pick (lv' := [(0, .ref s), (1, .ref ga), (2, .ref ja), (3, .int (iv (v19_3 + 1)))]) [1, 2, 3, 0] rfl ?_
      exact ih19 (Int.toNat (60 - (v19_3 + 1))) (by omega) k1_35 f1_36 t1_37 w1_38 c1_39 _ ht33 (v19_3 + 1) ⟨by omega, by omega, by omega, by omega, by omega, by omega, by assumption, by assumption⟩ (by omega)
  refine Rn.pick (lv' := [(0, .ref s), (1, .ref ga), (2, .ref ja), (3, .int (iv 0))]) [1, 2, 3, 0] rfl ?_
  exact B19 (Int.toNat (60 - 0)) 0 kf kt kw kc _ ht6 0 ⟨by omega, by omega, by omega, by omega, by omega, by omega, by assumption, by assumption⟩ (by omega)
def qd_X1_drawMelted (Γ : TG) (cI cJ cZ cT : ClassId) (s : Nat) (n : Nat) (kn : Int) (kd : Int) (ka : Int) (kf : Nat → Int) (kt : Nat → Int) (kw : Nat → Int) (kc : Nat → Int) (lt : Nat → Int) (ga : Nat) (gF : Nat) (gT : Nat) (gW : Nat) (gC : Nat) (gTl : Nat) (gHd : Nat) (gBy : Nat) (gOu : Nat) (gIn : Nat) (gJo : Nat) (gn : Nat) (gm : Nat) (gq : Nat) (gdr : Int) (ra : Nat) (rN : Nat) (rO : Nat) (rn : Nat) (rz : Nat) (F T W C Tl Hd By Ou In Jo : Nat → Int) (Q : Nat → Int) : Option Value → MH → Nat → Prop := fun r hp1 n1 => n1 = n ∧ ∃ (n1 : Int) (d1 : Int) (k1 : Int) (f1 : Nat → Int) (t1 : Nat → Int) (w1 : Nat → Int) (c1 : Nat → Int) (l1 : Nat → Int), Tw (DX Γ cI cJ cZ cT s n1 d1 k1 f1 t1 w1 c1 l1) hp1 ∧ r = none ∧ (1 ≤ n1 ∧ n1 ≤ 16) ∧ (0 ≤ d1 ∧ d1 ≤ 1) ∧ (0 ≤ k1 ∧ k1 ≤ 60) ∧ (arP f1 t1 w1 c1 k1 n1) ∧ (Rfx 256 (-1000) 5000 l1) ∧ (PL (acc (mlE F T W C Q) gm) k1 f1 t1 w1 c1) ∧ (n1 = (rz : Int)) ∧ (d1 = gdr)
set_option maxHeartbeats 4000000 in
set_option maxRecDepth 100000 in
theorem d_X1_drawMelted {D : va_G} {cI cJ cZ cT : ClassId} {lo b L : Nat} {xs : Nat → Int32} {hp : MH} {n d : Nat} {Γ : TG} {s : Nat} {kn : Int} {kd : Int} {ka : Int} {kf : Nat → Int} {kt : Nat → Int} {kw : Nat → Int} {kc : Nat → Int} {lt : Nat → Int} {ga : Nat} {gF : Nat} {gT : Nat} {gW : Nat} {gC : Nat} {gTl : Nat} {gHd : Nat} {gBy : Nat} {gOu : Nat} {gIn : Nat} {gJo : Nat} {gn : Nat} {gm : Nat} {gq : Nat} {gdr : Int} {ra : Nat} {rN : Nat} {rO : Nat} {rn : Nat} {rz : Nat} {F T W C Tl Hd By Ou In Jo : Nat → Int} {Q : Nat → Int} (hd0 : 1 ≤ d) (hg : TyG Γ cI cJ cZ ga gF gT gW gC gTl gHd gBy gOu gIn gJo gn gm gq gdr) (hltg : s + 6 ≤ ga ∧ s + 6 ≤ gF ∧ s + 6 ≤ gT ∧ s + 6 ≤ gW ∧ s + 6 ≤ gC ∧ s + 6 ≤ gTl ∧ s + 6 ≤ gHd ∧ s + 6 ≤ gBy ∧ s + 6 ≤ gOu ∧ s + 6 ≤ gIn ∧ s + 6 ≤ gJo) (hr : TyP Γ cI cJ cZ ra rN rO rn rz) (hltr : s + 6 ≤ ra ∧ s + 6 ≤ rN ∧ s + 6 ≤ rO) (hn_kn : 1 ≤ kn ∧ kn ≤ 16) (hn_kd : 0 ≤ kd ∧ kd ≤ 1) (hn_ka : 0 ≤ ka ∧ ka ≤ 60) (ht : Tw (DX Γ cI cJ cZ cT s kn kd ka kf kt kw kc lt) hp)  (hlt9 : Rfx 256 (-1000) 5000 lt) (hxg : XG Γ cI gF gT gW gC gTl gHd gBy gOu gIn gJo gn gm gq F T W C Tl Hd By Ou In Jo) (hm9 : gn = rn) (hxr : rd Γ rN (xI cI rn Q)) (hrr : Rfx rn 0 ((rz : Int) - 1) Q) : Mt (gG D cI cJ cZ cT lo b L xs) mX1_drawMelted d 0 0 [.ref s, .ref ga, .ref ra] hp n (qd_X1_drawMelted Γ cI cJ cZ cT s n kn kd ka kf kt kw kc lt ga gF gT gW gC gTl gHd gBy gOu gIn gJo gn gm gq gdr ra rN rO rn rz F T W C Tl Hd By Ou In Jo Q) := by
  refine Mt.of rfl (Nat.le_of_ble_eq_true rfl) ?_
  refine Rn.pick (lv' := [(0, .ref s), (1, .ref ga), (2, .ref ra)]) [0, 1, 2] rfl ?_
  obtain ⟨hg_O, hg_from, hg_to, hg_weight, hg_cost, hg_tail, hg_head, hg_by, hg_out, hg_in, hg_joined, hg_b⟩ := id hg
  obtain ⟨hr_O, hr_number, hr_nodesOf, hr_b⟩ := id hr
  obtain ⟨⟨hxg_F, hxg_T, hxg_W, hxg_C, hxg_Tl, hxg_Hd, hxg_By, hxg_Ou, hxg_In, hxg_Jo⟩, ⟨hrg_F, hrg_T, hrg_W, hrg_C, hrg_Tl, hrg_Hd, hrg_By, hrg_Ou, hrg_In, hrg_Jo⟩, houg⟩ := id hxg
  refine r_aload_n (pc := 0) dX1_drawMelted_0 (i := 0) rfl rfl ?_
  refine r_aload_n (pc := 1) dX1_drawMelted_1 (i := 2) rfl rfl ?_
  refine t_getE (pc := 2) (.int (iv (rz : Int))) ht (rd_DX (by omega) hr_O) fX1_134 dX1_drawMelted_2 rfl ?_
  refine r_aload_n (pc := 5) dX1_drawMelted_5 (i := 1) rfl rfl ?_
  refine t_getE (pc := 6) (.int (iv gdr)) ht (rd_DX (by omega) hg_O) fX1_61 dX1_drawMelted_6 rfl ?_
  obtain ⟨fs5, hfs5⟩ := t_obj ht (rd_of DX_0)
  refine r_callV (pc := 9) (as := [.int (iv (rz : Int)), .int (iv gdr)]) (st := []) kX1_62 rfl dX1_drawMelted_9 hfs5 (d_X1_restart (d := d - 1) (x1 := (rz : Int)) (x2 := gdr) (by omega)  ht (by omega) (by omega)) rfl (by omega) (Nat.le_of_ble_eq_true rfl) (Nat.zero_le _) (Nat.zero_le _) rfl (fun r2 hp1 n3 hq4 => ?_)
  obtain ⟨hnn3, ht6, hrr2⟩ := hq4
  subst n3 r2
  change Rn _ _ _ 12 _ [] _ _ _ _ _
  have ha0 : arP kf kt kw kc 0 (rz : Int) := ar_0 _ _ _ _ _
  have hpl0 : PL ([] ++ acc (mlE F T W C Q) (Int.toNat 0)) 0 kf kt kw kc := PL_0 _ _ _ _
  refine r_iconst (pc := 12) (v := iv 0) dX1_drawMelted_12 (by decide) ?_
  refine r_istore_n (pc := 13) (lv' := [(3, .int (iv 0)), (0, .ref s), (1, .ref ga), (2, .ref ra)]) dX1_drawMelted_13 (i := 3) rfl (by decide) rfl ?_
  have B14 : ∀ k : Nat, ∀ ka14 : Int, ∀ kf14 : Nat → Int, ∀ kt14 : Nat → Int, ∀ kw14 : Nat → Int, ∀ kc14 : Nat → Int, ∀ hp14 : MH, Tw (DX Γ cI cJ cZ cT s (rz : Int) gdr ka14 kf14 kt14 kw14 kc14 lt) hp14 → ∀  (v14_3 : Int), 0 ≤ v14_3 ∧ v14_3 ≤ 60 ∧ (0 ≤ ka14) ∧ (ka14 ≤ 60) ∧ (ka14 ≤ v14_3) ∧ (v14_3 ≤ (gm : Int)) ∧ (arP kf14 kt14 kw14 kc14 ka14 (rz : Int)) ∧ (PL ([] ++ acc (mlE F T W C Q) (Int.toNat v14_3)) ka14 kf14 kt14 kw14 kc14) → 60 - v14_3 ≤ (k : Int) → Rn (gG D cI cJ cZ cT lo b L xs) mX1_drawMelted d 14 [(0, .ref s), (1, .ref ga), (2, .ref ra), (3, .int (iv v14_3))] [] hp14 n 0 0 (qd_X1_drawMelted Γ cI cJ cZ cT s n kn kd ka kf kt kw kc lt ga gF gT gW gC gTl gHd gBy gOu gIn gJo gn gm gq gdr ra rN rO rn rz F T W C Tl Hd By Ou In Jo Q) := by
    refine lpS _ ?_
    intro k14 ih14 ka14 kf14 kt14 kw14 kc14 hp14 ht14 v14_3 hf14 hm14
    obtain ⟨hf14_0, hf14_1, hf14_2, hf14_3, hf14_4, hf14_5, ha14_6, ha14_7⟩ := hf14
    refine r_iload_n (pc := 14) dX1_drawMelted_14 (i := 3) rfl rfl ?_
    refine r_aload_n (pc := 15) dX1_drawMelted_15 (i := 1) rfl rfl ?_
    refine t_getE (pc := 16) (.int (iv (gm : Int))) ht14 (rd_DX (by omega) hg_O) fX1_44 dX1_drawMelted_16 rfl ?_
    refine t_icmp_ge (pc := 19) (tgt := 82) dX1_drawMelted_19 (by decide) (by omega) (by omega) (fun c19 => ?_) (fun c19 => ?_)
    · exact r_vret (pc := 82) dX1_drawMelted_82 rfl ⟨rfl, (rz : Int), gdr, ka14, kf14, kt14, kw14, kc14, lt, ht14, rfl, (by omega), (by omega), (by omega), (by (first | assumption | exact ar_0 _ _ _ _ _)), (by assumption), (by (have h8 : PL ([] ++ acc (mlE F T W C Q) (Int.toNat v14_3)) _ _ _ _ _ := (by assumption); rw [show v14_3 = (gm : Int) by omega, Int.toNat_natCast] at h8; exact h8)), (by omega), (by omega)⟩
    · refine r_aload_n (pc := 22) dX1_drawMelted_22 (i := 2) rfl rfl ?_
      refine t_getE (pc := 23) (.ref rN) ht14 (rd_DX (by omega) hr_O) fX1_139 dX1_drawMelted_23 rfl ?_
      refine r_aload_n (pc := 26) dX1_drawMelted_26 (i := 1) rfl rfl ?_
      refine t_getE (pc := 27) (.ref gF) ht14 (rd_DX (by omega) hg_O) fX1_71 dX1_drawMelted_27 rfl ?_
      refine r_iload_n (pc := 30) dX1_drawMelted_30 (i := 3) rfl rfl ?_
      refine t_ialdX (pc := 31) (t0 := 0) ht14 (rd_DX (by omega) hxg_F) dX1_drawMelted_31 rfl (by omega) (by omega) (fun b7 => ?_)
      have rb7 := (show Rfx gm 0 ((gn : Int) - 1) F by assumption) (Int.toNat v14_3) (by omega)
      refine t_ialdX (pc := 32) (t0 := 0) ht14 (rd_DX (by omega) hxr) dX1_drawMelted_32 rfl (by omega) (by omega) (fun b8 => ?_)
      have rb8 := (show Rfx rn 0 ((rz : Int) - 1) Q by assumption) (Int.toNat (F (Int.toNat v14_3))) (by omega)
      refine r_istore (pc := 33) (lv' := [(4, .int (iv (Q (Int.toNat (F (Int.toNat v14_3)))))), (0, .ref s), (1, .ref ga), (2, .ref ra), (3, .int (iv v14_3))]) dX1_drawMelted_33 (by decide) rfl ?_
      refine r_aload_n (pc := 35) dX1_drawMelted_35 (i := 2) rfl rfl ?_
      refine t_getE (pc := 36) (.ref rN) ht14 (rd_DX (by omega) hr_O) fX1_139 dX1_drawMelted_36 rfl ?_
      refine r_aload_n (pc := 39) dX1_drawMelted_39 (i := 1) rfl rfl ?_
      refine t_getE (pc := 40) (.ref gT) ht14 (rd_DX (by omega) hg_O) fX1_70 dX1_drawMelted_40 rfl ?_
      refine r_iload_n (pc := 43) dX1_drawMelted_43 (i := 3) rfl rfl ?_
      refine t_ialdX (pc := 44) (t0 := 0) ht14 (rd_DX (by omega) hxg_T) dX1_drawMelted_44 rfl (by omega) (by omega) (fun b9 => ?_)
      have rb9 := (show Rfx gm 0 ((gn : Int) - 1) T by assumption) (Int.toNat v14_3) (by omega)
      refine t_ialdX (pc := 45) (t0 := 0) ht14 (rd_DX (by omega) hxr) dX1_drawMelted_45 rfl (by omega) (by omega) (fun b10 => ?_)
      have rb10 := (show Rfx rn 0 ((rz : Int) - 1) Q by assumption) (Int.toNat (T (Int.toNat v14_3))) (by omega)
      refine r_istore (pc := 46) (lv' := [(5, .int (iv (Q (Int.toNat (T (Int.toNat v14_3)))))), (4, .int (iv (Q (Int.toNat (F (Int.toNat v14_3)))))), (0, .ref s), (1, .ref ga), (2, .ref ra), (3, .int (iv v14_3))]) dX1_drawMelted_46 (by decide) rfl ?_
      refine r_iload (pc := 48) dX1_drawMelted_48 rfl ?_
      refine r_iload (pc := 50) dX1_drawMelted_50 rfl ?_
      refine t_icmp_eq (pc := 52) (tgt := 76) dX1_drawMelted_52 (by decide) (by omega) (by omega) (fun c52 => ?_) (fun c52 => ?_)
      · refine r_iinc (pc := 76) (v := iv (v14_3 + 1)) (lv' := [(3, .int (iv (v14_3 + 1))), (5, .int (iv (Q (Int.toNat (T (Int.toNat v14_3)))))), (4, .int (iv (Q (Int.toNat (F (Int.toNat v14_3)))))), (0, .ref s), (1, .ref ga), (2, .ref ra)]) dX1_drawMelted_76 rfl (iv_add _ _) (by decide) rfl ?_
        refine r_goto (pc := 79) (tgt := 14) dX1_drawMelted_79 (by decide) ?_
        refine Rn.pick (lv' := [(0, .ref s), (1, .ref ga), (2, .ref ra), (3, .int (iv (v14_3 + 1)))]) [3, 4, 5, 0] rfl ?_
        exact ih14 (Int.toNat (60 - (v14_3 + 1))) (by omega) ka14 kf14 kt14 kw14 kc14 _ ht14 (v14_3 + 1) ⟨by omega, by omega, by omega, by omega, by omega, by omega, by assumption, by (first | assumption | exact PL_n (by assumption) (by omega) (sel_n (by omega)))⟩ (by omega)
      · refine r_aload_n (pc := 55) dX1_drawMelted_55 (i := 0) rfl rfl ?_
        refine r_iload (pc := 56) dX1_drawMelted_56 rfl ?_
        refine r_iload (pc := 58) dX1_drawMelted_58 rfl ?_
        refine r_aload_n (pc := 60) dX1_drawMelted_60 (i := 1) rfl rfl ?_
        refine t_getE (pc := 61) (.ref gW) ht14 (rd_DX (by omega) hg_O) fX1_72 dX1_drawMelted_61 rfl ?_
        refine r_iload_n (pc := 64) dX1_drawMelted_64 (i := 3) rfl rfl ?_
        refine t_ialdX (pc := 65) (t0 := 0) ht14 (rd_DX (by omega) hxg_W) dX1_drawMelted_65 rfl (by omega) (by omega) (fun b11 => ?_)
        have rb11 := (show Rfx gm (-1000) 1000 W by assumption) (Int.toNat v14_3) (by omega)
        refine r_aload_n (pc := 66) dX1_drawMelted_66 (i := 1) rfl rfl ?_
        refine t_getE (pc := 67) (.ref gC) ht14 (rd_DX (by omega) hg_O) fX1_73 dX1_drawMelted_67 rfl ?_
        refine r_iload_n (pc := 70) dX1_drawMelted_70 (i := 3) rfl rfl ?_
        refine t_ialdX (pc := 71) (t0 := 0) ht14 (rd_DX (by omega) hxg_C) dX1_drawMelted_71 rfl (by omega) (by omega) (fun b12 => ?_)
        have rb12 := (show Rfx gm (-1000) 1000 C by assumption) (Int.toNat v14_3) (by omega)
        obtain ⟨fs17, hfs17⟩ := t_obj ht14 (rd_of DX_0)
        refine r_callV (pc := 72) (as := [.int (iv (Q (Int.toNat (F (Int.toNat v14_3))))), .int (iv (Q (Int.toNat (T (Int.toNat v14_3))))), .int (iv (W (Int.toNat v14_3))), .int (iv (C (Int.toNat v14_3)))]) (st := []) kX1_74 rfl dX1_drawMelted_72 hfs17 (d_X1_add (d := d - 1) (x1 := Q (Int.toNat (F (Int.toNat v14_3)))) (x2 := Q (Int.toNat (T (Int.toNat v14_3)))) (x3 := W (Int.toNat v14_3)) (x4 := C (Int.toNat v14_3)) (by omega)  (by omega) ht14 (by omega) (by omega) (by omega) (by omega)) rfl (by omega) (Nat.le_of_ble_eq_true rfl) (Nat.zero_le _) (Nat.zero_le _) rfl (fun r14 hp13 n15 hq16 => ?_)
        obtain ⟨hnn15, bb_19, k1_20, f1_21, t1_22, w1_23, c1_24, ht18, hrr14, hhq160, hhq161, hhq162, hhq163⟩ := hq16
        subst n15 r14
        have hhq160 : (bb_19 = 1 ∧ ka14 < 60 ∧ k1_20 = ka14 + 1) ∨ (bb_19 = 0 ∧ 60 ≤ ka14 ∧ k1_20 = ka14) := hhq160
        have hhq161 : ka14 < 60 → f1_21 = fup kf14 (Int.toNat ka14) (Q (Int.toNat (F (Int.toNat v14_3)))) ∧ t1_22 = fup kt14 (Int.toNat ka14) (Q (Int.toNat (T (Int.toNat v14_3)))) ∧ w1_23 = fup kw14 (Int.toNat ka14) (W (Int.toNat v14_3)) ∧ c1_24 = fup kc14 (Int.toNat ka14) (C (Int.toNat v14_3)) := hhq161
        have hhq162 : 60 ≤ ka14 → f1_21 = kf14 ∧ t1_22 = kt14 ∧ w1_23 = kw14 ∧ c1_24 = kc14 := hhq162
        have hhq163 : 0 ≤ k1_20 ∧ k1_20 ≤ 60 := hhq163
        change Rn _ _ _ 75 _ [.int (iv bb_19)] _ _ _ _ _
        have hapq25 : arP f1_21 t1_22 w1_23 c1_24 k1_20 (rz : Int) := ar_add (by assumption) (by omega) (by omega) (by omega) (by omega) (by omega) hhq160 hhq161 hhq162
        have hc0 := hhq160
        have hc1 := hhq161
        have hrow : (mlE F T W C Q) (Int.toNat v14_3) = [(Q (Int.toNat (F (Int.toNat v14_3))), Q (Int.toNat (T (Int.toNat v14_3))), W (Int.toNat v14_3), C (Int.toNat v14_3))] := sel_y (by omega)
        have hpl9 : PL ([] ++ acc (mlE F T W C Q) (Int.toNat (v14_3 + 1))) k1_20 f1_21 t1_22 w1_23 c1_24 := PL_add (by assumption) (by omega) hrow hc0 hc1 (by omega)
        refine r_pop (pc := 75) dX1_drawMelted_75 rfl ?_
        refine r_iinc (pc := 76) (v := iv (v14_3 + 1)) (lv' := [(3, .int (iv (v14_3 + 1))), (5, .int (iv (Q (Int.toNat (T (Int.toNat v14_3)))))), (4, .int (iv (Q (Int.toNat (F (Int.toNat v14_3)))))), (0, .ref s), (1, .ref ga), (2, .ref ra)]) dX1_drawMelted_76 rfl (iv_add _ _) (by decide) rfl ?_
        refine r_goto (pc := 79) (tgt := 14) dX1_drawMelted_79 (by decide) ?_
        refine Rn.pick (lv' := [(0, .ref s), (1, .ref ga), (2, .ref ra), (3, .int (iv (v14_3 + 1)))]) [3, 4, 5, 0] rfl ?_
        exact ih14 (Int.toNat (60 - (v14_3 + 1))) (by omega) k1_20 f1_21 t1_22 w1_23 c1_24 _ ht18 (v14_3 + 1) ⟨by omega, by omega, by omega, by omega, by omega, by omega, by assumption, by (first | assumption | exact PL_n (by assumption) (by omega) (sel_n (by omega)))⟩ (by omega)
  refine Rn.pick (lv' := [(0, .ref s), (1, .ref ga), (2, .ref ra), (3, .int (iv 0))]) [1, 2, 3, 0] rfl ?_
  exact B14 (Int.toNat (60 - 0)) 0 kf kt kw kc _ ht6 0 ⟨by omega, by omega, by omega, by omega, by omega, by omega, by assumption, by (first | assumption | exact PL_n (by assumption) (by omega) (sel_n (by omega)))⟩ (by omega)
def qd_X1_draw (Γ : TG) (cI cJ cZ cT : ClassId) (s : Nat) (n : Nat) (kn : Int) (kd : Int) (ka : Int) (kf : Nat → Int) (kt : Nat → Int) (kw : Nat → Int) (kc : Nat → Int) (lt : Nat → Int) (ga : Nat) (gF : Nat) (gT : Nat) (gW : Nat) (gC : Nat) (gTl : Nat) (gHd : Nat) (gBy : Nat) (gOu : Nat) (gIn : Nat) (gJo : Nat) (gn : Nat) (gm : Nat) (gq : Nat) (gdr : Int) (x2 x3 : Int) (F T W C Tl Hd By Ou In Jo : Nat → Int) : Option Value → MH → Nat → Prop := fun r hp1 n1 => n1 = n ∧ ∃ (n1 : Int) (d1 : Int) (k1 : Int) (f1 : Nat → Int) (t1 : Nat → Int) (w1 : Nat → Int) (c1 : Nat → Int) (l1 : Nat → Int) (bb : Int), Tw (DX Γ cI cJ cZ cT s n1 d1 k1 f1 t1 w1 c1 l1) hp1 ∧ r = some (.int (iv bb)) ∧ (1 ≤ n1 ∧ n1 ≤ 16) ∧ (0 ≤ d1 ∧ d1 ≤ 1) ∧ (0 ≤ k1 ∧ k1 ≤ 60) ∧ (arP f1 t1 w1 c1 k1 n1) ∧ (Rfx 256 (-1000) 5000 l1) ∧ (drwP (vwL gn gm gdr F T W C x2 x3) bb k1 f1 t1 w1 c1) ∧ (n1 = (if x2 = 4 then bcI x3 16 else if x2 = 7 then (gm : Int) else (gn : Int))) ∧ (d1 = (if x2 = 1 then 0 else gdr))
set_option maxHeartbeats 4000000 in
set_option maxRecDepth 100000 in
theorem d_X1_draw {D : va_G} {cI cJ cZ cT : ClassId} {lo b L : Nat} {xs : Nat → Int32} {hp : MH} {n d : Nat} {Γ : TG} {s : Nat} {kn : Int} {kd : Int} {ka : Int} {kf : Nat → Int} {kt : Nat → Int} {kw : Nat → Int} {kc : Nat → Int} {lt : Nat → Int} {ga : Nat} {gF : Nat} {gT : Nat} {gW : Nat} {gC : Nat} {gTl : Nat} {gHd : Nat} {gBy : Nat} {gOu : Nat} {gIn : Nat} {gJo : Nat} {gn : Nat} {gm : Nat} {gq : Nat} {gdr : Int} {x2 x3 : Int} {F T W C Tl Hd By Ou In Jo : Nat → Int} {pos : Nat → Nat} (hd0 : 4 ≤ d) (hg : TyG Γ cI cJ cZ ga gF gT gW gC gTl gHd gBy gOu gIn gJo gn gm gq gdr) (hltg : s + 6 ≤ ga ∧ s + 6 ≤ gF ∧ s + 6 ≤ gT ∧ s + 6 ≤ gW ∧ s + 6 ≤ gC ∧ s + 6 ≤ gTl ∧ s + 6 ≤ gHd ∧ s + 6 ≤ gBy ∧ s + 6 ≤ gOu ∧ s + 6 ≤ gIn ∧ s + 6 ≤ gJo) (hn_kn : 1 ≤ kn ∧ kn ≤ 16) (hn_kd : 0 ≤ kd ∧ kd ≤ 1) (hn_ka : 0 ≤ ka ∧ ka ≤ 60) (ht : Tw (DX Γ cI cJ cZ cT s kn kd ka kf kt kw kc lt) hp) (hx2 : 0 ≤ x2 ∧ x2 ≤ 7) (hx3 : (-2147483648) ≤ x3 ∧ x3 ≤ 2147483647) (hlt9 : Rfx 256 (-1000) 5000 lt) (hxg : XG Γ cI gF gT gW gC gTl gHd gBy gOu gIn gJo gn gm gq F T W C Tl Hd By Ou In Jo) (hgo : GoS gm gq gdr F T Tl Hd By pos) (hm9 : (x2 = 4 → 1 ≤ x3 ∧ x3 ≤ 65535) ∧ (x2 = 7 → 1 ≤ (gm : Int) ∧ (gm : Int) ≤ 16)) : Mt (gG D cI cJ cZ cT lo b L xs) mX1_draw d 0 0 [.ref s, .ref ga, .int (iv x2), .int (iv x3)] hp n (qd_X1_draw Γ cI cJ cZ cT s n kn kd ka kf kt kw kc lt ga gF gT gW gC gTl gHd gBy gOu gIn gJo gn gm gq gdr x2 x3 F T W C Tl Hd By Ou In Jo) := by
  refine Mt.of rfl (Nat.le_of_ble_eq_true rfl) ?_
  refine Rn.pick (lv' := [(0, .ref s), (1, .ref ga), (2, .int (iv x2)), (3, .int (iv x3))]) [0, 1, 2, 3] rfl ?_
  obtain ⟨hg_O, hg_from, hg_to, hg_weight, hg_cost, hg_tail, hg_head, hg_by, hg_out, hg_in, hg_joined, hg_b⟩ := id hg
  obtain ⟨⟨hxg_F, hxg_T, hxg_W, hxg_C, hxg_Tl, hxg_Hd, hxg_By, hxg_Ou, hxg_In, hxg_Jo⟩, ⟨hrg_F, hrg_T, hrg_W, hrg_C, hrg_Tl, hrg_Hd, hrg_By, hrg_Ou, hrg_In, hrg_Jo⟩, houg⟩ := id hxg
  refine r_iload_n (pc := 0) dX1_draw_0 (i := 2) rfl rfl ?_
  by_cases c1 : x2 = 4
  · refine r_tableIn (pc := 1) (off := 31) (tgt := 32) dX1_draw_1 (by rw [iv_toInt (by omega) (by omega)]; omega) (by rw [iv_toInt (by omega) (by omega)]; omega) (by rw [iv_toInt (by omega) (by omega), c1]; decide) (by decide) ?_
    refine r_aload_n (pc := 32) dX1_draw_32 (i := 0) rfl rfl ?_
    refine r_aload_n (pc := 33) dX1_draw_33 (i := 1) rfl rfl ?_
    refine r_iload_n (pc := 34) dX1_draw_34 (i := 3) rfl rfl ?_
    obtain ⟨fs6, hfs6⟩ := t_obj ht (rd_of DX_0)
    refine r_callV (pc := 35) (as := [.ref ga, .int (iv x3)]) (st := []) kX1_45 rfl dX1_draw_35 hfs6 (d_X1_drawPart (d := d - 1) (x2 := x3) (by omega) hg hltg (by omega) (by omega) (by omega) ht (by omega) (by assumption) hxg ) rfl (by omega) (Nat.le_of_ble_eq_true rfl) (Nat.zero_le _) (Nat.zero_le _) rfl (fun r3 hp2 n4 hq5 => ?_)
    obtain ⟨hnn4, n1_8, d1_9, k1_10, f1_11, t1_12, w1_13, c1_14, l1_15, bb_16, ht7, hrr3, hhq50, hhq51, hhq52, hhq53, hhq54, hhq55, hhq56, hhq57⟩ := hq5
    subst n4 r3
    have hhq50 : 1 ≤ n1_8 ∧ n1_8 ≤ 16 := hhq50
    have hhq51 : 0 ≤ d1_9 ∧ d1_9 ≤ 1 := hhq51
    have hhq52 : 0 ≤ k1_10 ∧ k1_10 ≤ 60 := hhq52
    have hhq53 : arP f1_11 t1_12 w1_13 c1_14 k1_10 n1_8 := hhq53
    have hhq54 : Rfx 256 (-1000) 5000 l1_15 := hhq54
    have hhq55 : drwP (acc (kpL gm gdr F T W C 4 x3) gm) bb_16 k1_10 f1_11 t1_12 w1_13 c1_14 := hhq55
    have hhq56 : n1_8 = (bcI x3 16) := hhq56
    have hhq57 : d1_9 = gdr := hhq57
    change Rn _ _ _ 38 _ [.int (iv bb_16)] _ _ _ _ _
    have hbb9 := drw_b hhq55
    exact r_zret (pc := 38) dX1_draw_38 rfl (iv_nar (by omega)) ⟨rfl, n1_8, d1_9, k1_10, f1_11, t1_12, w1_13, c1_14, l1_15, bb_16, ht7, rfl, (by omega), (by omega), (by omega), (by (first | assumption | exact ar_0 _ _ _ _ _)), (by assumption), (by (rw [show (vwL gn gm gdr F T W C x2 x3) = acc (kpL gm gdr F T W C 4 x3) gm by (unfold vwL; rw [if_neg (by omega), if_neg (by omega), show x2 = 4 by omega])]; exact hhq55)), (by ((repeat' split) <;> omega)), (by ((repeat' split) <;> omega))⟩
  by_cases c17 : x2 = 5
  · refine r_tableIn (pc := 1) (off := 50) (tgt := 51) dX1_draw_1 (by rw [iv_toInt (by omega) (by omega)]; omega) (by rw [iv_toInt (by omega) (by omega)]; omega) (by rw [iv_toInt (by omega) (by omega), c17]; decide) (by decide) ?_
    refine r_aload_n (pc := 51) dX1_draw_51 (i := 0) rfl rfl ?_
    refine r_aload_n (pc := 52) dX1_draw_52 (i := 1) rfl rfl ?_
    refine r_iload_n (pc := 53) dX1_draw_53 (i := 2) rfl rfl ?_
    refine r_iload_n (pc := 54) dX1_draw_54 (i := 3) rfl rfl ?_
    obtain ⟨fs22, hfs22⟩ := t_obj ht (rd_of DX_0)
    refine r_callV (pc := 55) (as := [.ref ga, .int (iv x2), .int (iv x3)]) (st := []) kX1_56 rfl dX1_draw_55 hfs22 (d_X1_drawKept (d := d - 1) (x2 := x2) (x3 := x3) (by omega) hg hltg (by omega) (by omega) (by omega) ht (by omega) (by omega) (by assumption) hxg (by omega)) rfl (by omega) (Nat.le_of_ble_eq_true rfl) (Nat.zero_le _) (Nat.zero_le _) rfl (fun r19 hp18 n20 hq21 => ?_)
    obtain ⟨hnn20, n1_24, d1_25, k1_26, f1_27, t1_28, w1_29, c1_30, l1_31, bb_32, ht23, hrr19, hhq210, hhq211, hhq212, hhq213, hhq214, hhq215, hhq216, hhq217⟩ := hq21
    subst n20 r19
    have hhq210 : 1 ≤ n1_24 ∧ n1_24 ≤ 16 := hhq210
    have hhq211 : 0 ≤ d1_25 ∧ d1_25 ≤ 1 := hhq211
    have hhq212 : 0 ≤ k1_26 ∧ k1_26 ≤ 60 := hhq212
    have hhq213 : arP f1_27 t1_28 w1_29 c1_30 k1_26 n1_24 := hhq213
    have hhq214 : Rfx 256 (-1000) 5000 l1_31 := hhq214
    have hhq215 : drwP (acc (kpL gm gdr F T W C x2 x3) gm) bb_32 k1_26 f1_27 t1_28 w1_29 c1_30 := hhq215
    have hhq216 : n1_24 = (gn : Int) := hhq216
    have hhq217 : d1_25 = (if x2 = 1 then 0 else gdr) := hhq217
    change Rn _ _ _ 58 _ [.int (iv bb_32)] _ _ _ _ _
    have hbb9 := drw_b hhq215
    exact r_zret (pc := 58) dX1_draw_58 rfl (iv_nar (by omega)) ⟨rfl, n1_24, d1_25, k1_26, f1_27, t1_28, w1_29, c1_30, l1_31, bb_32, ht23, rfl, (by omega), (by omega), (by omega), (by (first | assumption | exact ar_0 _ _ _ _ _)), (by assumption), (by (rw [show (vwL gn gm gdr F T W C x2 x3) = acc (kpL gm gdr F T W C x2 x3) gm by (unfold vwL; rw [if_neg (by omega), if_neg (by omega)])]; exact hhq215)), (by ((repeat' split) <;> omega)), (by ((repeat' split) <;> omega))⟩
  by_cases c33 : x2 = 6
  · refine r_tableIn (pc := 1) (off := 38) (tgt := 39) dX1_draw_1 (by rw [iv_toInt (by omega) (by omega)]; omega) (by rw [iv_toInt (by omega) (by omega)]; omega) (by rw [iv_toInt (by omega) (by omega), c33]; decide) (by decide) ?_
    refine r_aload_n (pc := 39) dX1_draw_39 (i := 0) rfl rfl ?_
    refine r_aload_n (pc := 40) dX1_draw_40 (i := 1) rfl rfl ?_
    obtain ⟨fs38, hfs38⟩ := t_obj ht (rd_of DX_0)
    refine r_callV (pc := 41) (as := [.ref ga]) (st := []) kX1_49 rfl dX1_draw_41 hfs38 (d_X1_drawSquared (d := d - 1)  (by omega) hg hltg (by omega) (by omega) (by omega) ht  (by assumption) hxg hgo) rfl (by omega) (Nat.le_of_ble_eq_true rfl) (Nat.zero_le _) (Nat.zero_le _) rfl (fun r35 hp34 n36 hq37 => ?_)
    obtain ⟨hnn36, n1_40, d1_41, k1_42, f1_43, t1_44, w1_45, c1_46, l1_47, bb_48, ht39, hrr35, hhq370, hhq371, hhq372, hhq373, hhq374, hhq375, hhq376, hhq377⟩ := hq37
    subst n36 r35
    have hhq370 : 1 ≤ n1_40 ∧ n1_40 ≤ 16 := hhq370
    have hhq371 : 0 ≤ d1_41 ∧ d1_41 ≤ 1 := hhq371
    have hhq372 : 0 ≤ k1_42 ∧ k1_42 ≤ 60 := hhq372
    have hhq373 : arP f1_43 t1_44 w1_45 c1_46 k1_42 n1_40 := hhq373
    have hhq374 : Rfx 256 (-1000) 5000 l1_47 := hhq374
    have hhq375 : drwP (acc (sqL gn gm gdr F T W) gn) bb_48 k1_42 f1_43 t1_44 w1_45 c1_46 := hhq375
    have hhq376 : n1_40 = (gn : Int) := hhq376
    have hhq377 : d1_41 = gdr := hhq377
    change Rn _ _ _ 44 _ [.int (iv bb_48)] _ _ _ _ _
    have hbb9 := drw_b hhq375
    exact r_zret (pc := 44) dX1_draw_44 rfl (iv_nar (by omega)) ⟨rfl, n1_40, d1_41, k1_42, f1_43, t1_44, w1_45, c1_46, l1_47, bb_48, ht39, rfl, (by omega), (by omega), (by omega), (by (first | assumption | exact ar_0 _ _ _ _ _)), (by assumption), (by (rw [show (vwL gn gm gdr F T W C x2 x3) = acc (sqL gn gm gdr F T W) gn by (unfold vwL; rw [if_pos (by omega)])]; exact hhq375)), (by ((repeat' split) <;> omega)), (by ((repeat' split) <;> omega))⟩
  by_cases c49 : x2 = 7
  · refine r_tableIn (pc := 1) (off := 44) (tgt := 45) dX1_draw_1 (by rw [iv_toInt (by omega) (by omega)]; omega) (by rw [iv_toInt (by omega) (by omega)]; omega) (by rw [iv_toInt (by omega) (by omega), c49]; decide) (by decide) ?_
    refine r_aload_n (pc := 45) dX1_draw_45 (i := 0) rfl rfl ?_
    refine r_aload_n (pc := 46) dX1_draw_46 (i := 1) rfl rfl ?_
    obtain ⟨fs54, hfs54⟩ := t_obj ht (rd_of DX_0)
    refine r_callV (pc := 47) (as := [.ref ga]) (st := []) kX1_53 rfl dX1_draw_47 hfs54 (d_X1_drawLines (d := d - 1)  (by omega) hg hltg (by omega) (by omega) (by omega) ht  (by assumption) hxg (by omega)) rfl (by omega) (Nat.le_of_ble_eq_true rfl) (Nat.zero_le _) (Nat.zero_le _) rfl (fun r51 hp50 n52 hq53 => ?_)
    obtain ⟨hnn52, n1_56, d1_57, k1_58, f1_59, t1_60, w1_61, c1_62, l1_63, bb_64, ht55, hrr51, hhq530, hhq531, hhq532, hhq533, hhq534, hhq535, hhq536, hhq537⟩ := hq53
    subst n52 r51
    have hhq530 : 1 ≤ n1_56 ∧ n1_56 ≤ 16 := hhq530
    have hhq531 : 0 ≤ d1_57 ∧ d1_57 ≤ 1 := hhq531
    have hhq532 : 0 ≤ k1_58 ∧ k1_58 ≤ 60 := hhq532
    have hhq533 : arP f1_59 t1_60 w1_61 c1_62 k1_58 n1_56 := hhq533
    have hhq534 : Rfx 256 (-1000) 5000 l1_63 := hhq534
    have hhq535 : drwP (acc (lnL gm gdr F T) gm) bb_64 k1_58 f1_59 t1_60 w1_61 c1_62 := hhq535
    have hhq536 : n1_56 = (gm : Int) := hhq536
    have hhq537 : d1_57 = gdr := hhq537
    change Rn _ _ _ 50 _ [.int (iv bb_64)] _ _ _ _ _
    have hbb9 := drw_b hhq535
    exact r_zret (pc := 50) dX1_draw_50 rfl (iv_nar (by omega)) ⟨rfl, n1_56, d1_57, k1_58, f1_59, t1_60, w1_61, c1_62, l1_63, bb_64, ht55, rfl, (by omega), (by omega), (by omega), (by (first | assumption | exact ar_0 _ _ _ _ _)), (by assumption), (by (rw [show (vwL gn gm gdr F T W C x2 x3) = acc (lnL gm gdr F T) gm by (unfold vwL; rw [if_neg (by omega), if_pos (by omega)])]; exact hhq535)), (by ((repeat' split) <;> omega)), (by ((repeat' split) <;> omega))⟩
  refine r_tableOut (pc := 1) (tgt := 51) dX1_draw_1 (by rw [iv_toInt (by omega) (by omega)]; omega) (by decide) ?_
  refine r_aload_n (pc := 51) dX1_draw_51 (i := 0) rfl rfl ?_
  refine r_aload_n (pc := 52) dX1_draw_52 (i := 1) rfl rfl ?_
  refine r_iload_n (pc := 53) dX1_draw_53 (i := 2) rfl rfl ?_
  refine r_iload_n (pc := 54) dX1_draw_54 (i := 3) rfl rfl ?_
  obtain ⟨fs69, hfs69⟩ := t_obj ht (rd_of DX_0)
  refine r_callV (pc := 55) (as := [.ref ga, .int (iv x2), .int (iv x3)]) (st := []) kX1_56 rfl dX1_draw_55 hfs69 (d_X1_drawKept (d := d - 1) (x2 := x2) (x3 := x3) (by omega) hg hltg (by omega) (by omega) (by omega) ht (by omega) (by omega) (by assumption) hxg (by omega)) rfl (by omega) (Nat.le_of_ble_eq_true rfl) (Nat.zero_le _) (Nat.zero_le _) rfl (fun r66 hp65 n67 hq68 => ?_)
  obtain ⟨hnn67, n1_71, d1_72, k1_73, f1_74, t1_75, w1_76, c1_77, l1_78, bb_79, ht70, hrr66, hhq680, hhq681, hhq682, hhq683, hhq684, hhq685, hhq686, hhq687⟩ := hq68
  subst n67 r66
  have hhq680 : 1 ≤ n1_71 ∧ n1_71 ≤ 16 := hhq680
  have hhq681 : 0 ≤ d1_72 ∧ d1_72 ≤ 1 := hhq681
  have hhq682 : 0 ≤ k1_73 ∧ k1_73 ≤ 60 := hhq682
  have hhq683 : arP f1_74 t1_75 w1_76 c1_77 k1_73 n1_71 := hhq683
  have hhq684 : Rfx 256 (-1000) 5000 l1_78 := hhq684
  have hhq685 : drwP (acc (kpL gm gdr F T W C x2 x3) gm) bb_79 k1_73 f1_74 t1_75 w1_76 c1_77 := hhq685
  have hhq686 : n1_71 = (gn : Int) := hhq686
  have hhq687 : d1_72 = (if x2 = 1 then 0 else gdr) := hhq687
  change Rn _ _ _ 58 _ [.int (iv bb_79)] _ _ _ _ _
  have hbb9 := drw_b hhq685
  exact r_zret (pc := 58) dX1_draw_58 rfl (iv_nar (by omega)) ⟨rfl, n1_71, d1_72, k1_73, f1_74, t1_75, w1_76, c1_77, l1_78, bb_79, ht70, rfl, (by omega), (by omega), (by omega), (by (first | assumption | exact ar_0 _ _ _ _ _)), (by assumption), (by (rw [show (vwL gn gm gdr F T W C x2 x3) = acc (kpL gm gdr F T W C x2 x3) gm by (unfold vwL; rw [if_neg (by omega), if_neg (by omega)])]; exact hhq685)), (by ((repeat' split) <;> omega)), (by ((repeat' split) <;> omega))⟩
