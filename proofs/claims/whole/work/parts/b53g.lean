set_option maxHeartbeats 4000000 in
set_option maxRecDepth 100000 in
theorem d_X1_drawKept {D : va_G} {cI cJ cZ cT : ClassId} {lo b L : Nat} {xs : Nat → Int32} {hp : MH} {n d : Nat} {Γ : TG} {s : Nat} {kn : Int} {kd : Int} {ka : Int} {kf : Nat → Int} {kt : Nat → Int} {kw : Nat → Int} {kc : Nat → Int} {lt : Nat → Int} {ga : Nat} {gF : Nat} {gT : Nat} {gW : Nat} {gC : Nat} {gTl : Nat} {gHd : Nat} {gBy : Nat} {gOu : Nat} {gIn : Nat} {gJo : Nat} {gn : Nat} {gm : Nat} {gq : Nat} {gdr : Int} {x2 x3 : Int} {F T W C Tl Hd By Ou In Jo : Nat → Int} (hd0 : 3 ≤ d) (hg : TyG Γ cI cJ cZ ga gF gT gW gC gTl gHd gBy gOu gIn gJo gn gm gq gdr) (hltg : s + 6 ≤ ga ∧ s + 6 ≤ gF ∧ s + 6 ≤ gT ∧ s + 6 ≤ gW ∧ s + 6 ≤ gC ∧ s + 6 ≤ gTl ∧ s + 6 ≤ gHd ∧ s + 6 ≤ gBy ∧ s + 6 ≤ gOu ∧ s + 6 ≤ gIn ∧ s + 6 ≤ gJo) (hn_kn : 1 ≤ kn ∧ kn ≤ 16) (hn_kd : 0 ≤ kd ∧ kd ≤ 1) (hn_ka : 0 ≤ ka ∧ ka ≤ 60) (ht : Tw (DX Γ cI cJ cZ cT s kn kd ka kf kt kw kc lt) hp) (hx2 : 0 ≤ x2 ∧ x2 ≤ 7) (hx3 : (-2147483648) ≤ x3 ∧ x3 ≤ 2147483647) (hlt9 : Rfx 256 (-1000) 5000 lt) (hxg : XG Γ cI gF gT gW gC gTl gHd gBy gOu gIn gJo gn gm gq F T W C Tl Hd By Ou In Jo) (hn4 : x2 ≠ 4) : Mt (gG D cI cJ cZ cT lo b L xs) mX1_drawKept d 0 0 [.ref s, .ref ga, .int (iv x2), .int (iv x3)] hp n (qd_X1_drawKept Γ cI cJ cZ cT s n kn kd ka kf kt kw kc lt ga gF gT gW gC gTl gHd gBy gOu gIn gJo gn gm gq gdr x2 x3 F T W C Tl Hd By Ou In Jo) := by
  refine Mt.of rfl (Nat.le_of_ble_eq_true rfl) ?_
  refine Rn.pick (lv' := [(0, .ref s), (1, .ref ga), (2, .int (iv x2)), (3, .int (iv x3))]) [0, 1, 2, 3] rfl ?_
  obtain ⟨hg_O, hg_from, hg_to, hg_weight, hg_cost, hg_tail, hg_head, hg_by, hg_out, hg_in, hg_joined, hg_b⟩ := id hg
  obtain ⟨⟨hxg_F, hxg_T, hxg_W, hxg_C, hxg_Tl, hxg_Hd, hxg_By, hxg_Ou, hxg_In, hxg_Jo⟩, ⟨hrg_F, hrg_T, hrg_W, hrg_C, hrg_Tl, hrg_Hd, hrg_By, hrg_Ou, hrg_In, hrg_Jo⟩, houg⟩ := id hxg
  refine r_aload_n (pc := 0) dX1_drawKept_0 (i := 0) rfl rfl ?_
  refine r_aload_n (pc := 1) dX1_drawKept_1 (i := 1) rfl rfl ?_
  refine t_getE (pc := 2) (.int (iv (gn : Int))) ht (rd_DX (by omega) hg_O) fX1_60 dX1_drawKept_2 rfl ?_
  refine r_aload_n (pc := 5) dX1_drawKept_5 (i := 1) rfl rfl ?_
  refine t_getE (pc := 6) (.int (iv gdr)) ht (rd_DX (by omega) hg_O) fX1_61 dX1_drawKept_6 rfl ?_
  refine t_if_eq (pc := 9) (tgt := 21) dX1_drawKept_9 (by decide) (by omega) (fun c9 => ?_) (fun c9 => ?_)
  · refine r_iconst (pc := 21) (v := iv 0) dX1_drawKept_21 (by decide) ?_
    obtain ⟨fs5, hfs5⟩ := t_obj ht (rd_of DX_0)
    refine r_callV (pc := 22) (as := [.int (iv (gn : Int)), .int (iv 0)]) (st := []) kX1_62 rfl dX1_drawKept_22 hfs5 (d_X1_restart (d := d - 1) (x1 := (gn : Int)) (x2 := 0) (by omega)  ht (by omega) (by omega)) rfl (by omega) (Nat.le_of_ble_eq_true rfl) (Nat.zero_le _) (Nat.zero_le _) rfl (fun r2 hp1 n3 hq4 => ?_)
    obtain ⟨hnn3, ht6, hrr2⟩ := hq4
    subst n3 r2
    change Rn _ _ _ 25 _ [] _ _ _ _ _
    have ha0 : arP kf kt kw kc 0 (gn : Int) := ar_0 _ _ _ _ _
    have hpl0 : PL ([] ++ acc (kpL gm gdr F T W C x2 x3) (Int.toNat 0)) 0 kf kt kw kc := PL_0 _ _ _ _
    refine r_iconst (pc := 25) (v := iv 1) dX1_drawKept_25 (by decide) ?_
    refine r_istore (pc := 26) (lv' := [(4, .int (iv 1)), (0, .ref s), (1, .ref ga), (2, .int (iv x2)), (3, .int (iv x3))]) dX1_drawKept_26 (by decide) rfl ?_
    refine r_iconst (pc := 28) (v := iv 0) dX1_drawKept_28 (by decide) ?_
    refine r_istore (pc := 29) (lv' := [(5, .int (iv 0)), (4, .int (iv 1)), (0, .ref s), (1, .ref ga), (2, .int (iv x2)), (3, .int (iv x3))]) dX1_drawKept_29 (by decide) rfl ?_
    have B31 : ∀ k : Nat, ∀ ka31 : Int, ∀ kf31 : Nat → Int, ∀ kt31 : Nat → Int, ∀ kw31 : Nat → Int, ∀ kc31 : Nat → Int, ∀ hp31 : MH, Tw (DX Γ cI cJ cZ cT s (gn : Int) 0 ka31 kf31 kt31 kw31 kc31 lt) hp31 → ∀  (v31_4 : Int) (v31_5 : Int), 0 ≤ v31_4 ∧ v31_4 ≤ 1 ∧ 0 ≤ v31_5 ∧ v31_5 ≤ 60 ∧ (0 ≤ ka31) ∧ (ka31 ≤ 60) ∧ (ka31 ≤ v31_5) ∧ (v31_5 ≤ (gm : Int)) ∧ (v31_4 = 1) ∧ (arP kf31 kt31 kw31 kc31 ka31 (gn : Int)) ∧ (PL ([] ++ acc (kpL gm gdr F T W C x2 x3) (Int.toNat v31_5)) ka31 kf31 kt31 kw31 kc31) → 60 - v31_5 ≤ (k : Int) → Rn (gG D cI cJ cZ cT lo b L xs) mX1_drawKept d 31 [(0, .ref s), (1, .ref ga), (2, .int (iv x2)), (3, .int (iv x3)), (4, .int (iv v31_4)), (5, .int (iv v31_5))] [] hp31 n 0 0 (qd_X1_drawKept Γ cI cJ cZ cT s n kn kd ka kf kt kw kc lt ga gF gT gW gC gTl gHd gBy gOu gIn gJo gn gm gq gdr x2 x3 F T W C Tl Hd By Ou In Jo) := by
      refine lpS _ ?_
      intro k31 ih31 ka31 kf31 kt31 kw31 kc31 hp31 ht31 v31_4 v31_5 hf31 hm31
      obtain ⟨hf31_0, hf31_1, hf31_2, hf31_3, hf31_4, hf31_5, hf31_6, hf31_7, hf31_8, ha31_9, ha31_10⟩ := hf31
      refine r_iload (pc := 31) dX1_drawKept_31 rfl ?_
      refine r_aload_n (pc := 33) dX1_drawKept_33 (i := 1) rfl rfl ?_
      refine t_getE (pc := 34) (.int (iv (gm : Int))) ht31 (rd_DX (by omega) hg_O) fX1_44 dX1_drawKept_34 rfl ?_
      refine t_icmp_ge (pc := 37) (tgt := 140) dX1_drawKept_37 (by decide) (by omega) (by omega) (fun c37 => ?_) (fun c37 => ?_)
      · refine r_iload (pc := 140) dX1_drawKept_140 rfl ?_
        exact r_zret (pc := 142) dX1_drawKept_142 rfl (iv_nar (by omega)) ⟨rfl, (gn : Int), 0, ka31, kf31, kt31, kw31, kc31, lt, v31_4, ht31, rfl, (by omega), (by omega), (by omega), (by (first | assumption | exact ar_0 _ _ _ _ _)), (by assumption), (by (rw [show v31_4 = 1 by omega]; have h8 : PL ([] ++ acc (kpL gm gdr F T W C x2 x3) (Int.toNat v31_5)) _ _ _ _ _ := (by assumption); rw [show v31_5 = (gm : Int) by omega, Int.toNat_natCast] at h8; exact dr_y h8 (by omega))), (by ((repeat' split) <;> omega)), (by ((repeat' split) <;> omega))⟩
      · refine r_aload_n (pc := 40) dX1_drawKept_40 (i := 1) rfl rfl ?_
        refine r_iload_n (pc := 41) dX1_drawKept_41 (i := 2) rfl rfl ?_
        refine r_iload_n (pc := 42) dX1_drawKept_42 (i := 3) rfl rfl ?_
        refine r_iload (pc := 43) dX1_drawKept_43 rfl ?_
        refine t_callSI (pc := 45) (as := [.ref ga, .int (iv x2), .int (iv x3), .int (iv v31_5)]) (st := []) kX1_66 dX1_drawKept_45 (c_X1_isKeptx (d := d - 1) (x1 := x2) (x2 := x3) (x3 := v31_5) (by omega) (TyG.dx (by omega) hg) (XG.dx (by omega) hxg) ht31 (by omega) (by omega) (by omega) (by omega)) rfl (by omega) (Nat.le_of_ble_eq_true rfl) rfl (fun hp8 y7 ht9 by7 => ?_)
        have fy7 : ((0 ≤ y7 ∧ y7 ≤ 1) ∧ (x2 ≠ 4 → (y7 = 1 ↔ kpP gm gdr F T W x2 x3 (Int.toNat v31_5)))) := by7
        have fk := fy7
        refine t_if_eq (pc := 48) (tgt := 134) dX1_drawKept_48 (by decide) (by omega) (fun c48 => ?_) (fun c48 => ?_)
        · refine r_iinc (pc := 134) (v := iv (v31_5 + 1)) (lv' := [(5, .int (iv (v31_5 + 1))), (0, .ref s), (1, .ref ga), (2, .int (iv x2)), (3, .int (iv x3)), (4, .int (iv v31_4))]) dX1_drawKept_134 rfl (iv_add _ _) (by decide) rfl ?_
          refine r_goto (pc := 137) (tgt := 31) dX1_drawKept_137 (by decide) ?_
          refine Rn.pick (lv' := [(0, .ref s), (1, .ref ga), (2, .int (iv x2)), (3, .int (iv x3)), (4, .int (iv v31_4)), (5, .int (iv (v31_5 + 1)))]) [1, 2, 3, 4, 5, 0] rfl ?_
          exact ih31 (Int.toNat (60 - (v31_5 + 1))) (by omega) ka31 kf31 kt31 kw31 kc31 _ ht9 v31_4 (v31_5 + 1) ⟨by omega, by omega, by omega, by omega, by omega, by omega, by omega, by omega, by omega, by assumption, by (first | assumption | exact PL_n (by assumption) (by omega) (sel_n (fun h9 => by have h8 := (fk.2 (by omega)).mpr h9; omega)))⟩ (by omega)
        · refine r_iload_n (pc := 51) dX1_drawKept_51 (i := 2) rfl rfl ?_
          refine t_if_ne (pc := 52) (tgt := 65) dX1_drawKept_52 (by decide) (by omega) (fun c52 => ?_) (fun c52 => ?_)
          · refine r_aload_n (pc := 65) dX1_drawKept_65 (i := 1) rfl rfl ?_
            refine t_getE (pc := 66) (.ref gF) ht9 (rd_DX (by omega) hg_O) fX1_71 dX1_drawKept_66 rfl ?_
            refine r_iload (pc := 69) dX1_drawKept_69 rfl ?_
            refine t_ialdX (pc := 71) (t0 := 0) ht9 (rd_DX (by omega) hxg_F) dX1_drawKept_71 rfl (by omega) (by omega) (fun b10 => ?_)
            have rb10 := (show Rfx gm 0 ((gn : Int) - 1) F by assumption) (Int.toNat v31_5) (by omega)
            refine r_istore (pc := 72) (lv' := [(6, .int (iv (F (Int.toNat v31_5)))), (0, .ref s), (1, .ref ga), (2, .int (iv x2)), (3, .int (iv x3)), (4, .int (iv v31_4)), (5, .int (iv v31_5))]) dX1_drawKept_72 (by decide) rfl ?_
            refine r_iload_n (pc := 74) dX1_drawKept_74 (i := 2) rfl rfl ?_
            refine t_if_ne (pc := 75) (tgt := 88) dX1_drawKept_75 (by decide) (by omega) (fun c75 => ?_) (fun c75 => ?_)
            · refine r_aload_n (pc := 88) dX1_drawKept_88 (i := 1) rfl rfl ?_
              refine t_getE (pc := 89) (.ref gT) ht9 (rd_DX (by omega) hg_O) fX1_70 dX1_drawKept_89 rfl ?_
              refine r_iload (pc := 92) dX1_drawKept_92 rfl ?_
              refine t_ialdX (pc := 94) (t0 := 0) ht9 (rd_DX (by omega) hxg_T) dX1_drawKept_94 rfl (by omega) (by omega) (fun b11 => ?_)
              have rb11 := (show Rfx gm 0 ((gn : Int) - 1) T by assumption) (Int.toNat v31_5) (by omega)
              refine r_istore (pc := 95) (lv' := [(7, .int (iv (T (Int.toNat v31_5)))), (6, .int (iv (F (Int.toNat v31_5)))), (0, .ref s), (1, .ref ga), (2, .int (iv x2)), (3, .int (iv x3)), (4, .int (iv v31_4)), (5, .int (iv v31_5))]) dX1_drawKept_95 (by decide) rfl ?_
              refine r_aload_n (pc := 97) dX1_drawKept_97 (i := 0) rfl rfl ?_
              refine r_iload (pc := 98) dX1_drawKept_98 rfl ?_
              refine r_iload (pc := 100) dX1_drawKept_100 rfl ?_
              refine r_aload_n (pc := 102) dX1_drawKept_102 (i := 1) rfl rfl ?_
              refine t_getE (pc := 103) (.ref gW) ht9 (rd_DX (by omega) hg_O) fX1_72 dX1_drawKept_103 rfl ?_
              refine r_iload (pc := 106) dX1_drawKept_106 rfl ?_
              refine t_ialdX (pc := 108) (t0 := 0) ht9 (rd_DX (by omega) hxg_W) dX1_drawKept_108 rfl (by omega) (by omega) (fun b12 => ?_)
              have rb12 := (show Rfx gm (-1000) 1000 W by assumption) (Int.toNat v31_5) (by omega)
              refine r_aload_n (pc := 109) dX1_drawKept_109 (i := 1) rfl rfl ?_
              refine t_getE (pc := 110) (.ref gC) ht9 (rd_DX (by omega) hg_O) fX1_73 dX1_drawKept_110 rfl ?_
              refine r_iload (pc := 113) dX1_drawKept_113 rfl ?_
              refine t_ialdX (pc := 115) (t0 := 0) ht9 (rd_DX (by omega) hxg_C) dX1_drawKept_115 rfl (by omega) (by omega) (fun b13 => ?_)
              have rb13 := (show Rfx gm (-1000) 1000 C by assumption) (Int.toNat v31_5) (by omega)
              obtain ⟨fs18, hfs18⟩ := t_obj ht9 (rd_of DX_0)
              refine r_callV (pc := 116) (as := [.int (iv (F (Int.toNat v31_5))), .int (iv (T (Int.toNat v31_5))), .int (iv (W (Int.toNat v31_5))), .int (iv (C (Int.toNat v31_5)))]) (st := []) kX1_74 rfl dX1_drawKept_116 hfs18 (d_X1_add (d := d - 1) (x1 := F (Int.toNat v31_5)) (x2 := T (Int.toNat v31_5)) (x3 := W (Int.toNat v31_5)) (x4 := C (Int.toNat v31_5)) (by omega)  (by omega) ht9 (by omega) (by omega) (by omega) (by omega)) rfl (by omega) (Nat.le_of_ble_eq_true rfl) (Nat.zero_le _) (Nat.zero_le _) rfl (fun r15 hp14 n16 hq17 => ?_)
              obtain ⟨hnn16, bb_20, k1_21, f1_22, t1_23, w1_24, c1_25, ht19, hrr15, hhq170, hhq171, hhq172, hhq173⟩ := hq17
              subst n16 r15
              have hhq170 : (bb_20 = 1 ∧ ka31 < 60 ∧ k1_21 = ka31 + 1) ∨ (bb_20 = 0 ∧ 60 ≤ ka31 ∧ k1_21 = ka31) := hhq170
              have hhq171 : ka31 < 60 → f1_22 = fup kf31 (Int.toNat ka31) (F (Int.toNat v31_5)) ∧ t1_23 = fup kt31 (Int.toNat ka31) (T (Int.toNat v31_5)) ∧ w1_24 = fup kw31 (Int.toNat ka31) (W (Int.toNat v31_5)) ∧ c1_25 = fup kc31 (Int.toNat ka31) (C (Int.toNat v31_5)) := hhq171
              have hhq172 : 60 ≤ ka31 → f1_22 = kf31 ∧ t1_23 = kt31 ∧ w1_24 = kw31 ∧ c1_25 = kc31 := hhq172
              have hhq173 : 0 ≤ k1_21 ∧ k1_21 ≤ 60 := hhq173
              change Rn _ _ _ 119 _ [.int (iv bb_20)] _ _ _ _ _
              have hapq26 : arP f1_22 t1_23 w1_24 c1_25 k1_21 (gn : Int) := ar_add (by assumption) (by omega) (by omega) (by omega) (by omega) (by omega) hhq170 hhq171 hhq172
              have hc0 := hhq170
              have hc1 := hhq171
              have hrow : (kpL gm gdr F T W C x2 x3) (Int.toNat v31_5) = [(F (Int.toNat v31_5), T (Int.toNat v31_5), W (Int.toNat v31_5), C (Int.toNat v31_5))] := by
                show sel _ _ = _
                rw [sel_y ((fk.2 (by omega)).mp (by omega))]
                unfold kpE
                (repeat' split) <;> first | rfl | (exfalso; omega)
              have hpl9 : PL ([] ++ acc (kpL gm gdr F T W C x2 x3) (Int.toNat (v31_5 + 1))) k1_21 f1_22 t1_23 w1_24 c1_25 := PL_add (by assumption) (by omega) hrow hc0 hc1 (by omega)
              refine t_if_eq (pc := 119) (tgt := 131) dX1_drawKept_119 (by decide) (by omega) (fun c119 => ?_) (fun c119 => ?_)
              · refine r_iconst (pc := 131) (v := iv 0) dX1_drawKept_131 (by decide) ?_
                refine r_istore (pc := 132) (lv' := [(4, .int (iv 0)), (7, .int (iv (T (Int.toNat v31_5)))), (6, .int (iv (F (Int.toNat v31_5)))), (0, .ref s), (1, .ref ga), (2, .int (iv x2)), (3, .int (iv x3)), (5, .int (iv v31_5))]) dX1_drawKept_132 (by decide) rfl ?_
                refine r_iinc (pc := 134) (v := iv (v31_5 + 1)) (lv' := [(5, .int (iv (v31_5 + 1))), (4, .int (iv 0)), (7, .int (iv (T (Int.toNat v31_5)))), (6, .int (iv (F (Int.toNat v31_5)))), (0, .ref s), (1, .ref ga), (2, .int (iv x2)), (3, .int (iv x3))]) dX1_drawKept_134 rfl (iv_add _ _) (by decide) rfl ?_
                refine r_goto (pc := 137) (tgt := 31) dX1_drawKept_137 (by decide) ?_
                refine Rn.pick (lv' := [(0, .ref s), (1, .ref ga), (2, .int (iv x2)), (3, .int (iv x3)), (4, .int (iv 0)), (5, .int (iv (v31_5 + 1)))]) [4, 5, 6, 7, 1, 0] rfl ?_
                exact ih31 (Int.toNat (60 - (v31_5 + 1))) (by omega) k1_21 f1_22 t1_23 w1_24 c1_25 _ ht19 0 (v31_5 + 1) ⟨by omega, by omega, by omega, by omega, by omega, by omega, by omega, by omega, by omega, by assumption, by (first | assumption | exact PL_n (by assumption) (by omega) (sel_n (fun h9 => by have h8 := (fk.2 (by omega)).mpr h9; omega)))⟩ (by omega)
              · refine r_iload (pc := 122) dX1_drawKept_122 rfl ?_
                refine t_if_eq (pc := 124) (tgt := 131) dX1_drawKept_124 (by decide) (by omega) (fun c124 => ?_) (fun c124 => ?_)
                · refine r_iconst (pc := 131) (v := iv 0) dX1_drawKept_131 (by decide) ?_
                  refine r_istore (pc := 132) (lv' := [(4, .int (iv 0)), (7, .int (iv (T (Int.toNat v31_5)))), (6, .int (iv (F (Int.toNat v31_5)))), (0, .ref s), (1, .ref ga), (2, .int (iv x2)), (3, .int (iv x3)), (5, .int (iv v31_5))]) dX1_drawKept_132 (by decide) rfl ?_
                  refine r_iinc (pc := 134) (v := iv (v31_5 + 1)) (lv' := [(5, .int (iv (v31_5 + 1))), (4, .int (iv 0)), (7, .int (iv (T (Int.toNat v31_5)))), (6, .int (iv (F (Int.toNat v31_5)))), (0, .ref s), (1, .ref ga), (2, .int (iv x2)), (3, .int (iv x3))]) dX1_drawKept_134 rfl (iv_add _ _) (by decide) rfl ?_
                  refine r_goto (pc := 137) (tgt := 31) dX1_drawKept_137 (by decide) ?_
                  refine Rn.pick (lv' := [(0, .ref s), (1, .ref ga), (2, .int (iv x2)), (3, .int (iv x3)), (4, .int (iv 0)), (5, .int (iv (v31_5 + 1)))]) [4, 5, 6, 7, 1, 0] rfl ?_
                  exact ih31 (Int.toNat (60 - (v31_5 + 1))) (by omega) k1_21 f1_22 t1_23 w1_24 c1_25 _ ht19 0 (v31_5 + 1) ⟨by omega, by omega, by omega, by omega, by omega, by omega, by omega, by omega, by omega, by assumption, by (first | assumption | exact PL_n (by assumption) (by omega) (sel_n (fun h9 => by have h8 := (fk.2 (by omega)).mpr h9; omega)))⟩ (by omega)
                · refine r_iconst (pc := 127) (v := iv 1) dX1_drawKept_127 (by decide) ?_
                  refine r_goto (pc := 128) (tgt := 132) dX1_drawKept_128 (by decide) ?_
                  refine r_istore (pc := 132) (lv' := [(4, .int (iv 1)), (7, .int (iv (T (Int.toNat v31_5)))), (6, .int (iv (F (Int.toNat v31_5)))), (0, .ref s), (1, .ref ga), (2, .int (iv x2)), (3, .int (iv x3)), (5, .int (iv v31_5))]) dX1_drawKept_132 (by decide) rfl ?_
                  refine r_iinc (pc := 134) (v := iv (v31_5 + 1)) (lv' := [(5, .int (iv (v31_5 + 1))), (4, .int (iv 1)), (7, .int (iv (T (Int.toNat v31_5)))), (6, .int (iv (F (Int.toNat v31_5)))), (0, .ref s), (1, .ref ga), (2, .int (iv x2)), (3, .int (iv x3))]) dX1_drawKept_134 rfl (iv_add _ _) (by decide) rfl ?_
                  refine r_goto (pc := 137) (tgt := 31) dX1_drawKept_137 (by decide) ?_
                  refine Rn.pick (lv' := [(0, .ref s), (1, .ref ga), (2, .int (iv x2)), (3, .int (iv x3)), (4, .int (iv 1)), (5, .int (iv (v31_5 + 1)))]) [4, 5, 6, 7, 1, 0] rfl ?_
                  exact ih31 (Int.toNat (60 - (v31_5 + 1))) (by omega) k1_21 f1_22 t1_23 w1_24 c1_25 _ ht19 1 (v31_5 + 1) ⟨by omega, by omega, by omega, by omega, by omega, by omega, by omega, by omega, by omega, by assumption, by (first | assumption | exact PL_n (by assumption) (by omega) (sel_n (fun h9 => by have h8 := (fk.2 (by omega)).mpr h9; omega)))⟩ (by omega)
            · exfalso
              omega
          · refine r_aload_n (pc := 55) dX1_drawKept_55 (i := 1) rfl rfl ?_
            refine t_getE (pc := 56) (.ref gT) ht9 (rd_DX (by omega) hg_O) fX1_70 dX1_drawKept_56 rfl ?_
            refine r_iload (pc := 59) dX1_drawKept_59 rfl ?_
            refine t_ialdX (pc := 61) (t0 := 0) ht9 (rd_DX (by omega) hxg_T) dX1_drawKept_61 rfl (by omega) (by omega) (fun b27 => ?_)
            have rb27 := (show Rfx gm 0 ((gn : Int) - 1) T by assumption) (Int.toNat v31_5) (by omega)
            refine r_goto (pc := 62) (tgt := 72) dX1_drawKept_62 (by decide) ?_
            refine r_istore (pc := 72) (lv' := [(6, .int (iv (T (Int.toNat v31_5)))), (0, .ref s), (1, .ref ga), (2, .int (iv x2)), (3, .int (iv x3)), (4, .int (iv v31_4)), (5, .int (iv v31_5))]) dX1_drawKept_72 (by decide) rfl ?_
            refine r_iload_n (pc := 74) dX1_drawKept_74 (i := 2) rfl rfl ?_
            refine t_if_ne (pc := 75) (tgt := 88) dX1_drawKept_75 (by decide) (by omega) (fun c75 => ?_) (fun c75 => ?_)
            · exfalso
              omega
            · refine r_aload_n (pc := 78) dX1_drawKept_78 (i := 1) rfl rfl ?_
              refine t_getE (pc := 79) (.ref gF) ht9 (rd_DX (by omega) hg_O) fX1_71 dX1_drawKept_79 rfl ?_
              refine r_iload (pc := 82) dX1_drawKept_82 rfl ?_
              refine t_ialdX (pc := 84) (t0 := 0) ht9 (rd_DX (by omega) hxg_F) dX1_drawKept_84 rfl (by omega) (by omega) (fun b28 => ?_)
              have rb28 := (show Rfx gm 0 ((gn : Int) - 1) F by assumption) (Int.toNat v31_5) (by omega)
              refine r_goto (pc := 85) (tgt := 95) dX1_drawKept_85 (by decide) ?_
              refine r_istore (pc := 95) (lv' := [(7, .int (iv (F (Int.toNat v31_5)))), (6, .int (iv (T (Int.toNat v31_5)))), (0, .ref s), (1, .ref ga), (2, .int (iv x2)), (3, .int (iv x3)), (4, .int (iv v31_4)), (5, .int (iv v31_5))]) dX1_drawKept_95 (by decide) rfl ?_
              refine r_aload_n (pc := 97) dX1_drawKept_97 (i := 0) rfl rfl ?_
              refine r_iload (pc := 98) dX1_drawKept_98 rfl ?_
              refine r_iload (pc := 100) dX1_drawKept_100 rfl ?_
              refine r_aload_n (pc := 102) dX1_drawKept_102 (i := 1) rfl rfl ?_
              refine t_getE (pc := 103) (.ref gW) ht9 (rd_DX (by omega) hg_O) fX1_72 dX1_drawKept_103 rfl ?_
              refine r_iload (pc := 106) dX1_drawKept_106 rfl ?_
              refine t_ialdX (pc := 108) (t0 := 0) ht9 (rd_DX (by omega) hxg_W) dX1_drawKept_108 rfl (by omega) (by omega) (fun b29 => ?_)
              have rb29 := (show Rfx gm (-1000) 1000 W by assumption) (Int.toNat v31_5) (by omega)
              refine r_aload_n (pc := 109) dX1_drawKept_109 (i := 1) rfl rfl ?_
              refine t_getE (pc := 110) (.ref gC) ht9 (rd_DX (by omega) hg_O) fX1_73 dX1_drawKept_110 rfl ?_
              refine r_iload (pc := 113) dX1_drawKept_113 rfl ?_
              refine t_ialdX (pc := 115) (t0 := 0) ht9 (rd_DX (by omega) hxg_C) dX1_drawKept_115 rfl (by omega) (by omega) (fun b30 => ?_)
              have rb30 := (show Rfx gm (-1000) 1000 C by assumption) (Int.toNat v31_5) (by omega)
              obtain ⟨fs35, hfs35⟩ := t_obj ht9 (rd_of DX_0)
              refine r_callV (pc := 116) (as := [.int (iv (T (Int.toNat v31_5))), .int (iv (F (Int.toNat v31_5))), .int (iv (W (Int.toNat v31_5))), .int (iv (C (Int.toNat v31_5)))]) (st := []) kX1_74 rfl dX1_drawKept_116 hfs35 (d_X1_add (d := d - 1) (x1 := T (Int.toNat v31_5)) (x2 := F (Int.toNat v31_5)) (x3 := W (Int.toNat v31_5)) (x4 := C (Int.toNat v31_5)) (by omega)  (by omega) ht9 (by omega) (by omega) (by omega) (by omega)) rfl (by omega) (Nat.le_of_ble_eq_true rfl) (Nat.zero_le _) (Nat.zero_le _) rfl (fun r32 hp31 n33 hq34 => ?_)
              obtain ⟨hnn33, bb_37, k1_38, f1_39, t1_40, w1_41, c1_42, ht36, hrr32, hhq340, hhq341, hhq342, hhq343⟩ := hq34
              subst n33 r32
              have hhq340 : (bb_37 = 1 ∧ ka31 < 60 ∧ k1_38 = ka31 + 1) ∨ (bb_37 = 0 ∧ 60 ≤ ka31 ∧ k1_38 = ka31) := hhq340
              have hhq341 : ka31 < 60 → f1_39 = fup kf31 (Int.toNat ka31) (T (Int.toNat v31_5)) ∧ t1_40 = fup kt31 (Int.toNat ka31) (F (Int.toNat v31_5)) ∧ w1_41 = fup kw31 (Int.toNat ka31) (W (Int.toNat v31_5)) ∧ c1_42 = fup kc31 (Int.toNat ka31) (C (Int.toNat v31_5)) := hhq341
              have hhq342 : 60 ≤ ka31 → f1_39 = kf31 ∧ t1_40 = kt31 ∧ w1_41 = kw31 ∧ c1_42 = kc31 := hhq342
              have hhq343 : 0 ≤ k1_38 ∧ k1_38 ≤ 60 := hhq343
              change Rn _ _ _ 119 _ [.int (iv bb_37)] _ _ _ _ _
              have hapq43 : arP f1_39 t1_40 w1_41 c1_42 k1_38 (gn : Int) := ar_add (by assumption) (by omega) (by omega) (by omega) (by omega) (by omega) hhq340 hhq341 hhq342
              have hc0 := hhq340
              have hc1 := hhq341
              have hrow : (kpL gm gdr F T W C x2 x3) (Int.toNat v31_5) = [(T (Int.toNat v31_5), F (Int.toNat v31_5), W (Int.toNat v31_5), C (Int.toNat v31_5))] := by
                show sel _ _ = _
                rw [sel_y ((fk.2 (by omega)).mp (by omega))]
                unfold kpE
                (repeat' split) <;> first | rfl | (exfalso; omega)
              have hpl9 : PL ([] ++ acc (kpL gm gdr F T W C x2 x3) (Int.toNat (v31_5 + 1))) k1_38 f1_39 t1_40 w1_41 c1_42 := PL_add (by assumption) (by omega) hrow hc0 hc1 (by omega)
              refine t_if_eq (pc := 119) (tgt := 131) dX1_drawKept_119 (by decide) (by omega) (fun c119 => ?_) (fun c119 => ?_)
              · refine r_iconst (pc := 131) (v := iv 0) dX1_drawKept_131 (by decide) ?_
                refine r_istore (pc := 132) (lv' := [(4, .int (iv 0)), (7, .int (iv (F (Int.toNat v31_5)))), (6, .int (iv (T (Int.toNat v31_5)))), (0, .ref s), (1, .ref ga), (2, .int (iv x2)), (3, .int (iv x3)), (5, .int (iv v31_5))]) dX1_drawKept_132 (by decide) rfl ?_
                refine r_iinc (pc := 134) (v := iv (v31_5 + 1)) (lv' := [(5, .int (iv (v31_5 + 1))), (4, .int (iv 0)), (7, .int (iv (F (Int.toNat v31_5)))), (6, .int (iv (T (Int.toNat v31_5)))), (0, .ref s), (1, .ref ga), (2, .int (iv x2)), (3, .int (iv x3))]) dX1_drawKept_134 rfl (iv_add _ _) (by decide) rfl ?_
                refine r_goto (pc := 137) (tgt := 31) dX1_drawKept_137 (by decide) ?_
                refine Rn.pick (lv' := [(0, .ref s), (1, .ref ga), (2, .int (iv x2)), (3, .int (iv x3)), (4, .int (iv 0)), (5, .int (iv (v31_5 + 1)))]) [4, 5, 6, 7, 1, 0] rfl ?_
                exact ih31 (Int.toNat (60 - (v31_5 + 1))) (by omega) k1_38 f1_39 t1_40 w1_41 c1_42 _ ht36 0 (v31_5 + 1) ⟨by omega, by omega, by omega, by omega, by omega, by omega, by omega, by omega, by omega, by assumption, by (first | assumption | exact PL_n (by assumption) (by omega) (sel_n (fun h9 => by have h8 := (fk.2 (by omega)).mpr h9; omega)))⟩ (by omega)
              · refine r_iload (pc := 122) dX1_drawKept_122 rfl ?_
                refine t_if_eq (pc := 124) (tgt := 131) dX1_drawKept_124 (by decide) (by omega) (fun c124 => ?_) (fun c124 => ?_)
                · refine r_iconst (pc := 131) (v := iv 0) dX1_drawKept_131 (by decide) ?_
                  refine r_istore (pc := 132) (lv' := [(4, .int (iv 0)), (7, .int (iv (F (Int.toNat v31_5)))), (6, .int (iv (T (Int.toNat v31_5)))), (0, .ref s), (1, .ref ga), (2, .int (iv x2)), (3, .int (iv x3)), (5, .int (iv v31_5))]) dX1_drawKept_132 (by decide) rfl ?_
                  refine r_iinc (pc := 134) (v := iv (v31_5 + 1)) (lv' := [(5, .int (iv (v31_5 + 1))), (4, .int (iv 0)), (7, .int (iv (F (Int.toNat v31_5)))), (6, .int (iv (T (Int.toNat v31_5)))), (0, .ref s), (1, .ref ga), (2, .int (iv x2)), (3, .int (iv x3))]) dX1_drawKept_134 rfl (iv_add _ _) (by decide) rfl ?_
                  refine r_goto (pc := 137) (tgt := 31) dX1_drawKept_137 (by decide) ?_
                  refine Rn.pick (lv' := [(0, .ref s), (1, .ref ga), (2, .int (iv x2)), (3, .int (iv x3)), (4, .int (iv 0)), (5, .int (iv (v31_5 + 1)))]) [4, 5, 6, 7, 1, 0] rfl ?_
                  exact ih31 (Int.toNat (60 - (v31_5 + 1))) (by omega) k1_38 f1_39 t1_40 w1_41 c1_42 _ ht36 0 (v31_5 + 1) ⟨by omega, by omega, by omega, by omega, by omega, by omega, by omega, by omega, by omega, by assumption, by (first | assumption | exact PL_n (by assumption) (by omega) (sel_n (fun h9 => by have h8 := (fk.2 (by omega)).mpr h9; omega)))⟩ (by omega)
                · refine r_iconst (pc := 127) (v := iv 1) dX1_drawKept_127 (by decide) ?_
                  refine r_goto (pc := 128) (tgt := 132) dX1_drawKept_128 (by decide) ?_
                  refine r_istore (pc := 132) (lv' := [(4, .int (iv 1)), (7, .int (iv (F (Int.toNat v31_5)))), (6, .int (iv (T (Int.toNat v31_5)))), (0, .ref s), (1, .ref ga), (2, .int (iv x2)), (3, .int (iv x3)), (5, .int (iv v31_5))]) dX1_drawKept_132 (by decide) rfl ?_
                  refine r_iinc (pc := 134) (v := iv (v31_5 + 1)) (lv' := [(5, .int (iv (v31_5 + 1))), (4, .int (iv 1)), (7, .int (iv (F (Int.toNat v31_5)))), (6, .int (iv (T (Int.toNat v31_5)))), (0, .ref s), (1, .ref ga), (2, .int (iv x2)), (3, .int (iv x3))]) dX1_drawKept_134 rfl (iv_add _ _) (by decide) rfl ?_
                  refine r_goto (pc := 137) (tgt := 31) dX1_drawKept_137 (by decide) ?_
                  refine Rn.pick (lv' := [(0, .ref s), (1, .ref ga), (2, .int (iv x2)), (3, .int (iv x3)), (4, .int (iv 1)), (5, .int (iv (v31_5 + 1)))]) [4, 5, 6, 7, 1, 0] rfl ?_
                  exact ih31 (Int.toNat (60 - (v31_5 + 1))) (by omega) k1_38 f1_39 t1_40 w1_41 c1_42 _ ht36 1 (v31_5 + 1) ⟨by omega, by omega, by omega, by omega, by omega, by omega, by omega, by omega, by omega, by assumption, by (first | assumption | exact PL_n (by assumption) (by omega) (sel_n (fun h9 => by have h8 := (fk.2 (by omega)).mpr h9; omega)))⟩ (by omega)
    refine Rn.pick (lv' := [(0, .ref s), (1, .ref ga), (2, .int (iv x2)), (3, .int (iv x3)), (4, .int (iv 1)), (5, .int (iv 0))]) [2, 3, 4, 5, 1, 0] rfl ?_
    exact B31 (Int.toNat (60 - 0)) 0 kf kt kw kc _ ht6 1 0 ⟨by omega, by omega, by omega, by omega, by omega, by omega, by omega, by omega, by omega, by assumption, by (first | assumption | exact PL_n (by assumption) (by omega) (sel_n (fun h9 => by have h8 := (fk.2 (by omega)).mpr h9; omega)))⟩ (by omega)
  · refine r_iload_n (pc := 12) dX1_drawKept_12 (i := 2) rfl rfl ?_
    refine r_iconst (pc := 13) (v := iv 1) dX1_drawKept_13 (by decide) ?_
    refine t_icmp_eq (pc := 14) (tgt := 21) dX1_drawKept_14 (by decide) (by omega) (by omega) (fun c14 => ?_) (fun c14 => ?_)
    · refine r_iconst (pc := 21) (v := iv 0) dX1_drawKept_21 (by decide) ?_
      obtain ⟨fs48, hfs48⟩ := t_obj ht (rd_of DX_0)
      refine r_callV (pc := 22) (as := [.int (iv (gn : Int)), .int (iv 0)]) (st := []) kX1_62 rfl dX1_drawKept_22 hfs48 (d_X1_restart (d := d - 1) (x1 := (gn : Int)) (x2 := 0) (by omega)  ht (by omega) (by omega)) rfl (by omega) (Nat.le_of_ble_eq_true rfl) (Nat.zero_le _) (Nat.zero_le _) rfl (fun r45 hp44 n46 hq47 => ?_)
      obtain ⟨hnn46, ht49, hrr45⟩ := hq47
      subst n46 r45
      change Rn _ _ _ 25 _ [] _ _ _ _ _
      have ha0 : arP kf kt kw kc 0 (gn : Int) := ar_0 _ _ _ _ _
      have hpl0 : PL ([] ++ acc (kpL gm gdr F T W C x2 x3) (Int.toNat 0)) 0 kf kt kw kc := PL_0 _ _ _ _
      refine r_iconst (pc := 25) (v := iv 1) dX1_drawKept_25 (by decide) ?_
      refine r_istore (pc := 26) (lv' := [(4, .int (iv 1)), (0, .ref s), (1, .ref ga), (2, .int (iv x2)), (3, .int (iv x3))]) dX1_drawKept_26 (by decide) rfl ?_
      refine r_iconst (pc := 28) (v := iv 0) dX1_drawKept_28 (by decide) ?_
      refine r_istore (pc := 29) (lv' := [(5, .int (iv 0)), (4, .int (iv 1)), (0, .ref s), (1, .ref ga), (2, .int (iv x2)), (3, .int (iv x3))]) dX1_drawKept_29 (by decide) rfl ?_
      have B31 : ∀ k : Nat, ∀ ka31 : Int, ∀ kf31 : Nat → Int, ∀ kt31 : Nat → Int, ∀ kw31 : Nat → Int, ∀ kc31 : Nat → Int, ∀ hp31 : MH, Tw (DX Γ cI cJ cZ cT s (gn : Int) 0 ka31 kf31 kt31 kw31 kc31 lt) hp31 → ∀  (v31_4 : Int) (v31_5 : Int), 0 ≤ v31_4 ∧ v31_4 ≤ 1 ∧ 0 ≤ v31_5 ∧ v31_5 ≤ 60 ∧ (0 ≤ ka31) ∧ (ka31 ≤ 60) ∧ (ka31 ≤ v31_5) ∧ (v31_5 ≤ (gm : Int)) ∧ (v31_4 = 1) ∧ (arP kf31 kt31 kw31 kc31 ka31 (gn : Int)) ∧ (PL ([] ++ acc (kpL gm gdr F T W C x2 x3) (Int.toNat v31_5)) ka31 kf31 kt31 kw31 kc31) → 60 - v31_5 ≤ (k : Int) → Rn (gG D cI cJ cZ cT lo b L xs) mX1_drawKept d 31 [(0, .ref s), (1, .ref ga), (2, .int (iv x2)), (3, .int (iv x3)), (4, .int (iv v31_4)), (5, .int (iv v31_5))] [] hp31 n 0 0 (qd_X1_drawKept Γ cI cJ cZ cT s n kn kd ka kf kt kw kc lt ga gF gT gW gC gTl gHd gBy gOu gIn gJo gn gm gq gdr x2 x3 F T W C Tl Hd By Ou In Jo) := by
        refine lpS _ ?_
        intro k31 ih31 ka31 kf31 kt31 kw31 kc31 hp31 ht31 v31_4 v31_5 hf31 hm31
        obtain ⟨hf31_0, hf31_1, hf31_2, hf31_3, hf31_4, hf31_5, hf31_6, hf31_7, hf31_8, ha31_9, ha31_10⟩ := hf31
        refine r_iload (pc := 31) dX1_drawKept_31 rfl ?_
        refine r_aload_n (pc := 33) dX1_drawKept_33 (i := 1) rfl rfl ?_
        refine t_getE (pc := 34) (.int (iv (gm : Int))) ht31 (rd_DX (by omega) hg_O) fX1_44 dX1_drawKept_34 rfl ?_
        refine t_icmp_ge (pc := 37) (tgt := 140) dX1_drawKept_37 (by decide) (by omega) (by omega) (fun c37 => ?_) (fun c37 => ?_)
        · refine r_iload (pc := 140) dX1_drawKept_140 rfl ?_
          exact r_zret (pc := 142) dX1_drawKept_142 rfl (iv_nar (by omega)) ⟨rfl, (gn : Int), 0, ka31, kf31, kt31, kw31, kc31, lt, v31_4, ht31, rfl, (by omega), (by omega), (by omega), (by (first | assumption | exact ar_0 _ _ _ _ _)), (by assumption), (by (rw [show v31_4 = 1 by omega]; have h8 : PL ([] ++ acc (kpL gm gdr F T W C x2 x3) (Int.toNat v31_5)) _ _ _ _ _ := (by assumption); rw [show v31_5 = (gm : Int) by omega, Int.toNat_natCast] at h8; exact dr_y h8 (by omega))), (by ((repeat' split) <;> omega)), (by ((repeat' split) <;> omega))⟩
        · refine r_aload_n (pc := 40) dX1_drawKept_40 (i := 1) rfl rfl ?_
          refine r_iload_n (pc := 41) dX1_drawKept_41 (i := 2) rfl rfl ?_
          refine r_iload_n (pc := 42) dX1_drawKept_42 (i := 3) rfl rfl ?_
          refine r_iload (pc := 43) dX1_drawKept_43 rfl ?_
          refine t_callSI (pc := 45) (as := [.ref ga, .int (iv x2), .int (iv x3), .int (iv v31_5)]) (st := []) kX1_66 dX1_drawKept_45 (c_X1_isKeptx (d := d - 1) (x1 := x2) (x2 := x3) (x3 := v31_5) (by omega) (TyG.dx (by omega) hg) (XG.dx (by omega) hxg) ht31 (by omega) (by omega) (by omega) (by omega)) rfl (by omega) (Nat.le_of_ble_eq_true rfl) rfl (fun hp51 y50 ht52 by50 => ?_)
          have fy50 : ((0 ≤ y50 ∧ y50 ≤ 1) ∧ (x2 ≠ 4 → (y50 = 1 ↔ kpP gm gdr F T W x2 x3 (Int.toNat v31_5)))) := by50
          have fk := fy50
          refine t_if_eq (pc := 48) (tgt := 134) dX1_drawKept_48 (by decide) (by omega) (fun c48 => ?_) (fun c48 => ?_)
          · refine r_iinc (pc := 134) (v := iv (v31_5 + 1)) (lv' := [(5, .int (iv (v31_5 + 1))), (0, .ref s), (1, .ref ga), (2, .int (iv x2)), (3, .int (iv x3)), (4, .int (iv v31_4))]) dX1_drawKept_134 rfl (iv_add _ _) (by decide) rfl ?_
            refine r_goto (pc := 137) (tgt := 31) dX1_drawKept_137 (by decide) ?_
            refine Rn.pick (lv' := [(0, .ref s), (1, .ref ga), (2, .int (iv x2)), (3, .int (iv x3)), (4, .int (iv v31_4)), (5, .int (iv (v31_5 + 1)))]) [1, 2, 3, 4, 5, 0] rfl ?_
            exact ih31 (Int.toNat (60 - (v31_5 + 1))) (by omega) ka31 kf31 kt31 kw31 kc31 _ ht52 v31_4 (v31_5 + 1) ⟨by omega, by omega, by omega, by omega, by omega, by omega, by omega, by omega, by omega, by assumption, by (first | assumption | exact PL_n (by assumption) (by omega) (sel_n (fun h9 => by have h8 := (fk.2 (by omega)).mpr h9; omega)))⟩ (by omega)
          · refine r_iload_n (pc := 51) dX1_drawKept_51 (i := 2) rfl rfl ?_
            refine t_if_ne (pc := 52) (tgt := 65) dX1_drawKept_52 (by decide) (by omega) (fun c52 => ?_) (fun c52 => ?_)
            · refine r_aload_n (pc := 65) dX1_drawKept_65 (i := 1) rfl rfl ?_
              refine t_getE (pc := 66) (.ref gF) ht52 (rd_DX (by omega) hg_O) fX1_71 dX1_drawKept_66 rfl ?_
              refine r_iload (pc := 69) dX1_drawKept_69 rfl ?_
              refine t_ialdX (pc := 71) (t0 := 0) ht52 (rd_DX (by omega) hxg_F) dX1_drawKept_71 rfl (by omega) (by omega) (fun b53 => ?_)
              have rb53 := (show Rfx gm 0 ((gn : Int) - 1) F by assumption) (Int.toNat v31_5) (by omega)
              refine r_istore (pc := 72) (lv' := [(6, .int (iv (F (Int.toNat v31_5)))), (0, .ref s), (1, .ref ga), (2, .int (iv x2)), (3, .int (iv x3)), (4, .int (iv v31_4)), (5, .int (iv v31_5))]) dX1_drawKept_72 (by decide) rfl ?_
              refine r_iload_n (pc := 74) dX1_drawKept_74 (i := 2) rfl rfl ?_
              refine t_if_ne (pc := 75) (tgt := 88) dX1_drawKept_75 (by decide) (by omega) (fun c75 => ?_) (fun c75 => ?_)
              · refine r_aload_n (pc := 88) dX1_drawKept_88 (i := 1) rfl rfl ?_
                refine t_getE (pc := 89) (.ref gT) ht52 (rd_DX (by omega) hg_O) fX1_70 dX1_drawKept_89 rfl ?_
                refine r_iload (pc := 92) dX1_drawKept_92 rfl ?_
                refine t_ialdX (pc := 94) (t0 := 0) ht52 (rd_DX (by omega) hxg_T) dX1_drawKept_94 rfl (by omega) (by omega) (fun b54 => ?_)
                have rb54 := (show Rfx gm 0 ((gn : Int) - 1) T by assumption) (Int.toNat v31_5) (by omega)
                refine r_istore (pc := 95) (lv' := [(7, .int (iv (T (Int.toNat v31_5)))), (6, .int (iv (F (Int.toNat v31_5)))), (0, .ref s), (1, .ref ga), (2, .int (iv x2)), (3, .int (iv x3)), (4, .int (iv v31_4)), (5, .int (iv v31_5))]) dX1_drawKept_95 (by decide) rfl ?_
                refine r_aload_n (pc := 97) dX1_drawKept_97 (i := 0) rfl rfl ?_
                refine r_iload (pc := 98) dX1_drawKept_98 rfl ?_
                refine r_iload (pc := 100) dX1_drawKept_100 rfl ?_
                refine r_aload_n (pc := 102) dX1_drawKept_102 (i := 1) rfl rfl ?_
                refine t_getE (pc := 103) (.ref gW) ht52 (rd_DX (by omega) hg_O) fX1_72 dX1_drawKept_103 rfl ?_
                refine r_iload (pc := 106) dX1_drawKept_106 rfl ?_
                refine t_ialdX (pc := 108) (t0 := 0) ht52 (rd_DX (by omega) hxg_W) dX1_drawKept_108 rfl (by omega) (by omega) (fun b55 => ?_)
                have rb55 := (show Rfx gm (-1000) 1000 W by assumption) (Int.toNat v31_5) (by omega)
                refine r_aload_n (pc := 109) dX1_drawKept_109 (i := 1) rfl rfl ?_
                refine t_getE (pc := 110) (.ref gC) ht52 (rd_DX (by omega) hg_O) fX1_73 dX1_drawKept_110 rfl ?_
                refine r_iload (pc := 113) dX1_drawKept_113 rfl ?_
                refine t_ialdX (pc := 115) (t0 := 0) ht52 (rd_DX (by omega) hxg_C) dX1_drawKept_115 rfl (by omega) (by omega) (fun b56 => ?_)
                have rb56 := (show Rfx gm (-1000) 1000 C by assumption) (Int.toNat v31_5) (by omega)
                obtain ⟨fs61, hfs61⟩ := t_obj ht52 (rd_of DX_0)
                refine r_callV (pc := 116) (as := [.int (iv (F (Int.toNat v31_5))), .int (iv (T (Int.toNat v31_5))), .int (iv (W (Int.toNat v31_5))), .int (iv (C (Int.toNat v31_5)))]) (st := []) kX1_74 rfl dX1_drawKept_116 hfs61 (d_X1_add (d := d - 1) (x1 := F (Int.toNat v31_5)) (x2 := T (Int.toNat v31_5)) (x3 := W (Int.toNat v31_5)) (x4 := C (Int.toNat v31_5)) (by omega)  (by omega) ht52 (by omega) (by omega) (by omega) (by omega)) rfl (by omega) (Nat.le_of_ble_eq_true rfl) (Nat.zero_le _) (Nat.zero_le _) rfl (fun r58 hp57 n59 hq60 => ?_)
                obtain ⟨hnn59, bb_63, k1_64, f1_65, t1_66, w1_67, c1_68, ht62, hrr58, hhq600, hhq601, hhq602, hhq603⟩ := hq60
                subst n59 r58
                have hhq600 : (bb_63 = 1 ∧ ka31 < 60 ∧ k1_64 = ka31 + 1) ∨ (bb_63 = 0 ∧ 60 ≤ ka31 ∧ k1_64 = ka31) := hhq600
                have hhq601 : ka31 < 60 → f1_65 = fup kf31 (Int.toNat ka31) (F (Int.toNat v31_5)) ∧ t1_66 = fup kt31 (Int.toNat ka31) (T (Int.toNat v31_5)) ∧ w1_67 = fup kw31 (Int.toNat ka31) (W (Int.toNat v31_5)) ∧ c1_68 = fup kc31 (Int.toNat ka31) (C (Int.toNat v31_5)) := hhq601
                have hhq602 : 60 ≤ ka31 → f1_65 = kf31 ∧ t1_66 = kt31 ∧ w1_67 = kw31 ∧ c1_68 = kc31 := hhq602
                have hhq603 : 0 ≤ k1_64 ∧ k1_64 ≤ 60 := hhq603
                change Rn _ _ _ 119 _ [.int (iv bb_63)] _ _ _ _ _
                have hapq69 : arP f1_65 t1_66 w1_67 c1_68 k1_64 (gn : Int) := ar_add (by assumption) (by omega) (by omega) (by omega) (by omega) (by omega) hhq600 hhq601 hhq602
                have hc0 := hhq600
                have hc1 := hhq601
                have hrow : (kpL gm gdr F T W C x2 x3) (Int.toNat v31_5) = [(F (Int.toNat v31_5), T (Int.toNat v31_5), W (Int.toNat v31_5), C (Int.toNat v31_5))] := by
                  show sel _ _ = _
                  rw [sel_y ((fk.2 (by omega)).mp (by omega))]
                  unfold kpE
                  (repeat' split) <;> first | rfl | (exfalso; omega)
                have hpl9 : PL ([] ++ acc (kpL gm gdr F T W C x2 x3) (Int.toNat (v31_5 + 1))) k1_64 f1_65 t1_66 w1_67 c1_68 := PL_add (by assumption) (by omega) hrow hc0 hc1 (by omega)
                refine t_if_eq (pc := 119) (tgt := 131) dX1_drawKept_119 (by decide) (by omega) (fun c119 => ?_) (fun c119 => ?_)
                · refine r_iconst (pc := 131) (v := iv 0) dX1_drawKept_131 (by decide) ?_
                  refine r_istore (pc := 132) (lv' := [(4, .int (iv 0)), (7, .int (iv (T (Int.toNat v31_5)))), (6, .int (iv (F (Int.toNat v31_5)))), (0, .ref s), (1, .ref ga), (2, .int (iv x2)), (3, .int (iv x3)), (5, .int (iv v31_5))]) dX1_drawKept_132 (by decide) rfl ?_
                  refine r_iinc (pc := 134) (v := iv (v31_5 + 1)) (lv' := [(5, .int (iv (v31_5 + 1))), (4, .int (iv 0)), (7, .int (iv (T (Int.toNat v31_5)))), (6, .int (iv (F (Int.toNat v31_5)))), (0, .ref s), (1, .ref ga), (2, .int (iv x2)), (3, .int (iv x3))]) dX1_drawKept_134 rfl (iv_add _ _) (by decide) rfl ?_
                  refine r_goto (pc := 137) (tgt := 31) dX1_drawKept_137 (by decide) ?_
                  refine Rn.pick (lv' := [(0, .ref s), (1, .ref ga), (2, .int (iv x2)), (3, .int (iv x3)), (4, .int (iv 0)), (5, .int (iv (v31_5 + 1)))]) [4, 5, 6, 7, 1, 0] rfl ?_
                  exact ih31 (Int.toNat (60 - (v31_5 + 1))) (by omega) k1_64 f1_65 t1_66 w1_67 c1_68 _ ht62 0 (v31_5 + 1) ⟨by omega, by omega, by omega, by omega, by omega, by omega, by omega, by omega, by omega, by assumption, by (first | assumption | exact PL_n (by assumption) (by omega) (sel_n (fun h9 => by have h8 := (fk.2 (by omega)).mpr h9; omega)))⟩ (by omega)
                · refine r_iload (pc := 122) dX1_drawKept_122 rfl ?_
                  refine t_if_eq (pc := 124) (tgt := 131) dX1_drawKept_124 (by decide) (by omega) (fun c124 => ?_) (fun c124 => ?_)
                  · refine r_iconst (pc := 131) (v := iv 0) dX1_drawKept_131 (by decide) ?_
                    refine r_istore (pc := 132) (lv' := [(4, .int (iv 0)), (7, .int (iv (T (Int.toNat v31_5)))), (6, .int (iv (F (Int.toNat v31_5)))), (0, .ref s), (1, .ref ga), (2, .int (iv x2)), (3, .int (iv x3)), (5, .int (iv v31_5))]) dX1_drawKept_132 (by decide) rfl ?_
                    refine r_iinc (pc := 134) (v := iv (v31_5 + 1)) (lv' := [(5, .int (iv (v31_5 + 1))), (4, .int (iv 0)), (7, .int (iv (T (Int.toNat v31_5)))), (6, .int (iv (F (Int.toNat v31_5)))), (0, .ref s), (1, .ref ga), (2, .int (iv x2)), (3, .int (iv x3))]) dX1_drawKept_134 rfl (iv_add _ _) (by decide) rfl ?_
                    refine r_goto (pc := 137) (tgt := 31) dX1_drawKept_137 (by decide) ?_
                    refine Rn.pick (lv' := [(0, .ref s), (1, .ref ga), (2, .int (iv x2)), (3, .int (iv x3)), (4, .int (iv 0)), (5, .int (iv (v31_5 + 1)))]) [4, 5, 6, 7, 1, 0] rfl ?_
                    exact ih31 (Int.toNat (60 - (v31_5 + 1))) (by omega) k1_64 f1_65 t1_66 w1_67 c1_68 _ ht62 0 (v31_5 + 1) ⟨by omega, by omega, by omega, by omega, by omega, by omega, by omega, by omega, by omega, by assumption, by (first | assumption | exact PL_n (by assumption) (by omega) (sel_n (fun h9 => by have h8 := (fk.2 (by omega)).mpr h9; omega)))⟩ (by omega)
                  · refine r_iconst (pc := 127) (v := iv 1) dX1_drawKept_127 (by decide) ?_
                    refine r_goto (pc := 128) (tgt := 132) dX1_drawKept_128 (by decide) ?_
                    refine r_istore (pc := 132) (lv' := [(4, .int (iv 1)), (7, .int (iv (T (Int.toNat v31_5)))), (6, .int (iv (F (Int.toNat v31_5)))), (0, .ref s), (1, .ref ga), (2, .int (iv x2)), (3, .int (iv x3)), (5, .int (iv v31_5))]) dX1_drawKept_132 (by decide) rfl ?_
                    refine r_iinc (pc := 134) (v := iv (v31_5 + 1)) (lv' := [(5, .int (iv (v31_5 + 1))), (4, .int (iv 1)), (7, .int (iv (T (Int.toNat v31_5)))), (6, .int (iv (F (Int.toNat v31_5)))), (0, .ref s), (1, .ref ga), (2, .int (iv x2)), (3, .int (iv x3))]) dX1_drawKept_134 rfl (iv_add _ _) (by decide) rfl ?_
                    refine r_goto (pc := 137) (tgt := 31) dX1_drawKept_137 (by decide) ?_
                    refine Rn.pick (lv' := [(0, .ref s), (1, .ref ga), (2, .int (iv x2)), (3, .int (iv x3)), (4, .int (iv 1)), (5, .int (iv (v31_5 + 1)))]) [4, 5, 6, 7, 1, 0] rfl ?_
                    exact ih31 (Int.toNat (60 - (v31_5 + 1))) (by omega) k1_64 f1_65 t1_66 w1_67 c1_68 _ ht62 1 (v31_5 + 1) ⟨by omega, by omega, by omega, by omega, by omega, by omega, by omega, by omega, by omega, by assumption, by (first | assumption | exact PL_n (by assumption) (by omega) (sel_n (fun h9 => by have h8 := (fk.2 (by omega)).mpr h9; omega)))⟩ (by omega)
              · exfalso
                omega
            · exfalso
              omega
      refine Rn.pick (lv' := [(0, .ref s), (1, .ref ga), (2, .int (iv x2)), (3, .int (iv x3)), (4, .int (iv 1)), (5, .int (iv 0))]) [2, 3, 4, 5, 1, 0] rfl ?_
      exact B31 (Int.toNat (60 - 0)) 0 kf kt kw kc _ ht49 1 0 ⟨by omega, by omega, by omega, by omega, by omega, by omega, by omega, by omega, by omega, by assumption, by (first | assumption | exact PL_n (by assumption) (by omega) (sel_n (fun h9 => by have h8 := (fk.2 (by omega)).mpr h9; omega)))⟩ (by omega)
    · refine r_iconst (pc := 17) (v := iv 1) dX1_drawKept_17 (by decide) ?_
      refine r_goto (pc := 18) (tgt := 22) dX1_drawKept_18 (by decide) ?_
      obtain ⟨fs74, hfs74⟩ := t_obj ht (rd_of DX_0)
      refine r_callV (pc := 22) (as := [.int (iv (gn : Int)), .int (iv 1)]) (st := []) kX1_62 rfl dX1_drawKept_22 hfs74 (d_X1_restart (d := d - 1) (x1 := (gn : Int)) (x2 := 1) (by omega)  ht (by omega) (by omega)) rfl (by omega) (Nat.le_of_ble_eq_true rfl) (Nat.zero_le _) (Nat.zero_le _) rfl (fun r71 hp70 n72 hq73 => ?_)
      obtain ⟨hnn72, ht75, hrr71⟩ := hq73
      subst n72 r71
      change Rn _ _ _ 25 _ [] _ _ _ _ _
      have ha0 : arP kf kt kw kc 0 (gn : Int) := ar_0 _ _ _ _ _
      have hpl0 : PL ([] ++ acc (kpL gm gdr F T W C x2 x3) (Int.toNat 0)) 0 kf kt kw kc := PL_0 _ _ _ _
      refine r_iconst (pc := 25) (v := iv 1) dX1_drawKept_25 (by decide) ?_
      refine r_istore (pc := 26) (lv' := [(4, .int (iv 1)), (0, .ref s), (1, .ref ga), (2, .int (iv x2)), (3, .int (iv x3))]) dX1_drawKept_26 (by decide) rfl ?_
      refine r_iconst (pc := 28) (v := iv 0) dX1_drawKept_28 (by decide) ?_
      refine r_istore (pc := 29) (lv' := [(5, .int (iv 0)), (4, .int (iv 1)), (0, .ref s), (1, .ref ga), (2, .int (iv x2)), (3, .int (iv x3))]) dX1_drawKept_29 (by decide) rfl ?_
      have B31 : ∀ k : Nat, ∀ ka31 : Int, ∀ kf31 : Nat → Int, ∀ kt31 : Nat → Int, ∀ kw31 : Nat → Int, ∀ kc31 : Nat → Int, ∀ hp31 : MH, Tw (DX Γ cI cJ cZ cT s (gn : Int) 1 ka31 kf31 kt31 kw31 kc31 lt) hp31 → ∀  (v31_4 : Int) (v31_5 : Int), 0 ≤ v31_4 ∧ v31_4 ≤ 1 ∧ 0 ≤ v31_5 ∧ v31_5 ≤ 60 ∧ (0 ≤ ka31) ∧ (ka31 ≤ 60) ∧ (ka31 ≤ v31_5) ∧ (v31_5 ≤ (gm : Int)) ∧ (v31_4 = 1) ∧ (arP kf31 kt31 kw31 kc31 ka31 (gn : Int)) ∧ (PL ([] ++ acc (kpL gm gdr F T W C x2 x3) (Int.toNat v31_5)) ka31 kf31 kt31 kw31 kc31) → 60 - v31_5 ≤ (k : Int) → Rn (gG D cI cJ cZ cT lo b L xs) mX1_drawKept d 31 [(0, .ref s), (1, .ref ga), (2, .int (iv x2)), (3, .int (iv x3)), (4, .int (iv v31_4)), (5, .int (iv v31_5))] [] hp31 n 0 0 (qd_X1_drawKept Γ cI cJ cZ cT s n kn kd ka kf kt kw kc lt ga gF gT gW gC gTl gHd gBy gOu gIn gJo gn gm gq gdr x2 x3 F T W C Tl Hd By Ou In Jo) := by
        refine lpS _ ?_
        intro k31 ih31 ka31 kf31 kt31 kw31 kc31 hp31 ht31 v31_4 v31_5 hf31 hm31
        obtain ⟨hf31_0, hf31_1, hf31_2, hf31_3, hf31_4, hf31_5, hf31_6, hf31_7, hf31_8, ha31_9, ha31_10⟩ := hf31
        refine r_iload (pc := 31) dX1_drawKept_31 rfl ?_
        refine r_aload_n (pc := 33) dX1_drawKept_33 (i := 1) rfl rfl ?_
        refine t_getE (pc := 34) (.int (iv (gm : Int))) ht31 (rd_DX (by omega) hg_O) fX1_44 dX1_drawKept_34 rfl ?_
        refine t_icmp_ge (pc := 37) (tgt := 140) dX1_drawKept_37 (by decide) (by omega) (by omega) (fun c37 => ?_) (fun c37 => ?_)
        · refine r_iload (pc := 140) dX1_drawKept_140 rfl ?_
          exact r_zret (pc := 142) dX1_drawKept_142 rfl (iv_nar (by omega)) ⟨rfl, (gn : Int), 1, ka31, kf31, kt31, kw31, kc31, lt, v31_4, ht31, rfl, (by omega), (by omega), (by omega), (by (first | assumption | exact ar_0 _ _ _ _ _)), (by assumption), (by (rw [show v31_4 = 1 by omega]; have h8 : PL ([] ++ acc (kpL gm gdr F T W C x2 x3) (Int.toNat v31_5)) _ _ _ _ _ := (by assumption); rw [show v31_5 = (gm : Int) by omega, Int.toNat_natCast] at h8; exact dr_y h8 (by omega))), (by ((repeat' split) <;> omega)), (by ((repeat' split) <;> omega))⟩
        · refine r_aload_n (pc := 40) dX1_drawKept_40 (i := 1) rfl rfl ?_
          refine r_iload_n (pc := 41) dX1_drawKept_41 (i := 2) rfl rfl ?_
          refine r_iload_n (pc := 42) dX1_drawKept_42 (i := 3) rfl rfl ?_
          refine r_iload (pc := 43) dX1_drawKept_43 rfl ?_
          refine t_callSI (pc := 45) (as := [.ref ga, .int (iv x2), .int (iv x3), .int (iv v31_5)]) (st := []) kX1_66 dX1_drawKept_45 (c_X1_isKeptx (d := d - 1) (x1 := x2) (x2 := x3) (x3 := v31_5) (by omega) (TyG.dx (by omega) hg) (XG.dx (by omega) hxg) ht31 (by omega) (by omega) (by omega) (by omega)) rfl (by omega) (Nat.le_of_ble_eq_true rfl) rfl (fun hp77 y76 ht78 by76 => ?_)
          have fy76 : ((0 ≤ y76 ∧ y76 ≤ 1) ∧ (x2 ≠ 4 → (y76 = 1 ↔ kpP gm gdr F T W x2 x3 (Int.toNat v31_5)))) := by76
          have fk := fy76
          refine t_if_eq (pc := 48) (tgt := 134) dX1_drawKept_48 (by decide) (by omega) (fun c48 => ?_) (fun c48 => ?_)
          · refine r_iinc (pc := 134) (v := iv (v31_5 + 1)) (lv' := [(5, .int (iv (v31_5 + 1))), (0, .ref s), (1, .ref ga), (2, .int (iv x2)), (3, .int (iv x3)), (4, .int (iv v31_4))]) dX1_drawKept_134 rfl (iv_add _ _) (by decide) rfl ?_
            refine r_goto (pc := 137) (tgt := 31) dX1_drawKept_137 (by decide) ?_
            refine Rn.pick (lv' := [(0, .ref s), (1, .ref ga), (2, .int (iv x2)), (3, .int (iv x3)), (4, .int (iv v31_4)), (5, .int (iv (v31_5 + 1)))]) [1, 2, 3, 4, 5, 0] rfl ?_
            exact ih31 (Int.toNat (60 - (v31_5 + 1))) (by omega) ka31 kf31 kt31 kw31 kc31 _ ht78 v31_4 (v31_5 + 1) ⟨by omega, by omega, by omega, by omega, by omega, by omega, by omega, by omega, by omega, by assumption, by (first | assumption | exact PL_n (by assumption) (by omega) (sel_n (fun h9 => by have h8 := (fk.2 (by omega)).mpr h9; omega)))⟩ (by omega)
          · refine r_iload_n (pc := 51) dX1_drawKept_51 (i := 2) rfl rfl ?_
            refine t_if_ne (pc := 52) (tgt := 65) dX1_drawKept_52 (by decide) (by omega) (fun c52 => ?_) (fun c52 => ?_)
            · refine r_aload_n (pc := 65) dX1_drawKept_65 (i := 1) rfl rfl ?_
              refine t_getE (pc := 66) (.ref gF) ht78 (rd_DX (by omega) hg_O) fX1_71 dX1_drawKept_66 rfl ?_
              refine r_iload (pc := 69) dX1_drawKept_69 rfl ?_
              refine t_ialdX (pc := 71) (t0 := 0) ht78 (rd_DX (by omega) hxg_F) dX1_drawKept_71 rfl (by omega) (by omega) (fun b79 => ?_)
              have rb79 := (show Rfx gm 0 ((gn : Int) - 1) F by assumption) (Int.toNat v31_5) (by omega)
              refine r_istore (pc := 72) (lv' := [(6, .int (iv (F (Int.toNat v31_5)))), (0, .ref s), (1, .ref ga), (2, .int (iv x2)), (3, .int (iv x3)), (4, .int (iv v31_4)), (5, .int (iv v31_5))]) dX1_drawKept_72 (by decide) rfl ?_
              refine r_iload_n (pc := 74) dX1_drawKept_74 (i := 2) rfl rfl ?_
              refine t_if_ne (pc := 75) (tgt := 88) dX1_drawKept_75 (by decide) (by omega) (fun c75 => ?_) (fun c75 => ?_)
              · refine r_aload_n (pc := 88) dX1_drawKept_88 (i := 1) rfl rfl ?_
                refine t_getE (pc := 89) (.ref gT) ht78 (rd_DX (by omega) hg_O) fX1_70 dX1_drawKept_89 rfl ?_
                refine r_iload (pc := 92) dX1_drawKept_92 rfl ?_
                refine t_ialdX (pc := 94) (t0 := 0) ht78 (rd_DX (by omega) hxg_T) dX1_drawKept_94 rfl (by omega) (by omega) (fun b80 => ?_)
                have rb80 := (show Rfx gm 0 ((gn : Int) - 1) T by assumption) (Int.toNat v31_5) (by omega)
                refine r_istore (pc := 95) (lv' := [(7, .int (iv (T (Int.toNat v31_5)))), (6, .int (iv (F (Int.toNat v31_5)))), (0, .ref s), (1, .ref ga), (2, .int (iv x2)), (3, .int (iv x3)), (4, .int (iv v31_4)), (5, .int (iv v31_5))]) dX1_drawKept_95 (by decide) rfl ?_
                refine r_aload_n (pc := 97) dX1_drawKept_97 (i := 0) rfl rfl ?_
                refine r_iload (pc := 98) dX1_drawKept_98 rfl ?_
                refine r_iload (pc := 100) dX1_drawKept_100 rfl ?_
                refine r_aload_n (pc := 102) dX1_drawKept_102 (i := 1) rfl rfl ?_
                refine t_getE (pc := 103) (.ref gW) ht78 (rd_DX (by omega) hg_O) fX1_72 dX1_drawKept_103 rfl ?_
                refine r_iload (pc := 106) dX1_drawKept_106 rfl ?_
                refine t_ialdX (pc := 108) (t0 := 0) ht78 (rd_DX (by omega) hxg_W) dX1_drawKept_108 rfl (by omega) (by omega) (fun b81 => ?_)
                have rb81 := (show Rfx gm (-1000) 1000 W by assumption) (Int.toNat v31_5) (by omega)
                refine r_aload_n (pc := 109) dX1_drawKept_109 (i := 1) rfl rfl ?_
                refine t_getE (pc := 110) (.ref gC) ht78 (rd_DX (by omega) hg_O) fX1_73 dX1_drawKept_110 rfl ?_
                refine r_iload (pc := 113) dX1_drawKept_113 rfl ?_
                refine t_ialdX (pc := 115) (t0 := 0) ht78 (rd_DX (by omega) hxg_C) dX1_drawKept_115 rfl (by omega) (by omega) (fun b82 => ?_)
                have rb82 := (show Rfx gm (-1000) 1000 C by assumption) (Int.toNat v31_5) (by omega)
                obtain ⟨fs87, hfs87⟩ := t_obj ht78 (rd_of DX_0)
                refine r_callV (pc := 116) (as := [.int (iv (F (Int.toNat v31_5))), .int (iv (T (Int.toNat v31_5))), .int (iv (W (Int.toNat v31_5))), .int (iv (C (Int.toNat v31_5)))]) (st := []) kX1_74 rfl dX1_drawKept_116 hfs87 (d_X1_add (d := d - 1) (x1 := F (Int.toNat v31_5)) (x2 := T (Int.toNat v31_5)) (x3 := W (Int.toNat v31_5)) (x4 := C (Int.toNat v31_5)) (by omega)  (by omega) ht78 (by omega) (by omega) (by omega) (by omega)) rfl (by omega) (Nat.le_of_ble_eq_true rfl) (Nat.zero_le _) (Nat.zero_le _) rfl (fun r84 hp83 n85 hq86 => ?_)
                obtain ⟨hnn85, bb_89, k1_90, f1_91, t1_92, w1_93, c1_94, ht88, hrr84, hhq860, hhq861, hhq862, hhq863⟩ := hq86
                subst n85 r84
                have hhq860 : (bb_89 = 1 ∧ ka31 < 60 ∧ k1_90 = ka31 + 1) ∨ (bb_89 = 0 ∧ 60 ≤ ka31 ∧ k1_90 = ka31) := hhq860
                have hhq861 : ka31 < 60 → f1_91 = fup kf31 (Int.toNat ka31) (F (Int.toNat v31_5)) ∧ t1_92 = fup kt31 (Int.toNat ka31) (T (Int.toNat v31_5)) ∧ w1_93 = fup kw31 (Int.toNat ka31) (W (Int.toNat v31_5)) ∧ c1_94 = fup kc31 (Int.toNat ka31) (C (Int.toNat v31_5)) := hhq861
                have hhq862 : 60 ≤ ka31 → f1_91 = kf31 ∧ t1_92 = kt31 ∧ w1_93 = kw31 ∧ c1_94 = kc31 := hhq862
                have hhq863 : 0 ≤ k1_90 ∧ k1_90 ≤ 60 := hhq863
                change Rn _ _ _ 119 _ [.int (iv bb_89)] _ _ _ _ _
                have hapq95 : arP f1_91 t1_92 w1_93 c1_94 k1_90 (gn : Int) := ar_add (by assumption) (by omega) (by omega) (by omega) (by omega) (by omega) hhq860 hhq861 hhq862
                have hc0 := hhq860
                have hc1 := hhq861
                have hrow : (kpL gm gdr F T W C x2 x3) (Int.toNat v31_5) = [(F (Int.toNat v31_5), T (Int.toNat v31_5), W (Int.toNat v31_5), C (Int.toNat v31_5))] := by
                  show sel _ _ = _
                  rw [sel_y ((fk.2 (by omega)).mp (by omega))]
                  unfold kpE
                  (repeat' split) <;> first | rfl | (exfalso; omega)
                have hpl9 : PL ([] ++ acc (kpL gm gdr F T W C x2 x3) (Int.toNat (v31_5 + 1))) k1_90 f1_91 t1_92 w1_93 c1_94 := PL_add (by assumption) (by omega) hrow hc0 hc1 (by omega)
                refine t_if_eq (pc := 119) (tgt := 131) dX1_drawKept_119 (by decide) (by omega) (fun c119 => ?_) (fun c119 => ?_)
                · refine r_iconst (pc := 131) (v := iv 0) dX1_drawKept_131 (by decide) ?_
                  refine r_istore (pc := 132) (lv' := [(4, .int (iv 0)), (7, .int (iv (T (Int.toNat v31_5)))), (6, .int (iv (F (Int.toNat v31_5)))), (0, .ref s), (1, .ref ga), (2, .int (iv x2)), (3, .int (iv x3)), (5, .int (iv v31_5))]) dX1_drawKept_132 (by decide) rfl ?_
                  refine r_iinc (pc := 134) (v := iv (v31_5 + 1)) (lv' := [(5, .int (iv (v31_5 + 1))), (4, .int (iv 0)), (7, .int (iv (T (Int.toNat v31_5)))), (6, .int (iv (F (Int.toNat v31_5)))), (0, .ref s), (1, .ref ga), (2, .int (iv x2)), (3, .int (iv x3))]) dX1_drawKept_134 rfl (iv_add _ _) (by decide) rfl ?_
                  refine r_goto (pc := 137) (tgt := 31) dX1_drawKept_137 (by decide) ?_
                  refine Rn.pick (lv' := [(0, .ref s), (1, .ref ga), (2, .int (iv x2)), (3, .int (iv x3)), (4, .int (iv 0)), (5, .int (iv (v31_5 + 1)))]) [4, 5, 6, 7, 1, 0] rfl ?_
                  exact ih31 (Int.toNat (60 - (v31_5 + 1))) (by omega) k1_90 f1_91 t1_92 w1_93 c1_94 _ ht88 0 (v31_5 + 1) ⟨by omega, by omega, by omega, by omega, by omega, by omega, by omega, by omega, by omega, by assumption, by (first | assumption | exact PL_n (by assumption) (by omega) (sel_n (fun h9 => by have h8 := (fk.2 (by omega)).mpr h9; omega)))⟩ (by omega)
                · refine r_iload (pc := 122) dX1_drawKept_122 rfl ?_
                  refine t_if_eq (pc := 124) (tgt := 131) dX1_drawKept_124 (by decide) (by omega) (fun c124 => ?_) (fun c124 => ?_)
                  · refine r_iconst (pc := 131) (v := iv 0) dX1_drawKept_131 (by decide) ?_
                    refine r_istore (pc := 132) (lv' := [(4, .int (iv 0)), (7, .int (iv (T (Int.toNat v31_5)))), (6, .int (iv (F (Int.toNat v31_5)))), (0, .ref s), (1, .ref ga), (2, .int (iv x2)), (3, .int (iv x3)), (5, .int (iv v31_5))]) dX1_drawKept_132 (by decide) rfl ?_
                    refine r_iinc (pc := 134) (v := iv (v31_5 + 1)) (lv' := [(5, .int (iv (v31_5 + 1))), (4, .int (iv 0)), (7, .int (iv (T (Int.toNat v31_5)))), (6, .int (iv (F (Int.toNat v31_5)))), (0, .ref s), (1, .ref ga), (2, .int (iv x2)), (3, .int (iv x3))]) dX1_drawKept_134 rfl (iv_add _ _) (by decide) rfl ?_
                    refine r_goto (pc := 137) (tgt := 31) dX1_drawKept_137 (by decide) ?_
                    refine Rn.pick (lv' := [(0, .ref s), (1, .ref ga), (2, .int (iv x2)), (3, .int (iv x3)), (4, .int (iv 0)), (5, .int (iv (v31_5 + 1)))]) [4, 5, 6, 7, 1, 0] rfl ?_
                    exact ih31 (Int.toNat (60 - (v31_5 + 1))) (by omega) k1_90 f1_91 t1_92 w1_93 c1_94 _ ht88 0 (v31_5 + 1) ⟨by omega, by omega, by omega, by omega, by omega, by omega, by omega, by omega, by omega, by assumption, by (first | assumption | exact PL_n (by assumption) (by omega) (sel_n (fun h9 => by have h8 := (fk.2 (by omega)).mpr h9; omega)))⟩ (by omega)
                  · refine r_iconst (pc := 127) (v := iv 1) dX1_drawKept_127 (by decide) ?_
                    refine r_goto (pc := 128) (tgt := 132) dX1_drawKept_128 (by decide) ?_
                    refine r_istore (pc := 132) (lv' := [(4, .int (iv 1)), (7, .int (iv (T (Int.toNat v31_5)))), (6, .int (iv (F (Int.toNat v31_5)))), (0, .ref s), (1, .ref ga), (2, .int (iv x2)), (3, .int (iv x3)), (5, .int (iv v31_5))]) dX1_drawKept_132 (by decide) rfl ?_
                    refine r_iinc (pc := 134) (v := iv (v31_5 + 1)) (lv' := [(5, .int (iv (v31_5 + 1))), (4, .int (iv 1)), (7, .int (iv (T (Int.toNat v31_5)))), (6, .int (iv (F (Int.toNat v31_5)))), (0, .ref s), (1, .ref ga), (2, .int (iv x2)), (3, .int (iv x3))]) dX1_drawKept_134 rfl (iv_add _ _) (by decide) rfl ?_
                    refine r_goto (pc := 137) (tgt := 31) dX1_drawKept_137 (by decide) ?_
                    refine Rn.pick (lv' := [(0, .ref s), (1, .ref ga), (2, .int (iv x2)), (3, .int (iv x3)), (4, .int (iv 1)), (5, .int (iv (v31_5 + 1)))]) [4, 5, 6, 7, 1, 0] rfl ?_
                    exact ih31 (Int.toNat (60 - (v31_5 + 1))) (by omega) k1_90 f1_91 t1_92 w1_93 c1_94 _ ht88 1 (v31_5 + 1) ⟨by omega, by omega, by omega, by omega, by omega, by omega, by omega, by omega, by omega, by assumption, by (first | assumption | exact PL_n (by assumption) (by omega) (sel_n (fun h9 => by have h8 := (fk.2 (by omega)).mpr h9; omega)))⟩ (by omega)
              · exfalso
                omega
            · refine r_aload_n (pc := 55) dX1_drawKept_55 (i := 1) rfl rfl ?_
              refine t_getE (pc := 56) (.ref gT) ht78 (rd_DX (by omega) hg_O) fX1_70 dX1_drawKept_56 rfl ?_
              refine r_iload (pc := 59) dX1_drawKept_59 rfl ?_
              refine t_ialdX (pc := 61) (t0 := 0) ht78 (rd_DX (by omega) hxg_T) dX1_drawKept_61 rfl (by omega) (by omega) (fun b96 => ?_)
              have rb96 := (show Rfx gm 0 ((gn : Int) - 1) T by assumption) (Int.toNat v31_5) (by omega)
              refine r_goto (pc := 62) (tgt := 72) dX1_drawKept_62 (by decide) ?_
              refine r_istore (pc := 72) (lv' := [(6, .int (iv (T (Int.toNat v31_5)))), (0, .ref s), (1, .ref ga), (2, .int (iv x2)), (3, .int (iv x3)), (4, .int (iv v31_4)), (5, .int (iv v31_5))]) dX1_drawKept_72 (by decide) rfl ?_
              refine r_iload_n (pc := 74) dX1_drawKept_74 (i := 2) rfl rfl ?_
              refine t_if_ne (pc := 75) (tgt := 88) dX1_drawKept_75 (by decide) (by omega) (fun c75 => ?_) (fun c75 => ?_)
              · exfalso
                omega
              · refine r_aload_n (pc := 78) dX1_drawKept_78 (i := 1) rfl rfl ?_
                refine t_getE (pc := 79) (.ref gF) ht78 (rd_DX (by omega) hg_O) fX1_71 dX1_drawKept_79 rfl ?_
                refine r_iload (pc := 82) dX1_drawKept_82 rfl ?_
                refine t_ialdX (pc := 84) (t0 := 0) ht78 (rd_DX (by omega) hxg_F) dX1_drawKept_84 rfl (by omega) (by omega) (fun b97 => ?_)
                have rb97 := (show Rfx gm 0 ((gn : Int) - 1) F by assumption) (Int.toNat v31_5) (by omega)
                refine r_goto (pc := 85) (tgt := 95) dX1_drawKept_85 (by decide) ?_
                refine r_istore (pc := 95) (lv' := [(7, .int (iv (F (Int.toNat v31_5)))), (6, .int (iv (T (Int.toNat v31_5)))), (0, .ref s), (1, .ref ga), (2, .int (iv x2)), (3, .int (iv x3)), (4, .int (iv v31_4)), (5, .int (iv v31_5))]) dX1_drawKept_95 (by decide) rfl ?_
                refine r_aload_n (pc := 97) dX1_drawKept_97 (i := 0) rfl rfl ?_
                refine r_iload (pc := 98) dX1_drawKept_98 rfl ?_
                refine r_iload (pc := 100) dX1_drawKept_100 rfl ?_
                refine r_aload_n (pc := 102) dX1_drawKept_102 (i := 1) rfl rfl ?_
                refine t_getE (pc := 103) (.ref gW) ht78 (rd_DX (by omega) hg_O) fX1_72 dX1_drawKept_103 rfl ?_
                refine r_iload (pc := 106) dX1_drawKept_106 rfl ?_
                refine t_ialdX (pc := 108) (t0 := 0) ht78 (rd_DX (by omega) hxg_W) dX1_drawKept_108 rfl (by omega) (by omega) (fun b98 => ?_)
                have rb98 := (show Rfx gm (-1000) 1000 W by assumption) (Int.toNat v31_5) (by omega)
                refine r_aload_n (pc := 109) dX1_drawKept_109 (i := 1) rfl rfl ?_
                refine t_getE (pc := 110) (.ref gC) ht78 (rd_DX (by omega) hg_O) fX1_73 dX1_drawKept_110 rfl ?_
                refine r_iload (pc := 113) dX1_drawKept_113 rfl ?_
                refine t_ialdX (pc := 115) (t0 := 0) ht78 (rd_DX (by omega) hxg_C) dX1_drawKept_115 rfl (by omega) (by omega) (fun b99 => ?_)
                have rb99 := (show Rfx gm (-1000) 1000 C by assumption) (Int.toNat v31_5) (by omega)
                obtain ⟨fs104, hfs104⟩ := t_obj ht78 (rd_of DX_0)
                refine r_callV (pc := 116) (as := [.int (iv (T (Int.toNat v31_5))), .int (iv (F (Int.toNat v31_5))), .int (iv (W (Int.toNat v31_5))), .int (iv (C (Int.toNat v31_5)))]) (st := []) kX1_74 rfl dX1_drawKept_116 hfs104 (d_X1_add (d := d - 1) (x1 := T (Int.toNat v31_5)) (x2 := F (Int.toNat v31_5)) (x3 := W (Int.toNat v31_5)) (x4 := C (Int.toNat v31_5)) (by omega)  (by omega) ht78 (by omega) (by omega) (by omega) (by omega)) rfl (by omega) (Nat.le_of_ble_eq_true rfl) (Nat.zero_le _) (Nat.zero_le _) rfl (fun r101 hp100 n102 hq103 => ?_)
                obtain ⟨hnn102, bb_106, k1_107, f1_108, t1_109, w1_110, c1_111, ht105, hrr101, hhq1030, hhq1031, hhq1032, hhq1033⟩ := hq103
                subst n102 r101
                have hhq1030 : (bb_106 = 1 ∧ ka31 < 60 ∧ k1_107 = ka31 + 1) ∨ (bb_106 = 0 ∧ 60 ≤ ka31 ∧ k1_107 = ka31) := hhq1030
                have hhq1031 : ka31 < 60 → f1_108 = fup kf31 (Int.toNat ka31) (T (Int.toNat v31_5)) ∧ t1_109 = fup kt31 (Int.toNat ka31) (F (Int.toNat v31_5)) ∧ w1_110 = fup kw31 (Int.toNat ka31) (W (Int.toNat v31_5)) ∧ c1_111 = fup kc31 (Int.toNat ka31) (C (Int.toNat v31_5)) := hhq1031
                have hhq1032 : 60 ≤ ka31 → f1_108 = kf31 ∧ t1_109 = kt31 ∧ w1_110 = kw31 ∧ c1_111 = kc31 := hhq1032
                have hhq1033 : 0 ≤ k1_107 ∧ k1_107 ≤ 60 := hhq1033
                change Rn _ _ _ 119 _ [.int (iv bb_106)] _ _ _ _ _
                have hapq112 : arP f1_108 t1_109 w1_110 c1_111 k1_107 (gn : Int) := ar_add (by assumption) (by omega) (by omega) (by omega) (by omega) (by omega) hhq1030 hhq1031 hhq1032
                have hc0 := hhq1030
                have hc1 := hhq1031
                have hrow : (kpL gm gdr F T W C x2 x3) (Int.toNat v31_5) = [(T (Int.toNat v31_5), F (Int.toNat v31_5), W (Int.toNat v31_5), C (Int.toNat v31_5))] := by
                  show sel _ _ = _
                  rw [sel_y ((fk.2 (by omega)).mp (by omega))]
                  unfold kpE
                  (repeat' split) <;> first | rfl | (exfalso; omega)
                have hpl9 : PL ([] ++ acc (kpL gm gdr F T W C x2 x3) (Int.toNat (v31_5 + 1))) k1_107 f1_108 t1_109 w1_110 c1_111 := PL_add (by assumption) (by omega) hrow hc0 hc1 (by omega)
                refine t_if_eq (pc := 119) (tgt := 131) dX1_drawKept_119 (by decide) (by omega) (fun c119 => ?_) (fun c119 => ?_)
                · refine r_iconst (pc := 131) (v := iv 0) dX1_drawKept_131 (by decide) ?_
                  refine r_istore (pc := 132) (lv' := [(4, .int (iv 0)), (7, .int (iv (F (Int.toNat v31_5)))), (6, .int (iv (T (Int.toNat v31_5)))), (0, .ref s), (1, .ref ga), (2, .int (iv x2)), (3, .int (iv x3)), (5, .int (iv v31_5))]) dX1_drawKept_132 (by decide) rfl ?_
                  refine r_iinc (pc := 134) (v := iv (v31_5 + 1)) (lv' := [(5, .int (iv (v31_5 + 1))), (4, .int (iv 0)), (7, .int (iv (F (Int.toNat v31_5)))), (6, .int (iv (T (Int.toNat v31_5)))), (0, .ref s), (1, .ref ga), (2, .int (iv x2)), (3, .int (iv x3))]) dX1_drawKept_134 rfl (iv_add _ _) (by decide) rfl ?_
                  refine r_goto (pc := 137) (tgt := 31) dX1_drawKept_137 (by decide) ?_
                  refine Rn.pick (lv' := [(0, .ref s), (1, .ref ga), (2, .int (iv x2)), (3, .int (iv x3)), (4, .int (iv 0)), (5, .int (iv (v31_5 + 1)))]) [4, 5, 6, 7, 1, 0] rfl ?_
                  exact ih31 (Int.toNat (60 - (v31_5 + 1))) (by omega) k1_107 f1_108 t1_109 w1_110 c1_111 _ ht105 0 (v31_5 + 1) ⟨by omega, by omega, by omega, by omega, by omega, by omega, by omega, by omega, by omega, by assumption, by (first | assumption | exact PL_n (by assumption) (by omega) (sel_n (fun h9 => by have h8 := (fk.2 (by omega)).mpr h9; omega)))⟩ (by omega)
                · refine r_iload (pc := 122) dX1_drawKept_122 rfl ?_
                  refine t_if_eq (pc := 124) (tgt := 131) dX1_drawKept_124 (by decide) (by omega) (fun c124 => ?_) (fun c124 => ?_)
                  · refine r_iconst (pc := 131) (v := iv 0) dX1_drawKept_131 (by decide) ?_
                    refine r_istore (pc := 132) (lv' := [(4, .int (iv 0)), (7, .int (iv (F (Int.toNat v31_5)))), (6, .int (iv (T (Int.toNat v31_5)))), (0, .ref s), (1, .ref ga), (2, .int (iv x2)), (3, .int (iv x3)), (5, .int (iv v31_5))]) dX1_drawKept_132 (by decide) rfl ?_
                    refine r_iinc (pc := 134) (v := iv (v31_5 + 1)) (lv' := [(5, .int (iv (v31_5 + 1))), (4, .int (iv 0)), (7, .int (iv (F (Int.toNat v31_5)))), (6, .int (iv (T (Int.toNat v31_5)))), (0, .ref s), (1, .ref ga), (2, .int (iv x2)), (3, .int (iv x3))]) dX1_drawKept_134 rfl (iv_add _ _) (by decide) rfl ?_
                    refine r_goto (pc := 137) (tgt := 31) dX1_drawKept_137 (by decide) ?_
                    refine Rn.pick (lv' := [(0, .ref s), (1, .ref ga), (2, .int (iv x2)), (3, .int (iv x3)), (4, .int (iv 0)), (5, .int (iv (v31_5 + 1)))]) [4, 5, 6, 7, 1, 0] rfl ?_
                    exact ih31 (Int.toNat (60 - (v31_5 + 1))) (by omega) k1_107 f1_108 t1_109 w1_110 c1_111 _ ht105 0 (v31_5 + 1) ⟨by omega, by omega, by omega, by omega, by omega, by omega, by omega, by omega, by omega, by assumption, by (first | assumption | exact PL_n (by assumption) (by omega) (sel_n (fun h9 => by have h8 := (fk.2 (by omega)).mpr h9; omega)))⟩ (by omega)
                  · refine r_iconst (pc := 127) (v := iv 1) dX1_drawKept_127 (by decide) ?_
                    refine r_goto (pc := 128) (tgt := 132) dX1_drawKept_128 (by decide) ?_
                    refine r_istore (pc := 132) (lv' := [(4, .int (iv 1)), (7, .int (iv (F (Int.toNat v31_5)))), (6, .int (iv (T (Int.toNat v31_5)))), (0, .ref s), (1, .ref ga), (2, .int (iv x2)), (3, .int (iv x3)), (5, .int (iv v31_5))]) dX1_drawKept_132 (by decide) rfl ?_
                    refine r_iinc (pc := 134) (v := iv (v31_5 + 1)) (lv' := [(5, .int (iv (v31_5 + 1))), (4, .int (iv 1)), (7, .int (iv (F (Int.toNat v31_5)))), (6, .int (iv (T (Int.toNat v31_5)))), (0, .ref s), (1, .ref ga), (2, .int (iv x2)), (3, .int (iv x3))]) dX1_drawKept_134 rfl (iv_add _ _) (by decide) rfl ?_
                    refine r_goto (pc := 137) (tgt := 31) dX1_drawKept_137 (by decide) ?_
                    refine Rn.pick (lv' := [(0, .ref s), (1, .ref ga), (2, .int (iv x2)), (3, .int (iv x3)), (4, .int (iv 1)), (5, .int (iv (v31_5 + 1)))]) [4, 5, 6, 7, 1, 0] rfl ?_
                    exact ih31 (Int.toNat (60 - (v31_5 + 1))) (by omega) k1_107 f1_108 t1_109 w1_110 c1_111 _ ht105 1 (v31_5 + 1) ⟨by omega, by omega, by omega, by omega, by omega, by omega, by omega, by omega, by omega, by assumption, by (first | assumption | exact PL_n (by assumption) (by omega) (sel_n (fun h9 => by have h8 := (fk.2 (by omega)).mpr h9; omega)))⟩ (by omega)
      refine Rn.pick (lv' := [(0, .ref s), (1, .ref ga), (2, .int (iv x2)), (3, .int (iv x3)), (4, .int (iv 1)), (5, .int (iv 0))]) [2, 3, 4, 5, 1, 0] rfl ?_
      exact B31 (Int.toNat (60 - 0)) 0 kf kt kw kc _ ht75 1 0 ⟨by omega, by omega, by omega, by omega, by omega, by omega, by omega, by omega, by omega, by assumption, by (first | assumption | exact PL_n (by assumption) (by omega) (sel_n (fun h9 => by have h8 := (fk.2 (by omega)).mpr h9; omega)))⟩ (by omega)
def qd_X1_drawPart (Γ : TG) (cI cJ cZ cT : ClassId) (s : Nat) (n : Nat) (kn : Int) (kd : Int) (ka : Int) (kf : Nat → Int) (kt : Nat → Int) (kw : Nat → Int) (kc : Nat → Int) (lt : Nat → Int) (ga : Nat) (gF : Nat) (gT : Nat) (gW : Nat) (gC : Nat) (gTl : Nat) (gHd : Nat) (gBy : Nat) (gOu : Nat) (gIn : Nat) (gJo : Nat) (gn : Nat) (gm : Nat) (gq : Nat) (gdr : Int) (x2 : Int) (F T W C Tl Hd By Ou In Jo : Nat → Int) : Option Value → MH → Nat → Prop := fun r hp1 n1 => n1 = n ∧ ∃ (n1 : Int) (d1 : Int) (k1 : Int) (f1 : Nat → Int) (t1 : Nat → Int) (w1 : Nat → Int) (c1 : Nat → Int) (l1 : Nat → Int) (bb : Int), Tw (DX Γ cI cJ cZ cT s n1 d1 k1 f1 t1 w1 c1 l1) hp1 ∧ r = some (.int (iv bb)) ∧ (1 ≤ n1 ∧ n1 ≤ 16) ∧ (0 ≤ d1 ∧ d1 ≤ 1) ∧ (0 ≤ k1 ∧ k1 ≤ 60) ∧ (arP f1 t1 w1 c1 k1 n1) ∧ (Rfx 256 (-1000) 5000 l1) ∧ (drwP (acc (kpL gm gdr F T W C 4 x2) gm) bb k1 f1 t1 w1 c1) ∧ (n1 = (bcI x2 16)) ∧ (d1 = gdr)
