set_option maxHeartbeats 4000000 in
set_option maxRecDepth 100000 in
theorem d_X1_drawPart {D : va_G} {cI cJ cZ cT : ClassId} {lo b L : Nat} {xs : Nat → Int32} {hp : MH} {n d : Nat} {Γ : TG} {s : Nat} {kn : Int} {kd : Int} {ka : Int} {kf : Nat → Int} {kt : Nat → Int} {kw : Nat → Int} {kc : Nat → Int} {lt : Nat → Int} {ga : Nat} {gF : Nat} {gT : Nat} {gW : Nat} {gC : Nat} {gTl : Nat} {gHd : Nat} {gBy : Nat} {gOu : Nat} {gIn : Nat} {gJo : Nat} {gn : Nat} {gm : Nat} {gq : Nat} {gdr : Int} {x2 : Int} {F T W C Tl Hd By Ou In Jo : Nat → Int} (hd0 : 2 ≤ d) (hg : TyG Γ cI cJ cZ ga gF gT gW gC gTl gHd gBy gOu gIn gJo gn gm gq gdr) (hltg : s + 6 ≤ ga ∧ s + 6 ≤ gF ∧ s + 6 ≤ gT ∧ s + 6 ≤ gW ∧ s + 6 ≤ gC ∧ s + 6 ≤ gTl ∧ s + 6 ≤ gHd ∧ s + 6 ≤ gBy ∧ s + 6 ≤ gOu ∧ s + 6 ≤ gIn ∧ s + 6 ≤ gJo) (hn_kn : 1 ≤ kn ∧ kn ≤ 16) (hn_kd : 0 ≤ kd ∧ kd ≤ 1) (hn_ka : 0 ≤ ka ∧ ka ≤ 60) (ht : Tw (DX Γ cI cJ cZ cT s kn kd ka kf kt kw kc lt) hp) (hx2 : 1 ≤ x2 ∧ x2 ≤ 65535) (hlt9 : Rfx 256 (-1000) 5000 lt) (hxg : XG Γ cI gF gT gW gC gTl gHd gBy gOu gIn gJo gn gm gq F T W C Tl Hd By Ou In Jo) : Mt (gG D cI cJ cZ cT lo b L xs) mX1_drawPart d 0 0 [.ref s, .ref ga, .int (iv x2)] hp n (qd_X1_drawPart Γ cI cJ cZ cT s n kn kd ka kf kt kw kc lt ga gF gT gW gC gTl gHd gBy gOu gIn gJo gn gm gq gdr x2 F T W C Tl Hd By Ou In Jo) := by
  refine Mt.of rfl (Nat.le_of_ble_eq_true rfl) ?_
  refine Rn.pick (lv' := [(0, .ref s), (1, .ref ga), (2, .int (iv x2))]) [0, 1, 2] rfl ?_
  obtain ⟨hg_O, hg_from, hg_to, hg_weight, hg_cost, hg_tail, hg_head, hg_by, hg_out, hg_in, hg_joined, hg_b⟩ := id hg
  obtain ⟨⟨hxg_F, hxg_T, hxg_W, hxg_C, hxg_Tl, hxg_Hd, hxg_By, hxg_Ou, hxg_In, hxg_Jo⟩, ⟨hrg_F, hrg_T, hrg_W, hrg_C, hrg_Tl, hrg_Hd, hrg_By, hrg_Ou, hrg_In, hrg_Jo⟩, houg⟩ := id hxg
  have hbp := bc_pos (x := x2) (by omega)
  refine r_aload_n (pc := 0) dX1_drawPart_0 (i := 0) rfl rfl ?_
  refine r_iload_n (pc := 1) dX1_drawPart_1 (i := 2) rfl rfl ?_
  refine t_callSI (pc := 2) (as := [.int (iv x2)]) (st := [.ref s]) kX1_85 dX1_drawPart_2 (t_bitCountx (d := d - 1) (x := x2) (by omega) ht (by omega)) rfl (by omega) (Nat.le_of_ble_eq_true rfl) rfl (fun hp2 y1 ht3 by1 => ?_)
  have ey1 : y1 = bcI x2 16 := by1
  subst ey1
  have ry1 := bc_le x2 16
  refine r_aload_n (pc := 5) dX1_drawPart_5 (i := 1) rfl rfl ?_
  refine t_getE (pc := 6) (.int (iv gdr)) ht3 (rd_DX (by omega) hg_O) fX1_61 dX1_drawPart_6 rfl ?_
  obtain ⟨fs8, hfs8⟩ := t_obj ht3 (rd_of DX_0)
  refine r_callV (pc := 9) (as := [.int (iv (bcI x2 16)), .int (iv gdr)]) (st := []) kX1_62 rfl dX1_drawPart_9 hfs8 (d_X1_restart (d := d - 1) (x1 := bcI x2 16) (x2 := gdr) (by omega)  ht3 (by omega) (by omega)) rfl (by omega) (Nat.le_of_ble_eq_true rfl) (Nat.zero_le _) (Nat.zero_le _) rfl (fun r5 hp4 n6 hq7 => ?_)
  obtain ⟨hnn6, ht9, hrr5⟩ := hq7
  subst n6 r5
  change Rn _ _ _ 12 _ [] _ _ _ _ _
  have ha0 : arP kf kt kw kc 0 (bcI x2 16) := ar_0 _ _ _ _ _
  have hpl0 : PL ([] ++ acc (kpL gm gdr F T W C 4 x2) (Int.toNat 0)) 0 kf kt kw kc := PL_0 _ _ _ _
  refine r_iconst (pc := 12) (v := iv 1) dX1_drawPart_12 (by decide) ?_
  refine r_istore_n (pc := 13) (lv' := [(3, .int (iv 1)), (0, .ref s), (1, .ref ga), (2, .int (iv x2))]) dX1_drawPart_13 (i := 3) rfl (by decide) rfl ?_
  refine r_iconst (pc := 14) (v := iv 0) dX1_drawPart_14 (by decide) ?_
  refine r_istore (pc := 15) (lv' := [(4, .int (iv 0)), (3, .int (iv 1)), (0, .ref s), (1, .ref ga), (2, .int (iv x2))]) dX1_drawPart_15 (by decide) rfl ?_
  have B17 : ∀ k : Nat, ∀ ka17 : Int, ∀ kf17 : Nat → Int, ∀ kt17 : Nat → Int, ∀ kw17 : Nat → Int, ∀ kc17 : Nat → Int, ∀ hp17 : MH, Tw (DX Γ cI cJ cZ cT s (bcI x2 16) gdr ka17 kf17 kt17 kw17 kc17 lt) hp17 → ∀  (v17_3 : Int) (v17_4 : Int), 0 ≤ v17_3 ∧ v17_3 ≤ 1 ∧ 0 ≤ v17_4 ∧ v17_4 ≤ 60 ∧ (0 ≤ ka17) ∧ (ka17 ≤ 60) ∧ (ka17 ≤ v17_4) ∧ (v17_4 ≤ (gm : Int)) ∧ (v17_3 = 1) ∧ (arP kf17 kt17 kw17 kc17 ka17 (bcI x2 16)) ∧ (PL ([] ++ acc (kpL gm gdr F T W C 4 x2) (Int.toNat v17_4)) ka17 kf17 kt17 kw17 kc17) → 60 - v17_4 ≤ (k : Int) → Rn (gG D cI cJ cZ cT lo b L xs) mX1_drawPart d 17 [(0, .ref s), (1, .ref ga), (2, .int (iv x2)), (3, .int (iv v17_3)), (4, .int (iv v17_4))] [] hp17 n 0 0 (qd_X1_drawPart Γ cI cJ cZ cT s n kn kd ka kf kt kw kc lt ga gF gT gW gC gTl gHd gBy gOu gIn gJo gn gm gq gdr x2 F T W C Tl Hd By Ou In Jo) := by
    refine lpS _ ?_
    intro k17 ih17 ka17 kf17 kt17 kw17 kc17 hp17 ht17 v17_3 v17_4 hf17 hm17
    obtain ⟨hf17_0, hf17_1, hf17_2, hf17_3, hf17_4, hf17_5, hf17_6, hf17_7, hf17_8, ha17_9, ha17_10⟩ := hf17
    refine r_iload (pc := 17) dX1_drawPart_17 rfl ?_
    refine r_aload_n (pc := 19) dX1_drawPart_19 (i := 1) rfl rfl ?_
    refine t_getE (pc := 20) (.int (iv (gm : Int))) ht17 (rd_DX (by omega) hg_O) fX1_44 dX1_drawPart_20 rfl ?_
    refine t_icmp_ge (pc := 23) (tgt := 107) dX1_drawPart_23 (by decide) (by omega) (by omega) (fun c23 => ?_) (fun c23 => ?_)
    · refine r_iload_n (pc := 107) dX1_drawPart_107 (i := 3) rfl rfl ?_
      exact r_zret (pc := 108) dX1_drawPart_108 rfl (iv_nar (by omega)) ⟨rfl, (bcI x2 16), gdr, ka17, kf17, kt17, kw17, kc17, lt, v17_3, ht17, rfl, (by omega), (by omega), (by omega), (by (first | assumption | exact ar_0 _ _ _ _ _)), (by assumption), (by (rw [show v17_3 = 1 by omega]; have h8 : PL ([] ++ acc (kpL gm gdr F T W C 4 x2) (Int.toNat v17_4)) _ _ _ _ _ := (by assumption); rw [show v17_4 = (gm : Int) by omega, Int.toNat_natCast] at h8; exact dr_y h8 (by omega))), (by omega), (by omega)⟩
    · refine r_aload_n (pc := 26) dX1_drawPart_26 (i := 1) rfl rfl ?_
      refine t_getE (pc := 27) (.ref gF) ht17 (rd_DX (by omega) hg_O) fX1_71 dX1_drawPart_27 rfl ?_
      refine r_iload (pc := 30) dX1_drawPart_30 rfl ?_
      refine t_ialdX (pc := 32) (t0 := 0) ht17 (rd_DX (by omega) hxg_F) dX1_drawPart_32 rfl (by omega) (by omega) (fun b10 => ?_)
      have rb10 := (show Rfx gm 0 ((gn : Int) - 1) F by assumption) (Int.toNat v17_4) (by omega)
      refine r_istore (pc := 33) (lv' := [(5, .int (iv (F (Int.toNat v17_4)))), (0, .ref s), (1, .ref ga), (2, .int (iv x2)), (3, .int (iv v17_3)), (4, .int (iv v17_4))]) dX1_drawPart_33 (by decide) rfl ?_
      refine r_aload_n (pc := 35) dX1_drawPart_35 (i := 1) rfl rfl ?_
      refine t_getE (pc := 36) (.ref gT) ht17 (rd_DX (by omega) hg_O) fX1_70 dX1_drawPart_36 rfl ?_
      refine r_iload (pc := 39) dX1_drawPart_39 rfl ?_
      refine t_ialdX (pc := 41) (t0 := 0) ht17 (rd_DX (by omega) hxg_T) dX1_drawPart_41 rfl (by omega) (by omega) (fun b11 => ?_)
      have rb11 := (show Rfx gm 0 ((gn : Int) - 1) T by assumption) (Int.toNat v17_4) (by omega)
      refine r_istore (pc := 42) (lv' := [(6, .int (iv (T (Int.toNat v17_4)))), (5, .int (iv (F (Int.toNat v17_4)))), (0, .ref s), (1, .ref ga), (2, .int (iv x2)), (3, .int (iv v17_3)), (4, .int (iv v17_4))]) dX1_drawPart_42 (by decide) rfl ?_
      refine r_iload_n (pc := 44) dX1_drawPart_44 (i := 2) rfl rfl ?_
      refine r_iload (pc := 45) dX1_drawPart_45 rfl ?_
      have hq47 := shr_le (Int.toNat x2) (Int.toNat (F (Int.toNat v17_4)))
      refine r_ishr (pc := 47) (v := iv ((Int.toNat x2 >>> Int.toNat (F (Int.toNat v17_4)) : Nat) : Int)) dX1_drawPart_47 (shr_e (by omega) (by omega)) ?_
      refine r_iload_n (pc := 48) dX1_drawPart_48 (i := 2) rfl rfl ?_
      refine r_iload (pc := 49) dX1_drawPart_49 rfl ?_
      have hq51 := shr_le (Int.toNat x2) (Int.toNat (T (Int.toNat v17_4)))
      refine r_ishr (pc := 51) (v := iv ((Int.toNat x2 >>> Int.toNat (T (Int.toNat v17_4)) : Nat) : Int)) dX1_drawPart_51 (shr_e (by omega) (by omega)) ?_
      have hq52 := Nat.and_le_left (n := (Int.toNat x2 >>> Int.toNat (F (Int.toNat v17_4)))) (m := (Int.toNat x2 >>> Int.toNat (T (Int.toNat v17_4))))
      refine r_iand (pc := 52) (v := iv (((Int.toNat x2 >>> Int.toNat (F (Int.toNat v17_4))) &&& (Int.toNat x2 >>> Int.toNat (T (Int.toNat v17_4))) : Nat) : Int)) dX1_drawPart_52 (iv_and (by omega) (by omega)) ?_
      refine r_iconst (pc := 53) (v := iv 1) dX1_drawPart_53 (by decide) ?_
      refine r_iand (pc := 54) (v := iv ((((Int.toNat x2 >>> Int.toNat (F (Int.toNat v17_4))) &&& (Int.toNat x2 >>> Int.toNat (T (Int.toNat v17_4))) : Nat) : Int) % 2)) dX1_drawPart_54 (and1_e _ (by omega)) ?_
      refine t_if_eq (pc := 55) (tgt := 101) dX1_drawPart_55 (by decide) (by omega) (fun c55 => ?_) (fun c55 => ?_)
      · have hnb : ¬ (Me x2 (Int.toNat (F (Int.toNat v17_4))) ∧ Me x2 (Int.toNat (T (Int.toNat v17_4)))) := fun h9 => absurd (and2_me h9.1 h9.2) (by omega)
        refine r_iinc (pc := 101) (v := iv (v17_4 + 1)) (lv' := [(4, .int (iv (v17_4 + 1))), (6, .int (iv (T (Int.toNat v17_4)))), (5, .int (iv (F (Int.toNat v17_4)))), (0, .ref s), (1, .ref ga), (2, .int (iv x2)), (3, .int (iv v17_3))]) dX1_drawPart_101 rfl (iv_add _ _) (by decide) rfl ?_
        refine r_goto (pc := 104) (tgt := 17) dX1_drawPart_104 (by decide) ?_
        refine Rn.pick (lv' := [(0, .ref s), (1, .ref ga), (2, .int (iv x2)), (3, .int (iv v17_3)), (4, .int (iv (v17_4 + 1)))]) [3, 4, 5, 6, 0] rfl ?_
        exact ih17 (Int.toNat (60 - (v17_4 + 1))) (by omega) ka17 kf17 kt17 kw17 kc17 _ ht17 v17_3 (v17_4 + 1) ⟨by omega, by omega, by omega, by omega, by omega, by omega, by omega, by omega, by omega, by assumption, by (first | assumption | exact PL_n (by assumption) (by omega) (sel_n (fun h9 => hnb (h9.2.2.1 rfl))))⟩ (by omega)
      · have hab := and2_b (show _ ≠ 0 from c55)
        have hra := bc_lt (x := x2) hab.1 (by omega)
        have hrb := bc_lt (x := x2) hab.2 (by omega)
        have hma : Me x2 (Int.toNat (F (Int.toNat v17_4))) := Me_bit.mp (by omega)
        have hmb : Me x2 (Int.toNat (T (Int.toNat v17_4))) := Me_bit.mp (by omega)
        refine r_aload_n (pc := 58) dX1_drawPart_58 (i := 0) rfl rfl ?_
        refine r_iload_n (pc := 59) dX1_drawPart_59 (i := 2) rfl rfl ?_
        refine r_iload (pc := 60) dX1_drawPart_60 rfl ?_
        refine t_callSI (pc := 62) (as := [.int (iv x2), .int (iv (F (Int.toNat v17_4)))]) (st := [.ref s]) kX1_91 dX1_drawPart_62 (t_X1_rank (d := d - 1) (x0 := x2) (x1 := F (Int.toNat v17_4)) (by omega)   ht17 (by omega) (by omega) ) rfl (by omega) (Nat.le_of_ble_eq_true rfl) rfl (fun hp12 y14 ht13 by14 => ?_)
        have ey14 : y14 = bcI x2 (Int.toNat (F (Int.toNat v17_4))) := by14
        subst ey14
        have ry14 := bc_le x2 (Int.toNat (F (Int.toNat v17_4)))
        refine r_iload_n (pc := 65) dX1_drawPart_65 (i := 2) rfl rfl ?_
        refine r_iload (pc := 66) dX1_drawPart_66 rfl ?_
        refine t_callSI (pc := 68) (as := [.int (iv x2), .int (iv (T (Int.toNat v17_4)))]) (st := [.int (iv (bcI x2 (Int.toNat (F (Int.toNat v17_4))))), .ref s]) kX1_91 dX1_drawPart_68 (t_X1_rank (d := d - 1) (x0 := x2) (x1 := T (Int.toNat v17_4)) (by omega)   ht13 (by omega) (by omega) ) rfl (by omega) (Nat.le_of_ble_eq_true rfl) rfl (fun hp15 y17 ht16 by17 => ?_)
        have ey17 : y17 = bcI x2 (Int.toNat (T (Int.toNat v17_4))) := by17
        subst ey17
        have ry17 := bc_le x2 (Int.toNat (T (Int.toNat v17_4)))
        refine r_aload_n (pc := 71) dX1_drawPart_71 (i := 1) rfl rfl ?_
        refine t_getE (pc := 72) (.ref gW) ht16 (rd_DX (by omega) hg_O) fX1_72 dX1_drawPart_72 rfl ?_
        refine r_iload (pc := 75) dX1_drawPart_75 rfl ?_
        refine t_ialdX (pc := 77) (t0 := 0) ht16 (rd_DX (by omega) hxg_W) dX1_drawPart_77 rfl (by omega) (by omega) (fun b18 => ?_)
        have rb18 := (show Rfx gm (-1000) 1000 W by assumption) (Int.toNat v17_4) (by omega)
        refine r_aload_n (pc := 78) dX1_drawPart_78 (i := 1) rfl rfl ?_
        refine t_getE (pc := 79) (.ref gC) ht16 (rd_DX (by omega) hg_O) fX1_73 dX1_drawPart_79 rfl ?_
        refine r_iload (pc := 82) dX1_drawPart_82 rfl ?_
        refine t_ialdX (pc := 84) (t0 := 0) ht16 (rd_DX (by omega) hxg_C) dX1_drawPart_84 rfl (by omega) (by omega) (fun b19 => ?_)
        have rb19 := (show Rfx gm (-1000) 1000 C by assumption) (Int.toNat v17_4) (by omega)
        obtain ⟨fs24, hfs24⟩ := t_obj ht16 (rd_of DX_0)
        refine r_callV (pc := 85) (as := [.int (iv (bcI x2 (Int.toNat (F (Int.toNat v17_4))))), .int (iv (bcI x2 (Int.toNat (T (Int.toNat v17_4))))), .int (iv (W (Int.toNat v17_4))), .int (iv (C (Int.toNat v17_4)))]) (st := []) kX1_74 rfl dX1_drawPart_85 hfs24 (d_X1_add (d := d - 1) (x1 := bcI x2 (Int.toNat (F (Int.toNat v17_4)))) (x2 := bcI x2 (Int.toNat (T (Int.toNat v17_4)))) (x3 := W (Int.toNat v17_4)) (x4 := C (Int.toNat v17_4)) (by omega)  (by omega) ht16 (by omega) (by omega) (by omega) (by omega)) rfl (by omega) (Nat.le_of_ble_eq_true rfl) (Nat.zero_le _) (Nat.zero_le _) rfl (fun r21 hp20 n22 hq23 => ?_)
        obtain ⟨hnn22, bb_26, k1_27, f1_28, t1_29, w1_30, c1_31, ht25, hrr21, hhq230, hhq231, hhq232, hhq233⟩ := hq23
        subst n22 r21
        have hhq230 : (bb_26 = 1 ∧ ka17 < 60 ∧ k1_27 = ka17 + 1) ∨ (bb_26 = 0 ∧ 60 ≤ ka17 ∧ k1_27 = ka17) := hhq230
        have hhq231 : ka17 < 60 → f1_28 = fup kf17 (Int.toNat ka17) (bcI x2 (Int.toNat (F (Int.toNat v17_4)))) ∧ t1_29 = fup kt17 (Int.toNat ka17) (bcI x2 (Int.toNat (T (Int.toNat v17_4)))) ∧ w1_30 = fup kw17 (Int.toNat ka17) (W (Int.toNat v17_4)) ∧ c1_31 = fup kc17 (Int.toNat ka17) (C (Int.toNat v17_4)) := hhq231
        have hhq232 : 60 ≤ ka17 → f1_28 = kf17 ∧ t1_29 = kt17 ∧ w1_30 = kw17 ∧ c1_31 = kc17 := hhq232
        have hhq233 : 0 ≤ k1_27 ∧ k1_27 ≤ 60 := hhq233
        change Rn _ _ _ 88 _ [.int (iv bb_26)] _ _ _ _ _
        have hapq32 : arP f1_28 t1_29 w1_30 c1_31 k1_27 (bcI x2 16) := ar_add (by assumption) (by omega) (by omega) (by omega) (by omega) (by omega) hhq230 hhq231 hhq232
        have hc0 := hhq230
        have hc1 := hhq231
        have hrow : (kpL gm gdr F T W C 4 x2) (Int.toNat v17_4) = [(bcI x2 (Int.toNat (F (Int.toNat v17_4))), bcI x2 (Int.toNat (T (Int.toNat v17_4))), W (Int.toNat v17_4), C (Int.toNat v17_4))] := by
          show sel _ _ = _
          rw [sel_y ⟨fun e => by omega, fun e => by omega, fun _ => ⟨hma, hmb⟩, fun e => by omega⟩]
          rfl
        have hpl9 : PL ([] ++ acc (kpL gm gdr F T W C 4 x2) (Int.toNat (v17_4 + 1))) k1_27 f1_28 t1_29 w1_30 c1_31 := PL_add (by assumption) (by omega) hrow hc0 hc1 (by omega)
        refine t_if_eq (pc := 88) (tgt := 99) dX1_drawPart_88 (by decide) (by omega) (fun c88 => ?_) (fun c88 => ?_)
        · refine r_iconst (pc := 99) (v := iv 0) dX1_drawPart_99 (by decide) ?_
          refine r_istore_n (pc := 100) (lv' := [(3, .int (iv 0)), (6, .int (iv (T (Int.toNat v17_4)))), (5, .int (iv (F (Int.toNat v17_4)))), (0, .ref s), (1, .ref ga), (2, .int (iv x2)), (4, .int (iv v17_4))]) dX1_drawPart_100 (i := 3) rfl (by decide) rfl ?_
          refine r_iinc (pc := 101) (v := iv (v17_4 + 1)) (lv' := [(4, .int (iv (v17_4 + 1))), (3, .int (iv 0)), (6, .int (iv (T (Int.toNat v17_4)))), (5, .int (iv (F (Int.toNat v17_4)))), (0, .ref s), (1, .ref ga), (2, .int (iv x2))]) dX1_drawPart_101 rfl (iv_add _ _) (by decide) rfl ?_
          refine r_goto (pc := 104) (tgt := 17) dX1_drawPart_104 (by decide) ?_
          refine Rn.pick (lv' := [(0, .ref s), (1, .ref ga), (2, .int (iv x2)), (3, .int (iv 0)), (4, .int (iv (v17_4 + 1)))]) [4, 5, 6, 1, 0] rfl ?_
          exact ih17 (Int.toNat (60 - (v17_4 + 1))) (by omega) k1_27 f1_28 t1_29 w1_30 c1_31 _ ht25 0 (v17_4 + 1) ⟨by omega, by omega, by omega, by omega, by omega, by omega, by omega, by omega, by omega, by assumption, by (first | assumption | exact PL_n (by assumption) (by omega) (sel_n (fun h9 => hnb (h9.2.2.1 rfl))))⟩ (by omega)
        · refine r_iload_n (pc := 91) dX1_drawPart_91 (i := 3) rfl rfl ?_
          refine t_if_eq (pc := 92) (tgt := 99) dX1_drawPart_92 (by decide) (by omega) (fun c92 => ?_) (fun c92 => ?_)
          · refine r_iconst (pc := 99) (v := iv 0) dX1_drawPart_99 (by decide) ?_
            refine r_istore_n (pc := 100) (lv' := [(3, .int (iv 0)), (6, .int (iv (T (Int.toNat v17_4)))), (5, .int (iv (F (Int.toNat v17_4)))), (0, .ref s), (1, .ref ga), (2, .int (iv x2)), (4, .int (iv v17_4))]) dX1_drawPart_100 (i := 3) rfl (by decide) rfl ?_
            refine r_iinc (pc := 101) (v := iv (v17_4 + 1)) (lv' := [(4, .int (iv (v17_4 + 1))), (3, .int (iv 0)), (6, .int (iv (T (Int.toNat v17_4)))), (5, .int (iv (F (Int.toNat v17_4)))), (0, .ref s), (1, .ref ga), (2, .int (iv x2))]) dX1_drawPart_101 rfl (iv_add _ _) (by decide) rfl ?_
            refine r_goto (pc := 104) (tgt := 17) dX1_drawPart_104 (by decide) ?_
            refine Rn.pick (lv' := [(0, .ref s), (1, .ref ga), (2, .int (iv x2)), (3, .int (iv 0)), (4, .int (iv (v17_4 + 1)))]) [4, 5, 6, 1, 0] rfl ?_
            exact ih17 (Int.toNat (60 - (v17_4 + 1))) (by omega) k1_27 f1_28 t1_29 w1_30 c1_31 _ ht25 0 (v17_4 + 1) ⟨by omega, by omega, by omega, by omega, by omega, by omega, by omega, by omega, by omega, by assumption, by (first | assumption | exact PL_n (by assumption) (by omega) (sel_n (fun h9 => hnb (h9.2.2.1 rfl))))⟩ (by omega)
          · refine r_iconst (pc := 95) (v := iv 1) dX1_drawPart_95 (by decide) ?_
            refine r_goto (pc := 96) (tgt := 100) dX1_drawPart_96 (by decide) ?_
            refine r_istore_n (pc := 100) (lv' := [(3, .int (iv 1)), (6, .int (iv (T (Int.toNat v17_4)))), (5, .int (iv (F (Int.toNat v17_4)))), (0, .ref s), (1, .ref ga), (2, .int (iv x2)), (4, .int (iv v17_4))]) dX1_drawPart_100 (i := 3) rfl (by decide) rfl ?_
            refine r_iinc (pc := 101) (v := iv (v17_4 + 1)) (lv' := [(4, .int (iv (v17_4 + 1))), (3, .int (iv 1)), (6, .int (iv (T (Int.toNat v17_4)))), (5, .int (iv (F (Int.toNat v17_4)))), (0, .ref s), (1, .ref ga), (2, .int (iv x2))]) dX1_drawPart_101 rfl (iv_add _ _) (by decide) rfl ?_
            refine r_goto (pc := 104) (tgt := 17) dX1_drawPart_104 (by decide) ?_
            refine Rn.pick (lv' := [(0, .ref s), (1, .ref ga), (2, .int (iv x2)), (3, .int (iv 1)), (4, .int (iv (v17_4 + 1)))]) [4, 5, 6, 1, 0] rfl ?_
            exact ih17 (Int.toNat (60 - (v17_4 + 1))) (by omega) k1_27 f1_28 t1_29 w1_30 c1_31 _ ht25 1 (v17_4 + 1) ⟨by omega, by omega, by omega, by omega, by omega, by omega, by omega, by omega, by omega, by assumption, by (first | assumption | exact PL_n (by assumption) (by omega) (sel_n (fun h9 => hnb (h9.2.2.1 rfl))))⟩ (by omega)
  refine Rn.pick (lv' := [(0, .ref s), (1, .ref ga), (2, .int (iv x2)), (3, .int (iv 1)), (4, .int (iv 0))]) [2, 3, 4, 1, 0] rfl ?_
  exact B17 (Int.toNat (60 - 0)) 0 kf kt kw kc _ ht9 1 0 ⟨by omega, by omega, by omega, by omega, by omega, by omega, by omega, by omega, by omega, by assumption, by (first | assumption | exact PL_n (by assumption) (by omega) (sel_n (fun h9 => hnb (h9.2.2.1 rfl))))⟩ (by omega)
def qd_X1_fillLightest (Γ : TG) (cI cJ cZ cT : ClassId) (s : Nat) (n : Nat) (kn : Int) (kd : Int) (ka : Int) (kf : Nat → Int) (kt : Nat → Int) (kw : Nat → Int) (kc : Nat → Int) (lt : Nat → Int) (ga : Nat) (gF : Nat) (gT : Nat) (gW : Nat) (gC : Nat) (gTl : Nat) (gHd : Nat) (gBy : Nat) (gOu : Nat) (gIn : Nat) (gJo : Nat) (gn : Nat) (gm : Nat) (gq : Nat) (gdr : Int) (F T W C Tl Hd By Ou In Jo : Nat → Int) : Option Value → MH → Nat → Prop := fun r hp1 n1 => n1 = n ∧ ∃ (l1 : Nat → Int), Tw (DX Γ cI cJ cZ cT s kn kd ka kf kt kw kc l1) hp1 ∧ r = none ∧ (Rfx 256 (-1000) 5000 l1) ∧ (ltP gq Tl Hd By W l1)
