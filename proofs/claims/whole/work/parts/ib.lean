set_option maxHeartbeats 4000000 in
set_option maxRecDepth 100000 in
theorem c_X8_fillTablex {D : va_G} {cI cJ cZ cT : ClassId} {lo b L : Nat} {xs : Nat → Int32} {hp : MH} {n d : Nat} {Γ : TG} {ga : Nat} {gF : Nat} {gT : Nat} {gW : Nat} {gC : Nat} {gTl : Nat} {gHd : Nat} {gBy : Nat} {gOu : Nat} {gIn : Nat} {gJo : Nat} {gn : Nat} {gm : Nat} {gq : Nat} {gdr : Int} {F T W C Tl Hd By Ou In Jo : Nat → Int} {s : Nat} {tb : Nat → Int64} {x2 : Int} (hd0 : 1 ≤ d) (hg : TyG Γ cI cJ cZ ga gF gT gW gC gTl gHd gBy gOu gIn gJo gn gm gq gdr) (hxg : XG Γ cI gF gT gW gC gTl gHd gBy gOu gIn gJo gn gm gq F T W C Tl Hd By Ou In Jo) (hsp : s + 2 ≤ ga ∧ s + 2 ≤ gF ∧ s + 2 ≤ gT ∧ s + 2 ≤ gW ∧ s + 2 ≤ gC ∧ s + 2 ≤ gTl ∧ s + 2 ≤ gHd ∧ s + 2 ≤ gBy ∧ s + 2 ≤ gOu ∧ s + 2 ≤ gIn ∧ s + 2 ≤ gJo) (hO : rd Γ s (tO 8 [fE (.ref (s + 1))])) (ht : Tw (ov Γ (s + 1) (xJ cJ 256 tb)) hp) (hx2 : 0 ≤ x2 ∧ x2 ≤ 15) : Mt (gG D cI cJ cZ cT lo b L xs) mX8_fillTable d 0 0 [.ref s, .ref ga, .int (iv x2)] hp n (fun r9 hp1 n1 => n1 = n ∧ r9 = none ∧ ∃ tb1 : Nat → Int64, Tw (ov Γ (s + 1) (xJ cJ 256 tb1)) hp1 ∧ ftI F T tb1 (Int.toNat x2) gm) := by
  refine Mt.of rfl (Nat.le_of_ble_eq_true rfl) ?_
  refine Rn.pick (lv' := [(0, .ref s), (1, .ref ga), (2, .int (iv x2))]) [0, 1, 2] rfl ?_
  obtain ⟨hg_O, hg_from, hg_to, hg_weight, hg_cost, hg_tail, hg_head, hg_by, hg_out, hg_in, hg_joined, hg_b⟩ := id hg
  obtain ⟨⟨hxg_F, hxg_T, hxg_W, hxg_C, hxg_Tl, hxg_Hd, hxg_By, hxg_Ou, hxg_In, hxg_Jo⟩, ⟨hrg_F, hrg_T, hrg_W, hrg_C, hrg_Tl, hrg_Hd, hrg_By, hrg_Ou, hrg_In, hrg_Jo⟩, houg⟩ := id hxg
  have hgb := hg_b
  refine r_aload_n (pc := 0) dX8_fillTable_0 (i := 0) rfl rfl ?_
  refine t_getE (pc := 1) (.ref (s + 1)) ht (rd_ov (by omega) hO) fX8_9 dX8_fillTable_1 rfl ?_
  refine r_lconst (pc := 4) (v := 0) dX8_fillTable_4 (by decide) ?_
  have hk4 : (0 : Int64).toInt = 0 := by decide
  refine t_fillJX (pc := 5) ht (rd_of (ov_s _ _ _)) kX8_118 dX8_fillTable_5 (by omega) (by omega) (Nat.le_of_ble_eq_true rfl) (fun hp1 ht2 => ?_)
  rw [ov_ov] at ht2
  refine r_iconst (pc := 8) (v := iv 0) dX8_fillTable_8 (by decide) ?_
  refine r_istore_n (pc := 9) (lv' := [(3, .int (iv 0)), (0, .ref s), (1, .ref ga), (2, .int (iv x2))]) dX8_fillTable_9 (i := 3) rfl (by decide) rfl ?_
  have B10 : ∀ k : Nat, ∀ tb10 : Nat → Int64, ∀ hp10 : MH, Tw (ov Γ (s + 1) (xJ cJ 256 tb10)) hp10 → ∀  (v10_3 : Int), 0 ≤ v10_3 ∧ v10_3 ≤ 60 ∧ (v10_3 ≤ (gm : Int)) ∧ (ftI F T tb10 (Int.toNat x2) (Int.toNat v10_3)) → 60 - v10_3 ≤ (k : Int) → Rn (gG D cI cJ cZ cT lo b L xs) mX8_fillTable d 10 [(0, .ref s), (1, .ref ga), (2, .int (iv x2)), (3, .int (iv v10_3))] [] hp10 n 0 0 (fun r9 hp1 n1 => n1 = n ∧ r9 = none ∧ ∃ tb1 : Nat → Int64, Tw (ov Γ (s + 1) (xJ cJ 256 tb1)) hp1 ∧ ftI F T tb1 (Int.toNat x2) gm) := by
    refine lpS _ ?_
    intro k10 ih10 tb10 hp10 ht10 v10_3 hf10 hm10
    obtain ⟨hf10_0, hf10_1, hf10_2, ha10_3⟩ := hf10
    refine r_iload_n (pc := 10) dX8_fillTable_10 (i := 3) rfl rfl ?_
    refine r_aload_n (pc := 11) dX8_fillTable_11 (i := 1) rfl rfl ?_
    refine t_getE (pc := 12) (.int (iv (gm : Int))) ht10 (rd_ov (by omega) hg_O) fX8_31 dX8_fillTable_12 rfl ?_
    refine t_icmp_ge (pc := 15) (tgt := 91) dX8_fillTable_15 (by decide) (by omega) (by omega) (fun c15 => ?_) (fun c15 => ?_)
    · exact r_vret (pc := 91) dX8_fillTable_91 rfl ⟨rfl, rfl, tb10, ht10, by have h9 := (by assumption : ftI F T tb10 (Int.toNat x2) (Int.toNat v10_3)); rw [show Int.toNat v10_3 = gm by omega] at h9; exact h9⟩
    · refine r_aload_n (pc := 18) dX8_fillTable_18 (i := 1) rfl rfl ?_
      refine t_getE (pc := 19) (.ref gF) ht10 (rd_ov (by omega) hg_O) fX8_72 dX8_fillTable_19 rfl ?_
      refine r_iload_n (pc := 22) dX8_fillTable_22 (i := 3) rfl rfl ?_
      refine t_ialdX (pc := 23) (t0 := 0) ht10 (rd_ov (by omega) hxg_F) dX8_fillTable_23 rfl (by omega) (by omega) (fun b3 => ?_)
      have rb3 := (show Rfx gm 0 ((gn : Int) - 1) F by assumption) (Int.toNat v10_3) (by omega)
      refine r_istore (pc := 24) (lv' := [(4, .int (iv (F (Int.toNat v10_3)))), (0, .ref s), (1, .ref ga), (2, .int (iv x2)), (3, .int (iv v10_3))]) dX8_fillTable_24 (by decide) rfl ?_
      refine r_aload_n (pc := 26) dX8_fillTable_26 (i := 1) rfl rfl ?_
      refine t_getE (pc := 27) (.ref gT) ht10 (rd_ov (by omega) hg_O) fX8_75 dX8_fillTable_27 rfl ?_
      refine r_iload_n (pc := 30) dX8_fillTable_30 (i := 3) rfl rfl ?_
      refine t_ialdX (pc := 31) (t0 := 0) ht10 (rd_ov (by omega) hxg_T) dX8_fillTable_31 rfl (by omega) (by omega) (fun b4 => ?_)
      have rb4 := (show Rfx gm 0 ((gn : Int) - 1) T by assumption) (Int.toNat v10_3) (by omega)
      refine r_istore (pc := 32) (lv' := [(5, .int (iv (T (Int.toNat v10_3)))), (4, .int (iv (F (Int.toNat v10_3)))), (0, .ref s), (1, .ref ga), (2, .int (iv x2)), (3, .int (iv v10_3))]) dX8_fillTable_32 (by decide) rfl ?_
      refine r_iload (pc := 34) dX8_fillTable_34 rfl ?_
      refine r_iload (pc := 36) dX8_fillTable_36 rfl ?_
      refine t_icmp_eq (pc := 38) (tgt := 85) dX8_fillTable_38 (by decide) (by omega) (by omega) (fun c38 => ?_) (fun c38 => ?_)
      · have hft : ftI F T tb10 (Int.toNat x2) (Int.toNat (v10_3 + 1)) := by
          rw [show Int.toNat (v10_3 + 1) = (Int.toNat v10_3) + 1 by omega]
          exact ft_eq (by assumption : ftI F T tb10 (Int.toNat x2) (Int.toNat v10_3)) (by omega)
        refine r_iinc (pc := 85) (v := iv (v10_3 + 1)) (lv' := [(3, .int (iv (v10_3 + 1))), (5, .int (iv (T (Int.toNat v10_3)))), (4, .int (iv (F (Int.toNat v10_3)))), (0, .ref s), (1, .ref ga), (2, .int (iv x2))]) dX8_fillTable_85 rfl (iv_add _ _) (by decide) rfl ?_
        refine r_goto (pc := 88) (tgt := 10) dX8_fillTable_88 (by decide) ?_
        refine Rn.pick (lv' := [(0, .ref s), (1, .ref ga), (2, .int (iv x2)), (3, .int (iv (v10_3 + 1)))]) [3, 4, 5, 0] rfl ?_
        exact ih10 (Int.toNat (60 - (v10_3 + 1))) (by omega) tb10 _ ht10 (v10_3 + 1) ⟨by omega, by omega, by omega, by (first | exact hft | exact ft_0 (fun _ => rfl))⟩ (by omega)
      · have hR10 := ft_R (by assumption : ftI F T tb10 (Int.toNat x2) (Int.toNat v10_3))
        refine r_aload_n (pc := 41) dX8_fillTable_41 (i := 0) rfl rfl ?_
        refine r_iload (pc := 42) dX8_fillTable_42 rfl ?_
        refine r_iload (pc := 44) dX8_fillTable_44 rfl ?_
        refine r_iload_n (pc := 46) dX8_fillTable_46 (i := 2) rfl rfl ?_
        refine r_lconst (pc := 47) (v := 1) dX8_fillTable_47 (by decide) ?_
        have hk47 : (1 : Int64).toInt = 1 := by decide
        obtain ⟨fs10, hfs10⟩ := t_obj ht10 (rd_ov (by omega) hO)
        refine r_callV (pc := 48) (as := [.int (iv (F (Int.toNat v10_3))), .int (iv (F (Int.toNat v10_3))), .int (iv x2), .long (1 : Int64)]) (st := []) kX8_124 rfl dX8_fillTable_48 hfs10 (c_X8_addTox (d := d - 1) (x1 := F (Int.toNat v10_3)) (x2 := F (Int.toNat v10_3)) (x3 := x2) (j4 := (1 : Int64)) (by omega) hO ht10 (by omega) (by omega) (by omega) (by omega) hR10) rfl (by omega) (Nat.le_of_ble_eq_true rfl) (Nat.zero_le _) (Nat.zero_le _) rfl (fun r5 hp6 n7 q8 => ?_)
        obtain ⟨hnn7, hrr5, tb48, ht9, had48⟩ := q8
        subst n7 r5
        change Rn _ _ _ 51 _ [] _ _ _ _ _
        have hR48 := ad_b had48 hR10
        rw [hk47] at had48
        refine r_aload_n (pc := 51) dX8_fillTable_51 (i := 0) rfl rfl ?_
        refine r_iload (pc := 52) dX8_fillTable_52 rfl ?_
        refine r_iload (pc := 54) dX8_fillTable_54 rfl ?_
        refine r_iload_n (pc := 56) dX8_fillTable_56 (i := 2) rfl rfl ?_
        refine r_lconst (pc := 57) (v := 1) dX8_fillTable_57 (by decide) ?_
        have hk57 : (1 : Int64).toInt = 1 := by decide
        obtain ⟨fs16, hfs16⟩ := t_obj ht9 (rd_ov (by omega) hO)
        refine r_callV (pc := 58) (as := [.int (iv (T (Int.toNat v10_3))), .int (iv (T (Int.toNat v10_3))), .int (iv x2), .long (1 : Int64)]) (st := []) kX8_124 rfl dX8_fillTable_58 hfs16 (c_X8_addTox (d := d - 1) (x1 := T (Int.toNat v10_3)) (x2 := T (Int.toNat v10_3)) (x3 := x2) (j4 := (1 : Int64)) (by omega) hO ht9 (by omega) (by omega) (by omega) (by omega) hR48) rfl (by omega) (Nat.le_of_ble_eq_true rfl) (Nat.zero_le _) (Nat.zero_le _) rfl (fun r11 hp12 n13 q14 => ?_)
        obtain ⟨hnn13, hrr11, tb58, ht15, had58⟩ := q14
        subst n13 r11
        change Rn _ _ _ 61 _ [] _ _ _ _ _
        have hR58 := ad_b had58 hR48
        rw [hk57] at had58
        refine r_aload_n (pc := 61) dX8_fillTable_61 (i := 0) rfl rfl ?_
        refine r_iload (pc := 62) dX8_fillTable_62 rfl ?_
        refine r_iload (pc := 64) dX8_fillTable_64 rfl ?_
        refine r_iload_n (pc := 66) dX8_fillTable_66 (i := 2) rfl rfl ?_
        refine r_ldc2 (pc := 67) (v := 1000000006) dX8_fillTable_67 kX8_128 ?_
        have hk67 : (1000000006 : Int64).toInt = 1000000006 := by decide
        obtain ⟨fs22, hfs22⟩ := t_obj ht15 (rd_ov (by omega) hO)
        refine r_callV (pc := 70) (as := [.int (iv (F (Int.toNat v10_3))), .int (iv (T (Int.toNat v10_3))), .int (iv x2), .long (1000000006 : Int64)]) (st := []) kX8_124 rfl dX8_fillTable_70 hfs22 (c_X8_addTox (d := d - 1) (x1 := F (Int.toNat v10_3)) (x2 := T (Int.toNat v10_3)) (x3 := x2) (j4 := (1000000006 : Int64)) (by omega) hO ht15 (by omega) (by omega) (by omega) (by omega) hR58) rfl (by omega) (Nat.le_of_ble_eq_true rfl) (Nat.zero_le _) (Nat.zero_le _) rfl (fun r17 hp18 n19 q20 => ?_)
        obtain ⟨hnn19, hrr17, tb70, ht21, had70⟩ := q20
        subst n19 r17
        change Rn _ _ _ 73 _ [] _ _ _ _ _
        have hR70 := ad_b had70 hR58
        rw [hk67] at had70
        refine r_aload_n (pc := 73) dX8_fillTable_73 (i := 0) rfl rfl ?_
        refine r_iload (pc := 74) dX8_fillTable_74 rfl ?_
        refine r_iload (pc := 76) dX8_fillTable_76 rfl ?_
        refine r_iload_n (pc := 78) dX8_fillTable_78 (i := 2) rfl rfl ?_
        refine r_ldc2 (pc := 79) (v := 1000000006) dX8_fillTable_79 kX8_128 ?_
        have hk79 : (1000000006 : Int64).toInt = 1000000006 := by decide
        obtain ⟨fs28, hfs28⟩ := t_obj ht21 (rd_ov (by omega) hO)
        refine r_callV (pc := 82) (as := [.int (iv (T (Int.toNat v10_3))), .int (iv (F (Int.toNat v10_3))), .int (iv x2), .long (1000000006 : Int64)]) (st := []) kX8_124 rfl dX8_fillTable_82 hfs28 (c_X8_addTox (d := d - 1) (x1 := T (Int.toNat v10_3)) (x2 := F (Int.toNat v10_3)) (x3 := x2) (j4 := (1000000006 : Int64)) (by omega) hO ht21 (by omega) (by omega) (by omega) (by omega) hR70) rfl (by omega) (Nat.le_of_ble_eq_true rfl) (Nat.zero_le _) (Nat.zero_le _) rfl (fun r23 hp24 n25 q26 => ?_)
        obtain ⟨hnn25, hrr23, tb82, ht27, had82⟩ := q26
        subst n25 r23
        change Rn _ _ _ 85 _ [] _ _ _ _ _
        have hR82 := ad_b had82 hR70
        rw [hk79] at had82
        have hft : ftI F T tb82 (Int.toNat x2) (Int.toNat (v10_3 + 1)) := by
          rw [show Int.toNat (v10_3 + 1) = (Int.toNat v10_3) + 1 by omega]
          exact ft_st (by assumption : ftI F T tb10 (Int.toNat x2) (Int.toNat v10_3)) (by omega) had48 had58 had70 had82
        refine r_iinc (pc := 85) (v := iv (v10_3 + 1)) (lv' := [(3, .int (iv (v10_3 + 1))), (5, .int (iv (T (Int.toNat v10_3)))), (4, .int (iv (F (Int.toNat v10_3)))), (0, .ref s), (1, .ref ga), (2, .int (iv x2))]) dX8_fillTable_85 rfl (iv_add _ _) (by decide) rfl ?_
        refine r_goto (pc := 88) (tgt := 10) dX8_fillTable_88 (by decide) ?_
        refine Rn.pick (lv' := [(0, .ref s), (1, .ref ga), (2, .int (iv x2)), (3, .int (iv (v10_3 + 1)))]) [3, 4, 5, 0] rfl ?_
        exact ih10 (Int.toNat (60 - (v10_3 + 1))) (by omega) tb82 _ ht27 (v10_3 + 1) ⟨by omega, by omega, by omega, by (first | exact hft | exact ft_0 (fun _ => rfl))⟩ (by omega)
  refine Rn.pick (lv' := [(0, .ref s), (1, .ref ga), (2, .int (iv x2)), (3, .int (iv 0))]) [1, 2, 3, 0] rfl ?_
  exact B10 (Int.toNat (60 - 0)) (fun _ => (0 : Int64)) _ ht2 0 ⟨by omega, by omega, by omega, by (first | exact hft | exact ft_0 (fun _ => rfl))⟩ (by omega)
