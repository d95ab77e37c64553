set_option maxHeartbeats 4000000 in
set_option maxRecDepth 100000 in
theorem c_X4_missedx {D : va_G} {cI cJ cZ cT : ClassId} {lo b L : Nat} {xs : Nat → Int32} {hp : MH} {n d : Nat} {Γ : TG} {ga : Nat} {gF : Nat} {gT : Nat} {gW : Nat} {gC : Nat} {gTl : Nat} {gHd : Nat} {gBy : Nat} {gOu : Nat} {gIn : Nat} {gJo : Nat} {gn : Nat} {gm : Nat} {gq : Nat} {gdr : Int} {F T W C Tl Hd By Ou In Jo : Nat → Int} {s : Nat} {Wt qd : Int} {mt pa ba Q : Nat → Int} (hd0 : 4 ≤ d) (hg : TyG Γ cI cJ cZ ga gF gT gW gC gTl gHd gBy gOu gIn gJo gn gm gq gdr) (hxg : XG Γ cI gF gT gW gC gTl gHd gBy gOu gIn gJo gn gm gq F T W C Tl Hd By Ou In Jo) (hsp : s + 5 ≤ ga ∧ s + 5 ≤ gF ∧ s + 5 ≤ gT ∧ s + 5 ≤ gW ∧ s + 5 ≤ gC ∧ s + 5 ≤ gTl ∧ s + 5 ≤ gHd ∧ s + 5 ≤ gBy ∧ s + 5 ≤ gOu ∧ s + 5 ≤ gIn ∧ s + 5 ≤ gJo) (hm0 : Rfx 16 (-1) 15 mt) (hp0 : Rfx 16 (-1) 15 pa) (hb0 : Rfx 16 0 15 ba) (hQ0 : Rfx 16 0 15 Q) (hW0 : 0 ≤ Wt ∧ Wt ≤ 16) (hqd0 : 0 ≤ qd ∧ qd ≤ 65535) (ht : Tw (PrS Γ cI s Wt qd mt pa ba Q) hp) (hjo : rwP Jo gn (joX gm F T (fun _ => True))) : Mt (gG D cI cJ cZ cT lo b L xs) mX4_missed d 0 0 [.ref s, .ref ga] hp n (fun r9 hp1 n1 => n1 = n ∧ ∃ (W1 qd1 : Int) (mt1 pa1 ba1 Q1 : Nat → Int) (r : Int), Tw (PrS Γ cI s W1 qd1 mt1 pa1 ba1 Q1) hp1 ∧ Rfx 16 (-1) 15 mt1 ∧ Rfx 16 (-1) 15 pa1 ∧ Rfx 16 0 15 ba1 ∧ Rfx 16 0 15 Q1 ∧ (0 ≤ W1 ∧ W1 ≤ 16) ∧ (0 ≤ qd1 ∧ qd1 ≤ 65535) ∧ r9 = some (.int (iv r)) ∧ (0 ≤ r ∧ r ≤ 65535) ∧ msA (joA gm F T) gn r) := by
  refine Mt.of rfl (Nat.le_of_ble_eq_true rfl) ?_
  refine Rn.pick (lv' := [(0, .ref s), (1, .ref ga)]) [0, 1] rfl ?_
  have t0 : Tw (ov (ov (ov (ov (ov Γ s (tO 4 (prG9 s Wt qd))) (s + 1) (xI cI 16 mt)) (s + 2) (xI cI 16 pa)) (s + 3) (xI cI 16 ba)) (s + 4) (xI cI 16 Q)) hp := ht
  obtain ⟨hg_O, hg_from, hg_to, hg_weight, hg_cost, hg_tail, hg_head, hg_by, hg_out, hg_in, hg_joined, hg_b⟩ := id hg
  obtain ⟨⟨hxg_F, hxg_T, hxg_W, hxg_C, hxg_Tl, hxg_Hd, hxg_By, hxg_Ou, hxg_In, hxg_Jo⟩, ⟨hrg_F, hrg_T, hrg_W, hrg_C, hrg_Tl, hrg_Hd, hrg_By, hrg_Ou, hrg_In, hrg_Jo⟩, houg⟩ := id hxg
  have hgb := hg_b
  refine r_aload_n (pc := 0) dX4_missed_0 (i := 0) rfl rfl ?_
  refine r_aload_n (pc := 1) dX4_missed_1 (i := 1) rfl rfl ?_
  obtain ⟨fs6, hfs6⟩ := t_obj t0 (rd_ov (by omega) (rd_ov (by omega) (rd_ov (by omega) (rd_ov (by omega) (rd_of (ov_s _ _ _))))))
  refine r_callV (pc := 2) (as := [.ref ga]) (st := []) kX4_47 rfl dX4_missed_2 hfs6 (c_X4_greatestx (d := d - 1) (by omega) hg hxg hsp hm0 hp0 hb0 hQ0 hW0 hqd0 t0 hjo) rfl (by omega) (Nat.le_of_ble_eq_true rfl) (Nat.zero_le _) (Nat.zero_le _) rfl (fun r1 hp2 n3 q4 => ?_)
  obtain ⟨hnn3, W2, qd2, M9, pa2, ba2, Q2, k9, ht5, hm2, hp29, hb2, hQ2, bW2, bq2, hrr1, bk9, hgt⟩ := q4
  subst n3 r1
  change Rn _ _ _ 5 _ [.int (iv k9)] _ _ _ _ _
  refine r_pop (pc := 5) dX4_missed_5 rfl ?_
  refine r_iconst (pc := 6) (v := iv 0) dX4_missed_6 (by decide) ?_
  refine r_istore_n (pc := 7) (lv' := [(2, .int (iv 0)), (0, .ref s), (1, .ref ga)]) dX4_missed_7 (i := 2) rfl (by decide) rfl ?_
  refine r_iconst (pc := 8) (v := iv 0) dX4_missed_8 (by decide) ?_
  refine r_istore_n (pc := 9) (lv' := [(3, .int (iv 0)), (2, .int (iv 0)), (0, .ref s), (1, .ref ga)]) dX4_missed_9 (i := 3) rfl (by decide) rfl ?_
  have B10 : ∀ k : Nat, ∀ W10 : Int, ∀ qd10 : Int, ∀ mt10 : Nat → Int, ∀ pa10 : Nat → Int, ∀ ba10 : Nat → Int, ∀ Q10 : Nat → Int, ∀ hp10 : MH, Tw (ov (ov (ov (ov (ov Γ s (tO 4 (prG9 s W10 qd10))) (s + 1) (xI cI 16 mt10)) (s + 2) (xI cI 16 pa10)) (s + 3) (xI cI 16 ba10)) (s + 4) (xI cI 16 Q10)) hp10 → ∀  (v10_2 : Int) (v10_3 : Int), 0 ≤ v10_2 ∧ v10_2 ≤ 65535 ∧ 0 ≤ v10_3 ∧ v10_3 ≤ 16 ∧ (v10_3 ≤ (gn : Int)) ∧ (0 ≤ W10 ∧ W10 ≤ 16) ∧ (0 ≤ qd10 ∧ qd10 ≤ 65535) ∧ (mt10 = M9) ∧ (Rfx 16 (-1) 15 mt10) ∧ (Rfx 16 (-1) 15 pa10) ∧ (Rfx 16 0 15 ba10) ∧ (Rfx 16 0 15 Q10) ∧ (msJ9 (joA gm F T) gn k9 v10_2 v10_3) → 16 - v10_3 ≤ (k : Int) → Rn (gG D cI cJ cZ cT lo b L xs) mX4_missed d 10 [(0, .ref s), (1, .ref ga), (2, .int (iv v10_2)), (3, .int (iv v10_3))] [] hp10 n 0 0 (fun r9 hp1 n1 => n1 = n ∧ ∃ (W1 qd1 : Int) (mt1 pa1 ba1 Q1 : Nat → Int) (r : Int), Tw (PrS Γ cI s W1 qd1 mt1 pa1 ba1 Q1) hp1 ∧ Rfx 16 (-1) 15 mt1 ∧ Rfx 16 (-1) 15 pa1 ∧ Rfx 16 0 15 ba1 ∧ Rfx 16 0 15 Q1 ∧ (0 ≤ W1 ∧ W1 ≤ 16) ∧ (0 ≤ qd1 ∧ qd1 ≤ 65535) ∧ r9 = some (.int (iv r)) ∧ (0 ≤ r ∧ r ≤ 65535) ∧ msA (joA gm F T) gn r) := by
    refine lpS _ ?_
    intro k10 ih10 W10 qd10 mt10 pa10 ba10 Q10 hp10 ht10 v10_2 v10_3 hf10 hm10
    obtain ⟨hf10_0, hf10_1, hf10_2, hf10_3, hf10_4, hf10_5, hf10_6, ha10_7, ha10_8, ha10_9, ha10_10, ha10_11, ha10_12⟩ := hf10
    refine r_iload_n (pc := 10) dX4_missed_10 (i := 3) rfl rfl ?_
    refine r_aload_n (pc := 11) dX4_missed_11 (i := 1) rfl rfl ?_
    refine t_getE (pc := 12) (.int (iv (gn : Int))) ht10 (rd_ov (by omega) (rd_ov (by omega) (rd_ov (by omega) (rd_ov (by omega) (rd_ov (by omega) hg_O))))) fX4_30 dX4_missed_12 rfl ?_
    refine t_icmp_ge (pc := 15) (tgt := 88) dX4_missed_15 (by decide) (by omega) (by omega) (fun c15 => ?_) (fun c15 => ?_)
    · have hMe : M9 = mt10 := (by assumption : mt10 = M9).symm
      subst hMe
      have hend := msj_e hgt (by assumption : msJ9 (joA gm F T) gn k9 v10_2 v10_3) (by omega)
      refine r_iload_n (pc := 88) dX4_missed_88 (i := 2) rfl rfl ?_
      exact r_iret (pc := 89) dX4_missed_89 rfl ⟨rfl, W10, qd10, M9, pa10, ba10, Q10, _, ht10, hm2, by assumption, by assumption, by assumption, by omega, by omega, rfl, by omega, hend⟩
    · have hMe : M9 = mt10 := (by assumption : mt10 = M9).symm
      subst hMe
      refine r_aload_n (pc := 18) dX4_missed_18 (i := 0) rfl rfl ?_
      refine t_getE (pc := 19) (.ref (s + 1)) ht10 (rd_ov (by omega) (rd_ov (by omega) (rd_ov (by omega) (rd_ov (by omega) (rd_of (ov_s _ _ _)))))) fX4_9 dX4_missed_19 rfl ?_
      refine r_iload_n (pc := 22) dX4_missed_22 (i := 3) rfl rfl ?_
      refine t_ialdX (pc := 23) (t0 := 0) ht10 (rd_ov (by omega) (rd_ov (by omega) (rd_ov (by omega) (rd_of (ov_s _ _ _))))) dX4_missed_23 rfl (by decide) (by omega) (fun b7 => ?_)
      have rb7 := (show Rfx 16 (-1) 15 M9 by assumption) (Int.toNat v10_3) (by omega)
      refine r_istore (pc := 24) (lv' := [(4, .int (iv (M9 (Int.toNat v10_3)))), (0, .ref s), (1, .ref ga), (2, .int (iv v10_2)), (3, .int (iv v10_3))]) dX4_missed_24 (by decide) rfl ?_
      refine r_iload (pc := 26) dX4_missed_26 rfl ?_
      refine t_if_ge (pc := 28) (tgt := 40) dX4_missed_28 (by decide) (by omega) (fun c28 => ?_) (fun c28 => ?_)
      · refine r_aload_n (pc := 40) dX4_missed_40 (i := 0) rfl rfl ?_
        refine t_getE (pc := 41) (.ref (s + 1)) ht10 (rd_ov (by omega) (rd_ov (by omega) (rd_ov (by omega) (rd_ov (by omega) (rd_of (ov_s _ _ _)))))) fX4_9 dX4_missed_41 rfl ?_
        refine r_iload (pc := 44) dX4_missed_44 rfl ?_
        refine r_iconst (pc := 46) (v := iv (-1)) dX4_missed_46 (by decide) ?_
        refine t_iastX (pc := 47) (t0 := 0) ht10 (eq_ov (by omega) (eq_ov (by omega) (eq_ov (by omega) (ov_s _ _ _)))) dX4_missed_47 rfl (by decide) (by omega) (by omega) (fun hp8 ht9 => ?_)
        rw [ov_in4 (by omega) (by omega) (by omega) ] at ht9
        have hm47 : Rfx 16 (-1) 15 (fup M9 (Int.toNat (M9 (Int.toNat v10_3))) (-1)) := Rfx_up hm2 (by omega)
        have huv : M9 (Int.toNat v10_3) = (((Int.toNat (M9 (Int.toNat v10_3))) : Nat) : Int) := by omega
        have hvw := vm_wo hgt.1 (v := (Int.toNat v10_3)) (by omega) huv
        have hua := vm_at hgt.1 (show (Int.toNat v10_3) < gn by omega) huv
        refine r_iload_n (pc := 48) dX4_missed_48 (i := 2) rfl rfl ?_
        refine r_aload_n (pc := 49) dX4_missed_49 (i := 0) rfl rfl ?_
        refine r_aload_n (pc := 50) dX4_missed_50 (i := 1) rfl rfl ?_
        refine t_getE (pc := 51) (.ref gJo) ht9 (rd_ov (by omega) (rd_ov (by omega) (rd_ov (by omega) (rd_ov (by omega) (rd_ov (by omega) hg_O))))) fX4_36 dX4_missed_51 rfl ?_
        refine r_iload (pc := 54) dX4_missed_54 rfl ?_
        refine r_iconst (pc := 56) (v := iv 1) dX4_missed_56 (by decide) ?_
        refine r_iload_n (pc := 57) dX4_missed_57 (i := 3) rfl rfl ?_
        refine r_ishl (pc := 58) (v := iv ((2 ^ Int.toNat v10_3 : Nat) : Int)) dX4_missed_58 (shl_e (by omega)) ?_
        have mp58_10 : 1 ≤ 2 ^ Int.toNat v10_3 := Nat.one_le_two_pow
        have mq58_11 : 2 ^ Int.toNat v10_3 ≤ 2 ^ 15 := Nat.pow_le_pow_right (by omega) (by omega)
        have ms58 := Me_shl (Int.toNat v10_3)
        have hSv := S_v (n := gn) ms58
        rw [← hSv] at hvw
        obtain ⟨fs17, hfs17⟩ := t_obj ht9 (rd_ov (by omega) (rd_ov (by omega) (rd_ov (by omega) (rd_ov (by omega) (rd_of (ov_s _ _ _))))))
        refine r_callV (pc := 59) (as := [.ref gJo, .int (iv (M9 (Int.toNat v10_3))), .int (iv ((2 ^ Int.toNat v10_3 : Nat) : Int))]) (st := [.int (iv v10_2)]) kX4_39 rfl dX4_missed_59 hfs17 (c_X4_searchx (d := d - 1) (rA := gJo) (rL := gn) (Nx := Jo) (R := (joA gm F T)) (x2 := M9 (Int.toNat v10_3)) (x3 := ((2 ^ Int.toNat v10_3 : Nat) : Int)) (by omega) hxg_Jo hrg_Jo (by omega) (fun i hi j => hjo.1 i hi j) (by omega) (fun i j h => joX_sym i j h) hm47 (by assumption : Rfx 16 (-1) 15 pa10) (by assumption : Rfx 16 0 15 ba10) (by assumption : Rfx 16 0 15 Q10) (by omega) (by omega) ht9 (by omega) (by omega) hvw ⟨hua.1, fun g9 => hua.2.2.1 ((ms58 _).mp g9)⟩ (by rw [show (fup M9 (Int.toNat (M9 (Int.toNat v10_3))) (-1)) (Int.toNat (M9 (Int.toNat v10_3))) = -1 from if_pos rfl]; decide)) rfl (by omega) (Nat.le_of_ble_eq_true rfl) (Nat.zero_le _) (Nat.zero_le _) rfl (fun r12 hp13 n14 q15 => ?_)
        obtain ⟨hnn14, W59, qd59, pa59, ba59, Q59, r59, ht16, hp599, hb59, hQ59, bW59, bq59, hrr12, br59, hsn59, hsy59⟩ := q15
        subst n14 r12
        change Rn _ _ _ 62 _ [.int (iv r59), .int (iv v10_2)] _ _ _ _ _
        rw [hSv] at hsn59 hsy59
        refine t_if_lt (pc := 62) (tgt := 71) dX4_missed_62 (by decide) (by omega) (fun c62 => ?_) (fun c62 => ?_)
        · have hq62 := gt_no (fun i j h => joX_sym i j h) hgt (v := (Int.toNat v10_3)) (by omega) huv (hsn59 (by omega))
          refine r_iconst (pc := 71) (v := iv 0) dX4_missed_71 (by decide) ?_
          obtain ⟨z18, hz18, bz18⟩ := or_2 16 v10_2 0 (by omega) (by omega) (by decide)
          refine r_ior (pc := 72) (v := iv z18) dX4_missed_72 hz18 ?_
          have mez18 := Me_or hz18 (by omega) (by omega) (by omega)
          have hms : msJ9 (joA gm F T) gn k9 z18 (v10_3 + 1) := msj_n (by assumption : msJ9 (joA gm F T) gn k9 v10_2 v10_3) (by omega) hq62 (fun i9 => by rw [mez18 i9]; exact ⟨fun g9 => g9.resolve_right (Me_0 i9), Or.inl⟩)
          refine r_istore_n (pc := 73) (lv' := [(2, .int (iv z18)), (4, .int (iv (M9 (Int.toNat v10_3)))), (0, .ref s), (1, .ref ga), (3, .int (iv v10_3))]) dX4_missed_73 (i := 2) rfl (by decide) rfl ?_
          refine r_aload_n (pc := 74) dX4_missed_74 (i := 0) rfl rfl ?_
          refine t_getE (pc := 75) (.ref (s + 1)) ht16 (rd_ov (by omega) (rd_ov (by omega) (rd_ov (by omega) (rd_ov (by omega) (rd_of (ov_s _ _ _)))))) fX4_9 dX4_missed_75 rfl ?_
          refine r_iload (pc := 78) dX4_missed_78 rfl ?_
          refine r_iload_n (pc := 80) dX4_missed_80 (i := 3) rfl rfl ?_
          refine t_iastX (pc := 81) (t0 := 0) ht16 (eq_ov (by omega) (eq_ov (by omega) (eq_ov (by omega) (ov_s _ _ _)))) dX4_missed_81 rfl (by decide) (by omega) (by omega) (fun hp19 ht20 => ?_)
          rw [ov_in4 (by omega) (by omega) (by omega) ] at ht20
          have hbk := fup_bk (Cl := M9) (q := (Int.toNat (M9 (Int.toNat v10_3)))) (z := -1) (y := v10_3) (by rw [hua.2.1]; omega)
          refine r_iinc (pc := 82) (v := iv (v10_3 + 1)) (lv' := [(3, .int (iv (v10_3 + 1))), (2, .int (iv z18)), (4, .int (iv (M9 (Int.toNat v10_3)))), (0, .ref s), (1, .ref ga)]) dX4_missed_82 rfl (iv_add _ _) (by decide) rfl ?_
          refine r_goto (pc := 85) (tgt := 10) dX4_missed_85 (by decide) ?_
          refine Rn.pick (lv' := [(0, .ref s), (1, .ref ga), (2, .int (iv z18)), (3, .int (iv (v10_3 + 1)))]) [3, 4, 1, 0] rfl ?_
          exact ih10 (Int.toNat (16 - (v10_3 + 1))) (by omega) W59 qd59 (fup (fup M9 (Int.toNat (M9 (Int.toNat v10_3))) (-1)) (Int.toNat (M9 (Int.toNat v10_3))) v10_3) pa59 ba59 Q59 _ ht20 z18 (v10_3 + 1) ⟨by omega, by omega, by omega, by omega, by omega, by omega, by omega, by (first | exact hbk | rfl), by (first | (rw [hbk]; exact hm2) | exact hm2), by (first | exact hp599 | assumption | exact hp29), by (first | exact hb59 | assumption | exact hb2), by (first | exact hQ59 | assumption | exact hQ2), by (first | exact hms | exact msj_0)⟩ (by omega)
        · have hq62 := gt_fd (fun i j h => joX_sym i j h) hgt (v := (Int.toNat v10_3)) (by omega) huv (hsy59 (by omega))
          refine r_iconst (pc := 65) (v := iv 1) dX4_missed_65 (by decide) ?_
          refine r_iload_n (pc := 66) dX4_missed_66 (i := 3) rfl rfl ?_
          refine r_ishl (pc := 67) (v := iv ((2 ^ Int.toNat v10_3 : Nat) : Int)) dX4_missed_67 (shl_e (by omega)) ?_
          have mp67_21 : 1 ≤ 2 ^ Int.toNat v10_3 := Nat.one_le_two_pow
          have mq67_22 : 2 ^ Int.toNat v10_3 ≤ 2 ^ 15 := Nat.pow_le_pow_right (by omega) (by omega)
          have ms67 := Me_shl (Int.toNat v10_3)
          refine r_goto (pc := 68) (tgt := 72) dX4_missed_68 (by decide) ?_
          obtain ⟨z23, hz23, bz23⟩ := or_2 16 v10_2 ((2 ^ Int.toNat v10_3 : Nat) : Int) (by omega) (by omega) (by decide)
          refine r_ior (pc := 72) (v := iv z23) dX4_missed_72 hz23 ?_
          have mez23 := Me_or hz23 (by omega) (by omega) (by omega)
          have hms : msJ9 (joA gm F T) gn k9 z23 (v10_3 + 1) := msj_y (by assumption : msJ9 (joA gm F T) gn k9 v10_2 v10_3) (by omega) hq62 (fun i9 => by rw [mez23 i9, ms67 i9])
          refine r_istore_n (pc := 73) (lv' := [(2, .int (iv z23)), (4, .int (iv (M9 (Int.toNat v10_3)))), (0, .ref s), (1, .ref ga), (3, .int (iv v10_3))]) dX4_missed_73 (i := 2) rfl (by decide) rfl ?_
          refine r_aload_n (pc := 74) dX4_missed_74 (i := 0) rfl rfl ?_
          refine t_getE (pc := 75) (.ref (s + 1)) ht16 (rd_ov (by omega) (rd_ov (by omega) (rd_ov (by omega) (rd_ov (by omega) (rd_of (ov_s _ _ _)))))) fX4_9 dX4_missed_75 rfl ?_
          refine r_iload (pc := 78) dX4_missed_78 rfl ?_
          refine r_iload_n (pc := 80) dX4_missed_80 (i := 3) rfl rfl ?_
          refine t_iastX (pc := 81) (t0 := 0) ht16 (eq_ov (by omega) (eq_ov (by omega) (eq_ov (by omega) (ov_s _ _ _)))) dX4_missed_81 rfl (by decide) (by omega) (by omega) (fun hp24 ht25 => ?_)
          rw [ov_in4 (by omega) (by omega) (by omega) ] at ht25
          have hbk := fup_bk (Cl := M9) (q := (Int.toNat (M9 (Int.toNat v10_3)))) (z := -1) (y := v10_3) (by rw [hua.2.1]; omega)
          refine r_iinc (pc := 82) (v := iv (v10_3 + 1)) (lv' := [(3, .int (iv (v10_3 + 1))), (2, .int (iv z23)), (4, .int (iv (M9 (Int.toNat v10_3)))), (0, .ref s), (1, .ref ga)]) dX4_missed_82 rfl (iv_add _ _) (by decide) rfl ?_
          refine r_goto (pc := 85) (tgt := 10) dX4_missed_85 (by decide) ?_
          refine Rn.pick (lv' := [(0, .ref s), (1, .ref ga), (2, .int (iv z23)), (3, .int (iv (v10_3 + 1)))]) [3, 4, 1, 0] rfl ?_
          exact ih10 (Int.toNat (16 - (v10_3 + 1))) (by omega) W59 qd59 (fup (fup M9 (Int.toNat (M9 (Int.toNat v10_3))) (-1)) (Int.toNat (M9 (Int.toNat v10_3))) v10_3) pa59 ba59 Q59 _ ht25 z23 (v10_3 + 1) ⟨by omega, by omega, by omega, by omega, by omega, by omega, by omega, by (first | exact hbk | rfl), by (first | (rw [hbk]; exact hm2) | exact hm2), by (first | exact hp599 | assumption | exact hp29), by (first | exact hb59 | assumption | exact hb2), by (first | exact hQ59 | assumption | exact hQ2), by (first | exact hms | exact msj_0)⟩ (by omega)
      · refine r_iload_n (pc := 31) dX4_missed_31 (i := 2) rfl rfl ?_
        refine r_iconst (pc := 32) (v := iv 1) dX4_missed_32 (by decide) ?_
        refine r_iload_n (pc := 33) dX4_missed_33 (i := 3) rfl rfl ?_
        refine r_ishl (pc := 34) (v := iv ((2 ^ Int.toNat v10_3 : Nat) : Int)) dX4_missed_34 (shl_e (by omega)) ?_
        have mp34_26 : 1 ≤ 2 ^ Int.toNat v10_3 := Nat.one_le_two_pow
        have mq34_27 : 2 ^ Int.toNat v10_3 ≤ 2 ^ 15 := Nat.pow_le_pow_right (by omega) (by omega)
        have ms34 := Me_shl (Int.toNat v10_3)
        obtain ⟨z28, hz28, bz28⟩ := or_2 16 v10_2 ((2 ^ Int.toNat v10_3 : Nat) : Int) (by omega) (by omega) (by decide)
        refine r_ior (pc := 35) (v := iv z28) dX4_missed_35 hz28 ?_
        have mez28 := Me_or hz28 (by omega) (by omega) (by omega)
        have hms : msJ9 (joA gm F T) gn k9 z28 (v10_3 + 1) := msj_y (by assumption : msJ9 (joA gm F T) gn k9 v10_2 v10_3) (by omega) (gt_un hgt (by omega)) (fun i9 => by rw [mez28 i9, ms34 i9])
        have hbk : M9 = M9 := rfl
        refine r_istore_n (pc := 36) (lv' := [(2, .int (iv z28)), (4, .int (iv (M9 (Int.toNat v10_3)))), (0, .ref s), (1, .ref ga), (3, .int (iv v10_3))]) dX4_missed_36 (i := 2) rfl (by decide) rfl ?_
        refine r_goto (pc := 37) (tgt := 82) dX4_missed_37 (by decide) ?_
        refine r_iinc (pc := 82) (v := iv (v10_3 + 1)) (lv' := [(3, .int (iv (v10_3 + 1))), (2, .int (iv z28)), (4, .int (iv (M9 (Int.toNat v10_3)))), (0, .ref s), (1, .ref ga)]) dX4_missed_82 rfl (iv_add _ _) (by decide) rfl ?_
        refine r_goto (pc := 85) (tgt := 10) dX4_missed_85 (by decide) ?_
        refine Rn.pick (lv' := [(0, .ref s), (1, .ref ga), (2, .int (iv z28)), (3, .int (iv (v10_3 + 1)))]) [3, 4, 1, 0] rfl ?_
        exact ih10 (Int.toNat (16 - (v10_3 + 1))) (by omega) W10 qd10 M9 pa10 ba10 Q10 _ ht10 z28 (v10_3 + 1) ⟨by omega, by omega, by omega, by omega, by omega, by omega, by omega, by (first | exact hbk | rfl), by (first | (rw [hbk]; exact hm2) | exact hm2), by (first | exact hp599 | assumption | exact hp29), by (first | exact hb59 | assumption | exact hb2), by (first | exact hQ59 | assumption | exact hQ2), by (first | exact hms | exact msj_0)⟩ (by omega)
  refine Rn.pick (lv' := [(0, .ref s), (1, .ref ga), (2, .int (iv 0)), (3, .int (iv 0))]) [2, 3, 1, 0] rfl ?_
  exact B10 (Int.toNat (16 - 0)) W2 qd2 M9 pa2 ba2 Q2 _ ht5 0 0 ⟨by omega, by omega, by omega, by omega, by omega, by omega, by omega, by (first | exact hbk | rfl), by (first | (rw [hbk]; exact hm2) | exact hm2), by (first | exact hp599 | assumption | exact hp29), by (first | exact hb59 | assumption | exact hb2), by (first | exact hQ59 | assumption | exact hQ2), by (first | exact hms | exact msj_0)⟩ (by omega)
