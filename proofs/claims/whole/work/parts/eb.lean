theorem WE_ty {Γ : TG} {cI cJ cZ cT : ClassId} {wa vn : Nat} {vs vl vr : Nat → Int} {vo vm : Nat → Int64} (h1 : 1 ≤ vn ∧ vn ≤ 16) (hs : Rfx vn 0 2 vs) (hl : Rfx vn (-1) ((vn : Int) - 1) vl) (hr : Rfx (vn * vn) 0 59 vr) : TyW (WE Γ cI cJ cZ cT wa vn vs vo vl vm vr) cI cJ cZ wa vn := ⟨rd_of WE_0, rd_xr (rd_of WE_1) hs, rd_xj (rd_of WE_2), rd_xr (rd_of WE_3) hl, rd_xj (rd_of WE_4), rd_xr (rd_of WE_5) hr, h1⟩
set_option maxHeartbeats 4000000 in
set_option maxRecDepth 100000 in
theorem p_X10w {D : va_G} {cI cJ cZ cT : ClassId} {lo b L : Nat} {xs : Nat → Int32} {hp : MH} {n d kr wr : Nat} {Po : Option Value → MH → Nat → Prop} {Γ : TG} {wa ga gn : Nat} {Fs : List (Value → Prop)} {x2 : Int} {x3 : Int} (hd0 : 1 ≤ d) (ht : Tw Γ hp) (hg0 : rd Γ ga (tO 3 Fs)) (hF : Fs[0]? = some (fE (.int (iv (gn : Int))))) (h0 : hp wa = some (.inr (9, [.int 0, .null, .null, .null, .null, .null]))) (hn : n = wa + 1) (hgn : gn ≤ 16) (hlo : ∀ (q : Nat) (T : va_E → Prop), Γ q = some T → q < wa) (hkr : 5 ≤ kr) (hwr : gn + gn + gn + gn + (gn * gn) ≤ wr) (kk : ∀ hp1 : MH, Tw (WE Γ cI cJ cZ cT wa gn (fun _ => 0) (fun _ => 0) (fun _ => 0) (fun _ => 0) (fun _ => 0)) hp1 → Rn (gG D cI cJ cZ cT lo b L xs) mX10_init d 63 [(0, .ref wa), (1, .ref ga), (2, .int (iv x2)), (3, .int (iv x3))] [] hp1 (n + 5) (kr - 1 - 1 - 1 - 1 - 1) (wr - gn - gn - gn - gn - (gn * gn)) Po) : Rn (gG D cI cJ cZ cT lo b L xs) mX10_init d 0 [(0, .ref wa), (1, .ref ga), (2, .int (iv x2)), (3, .int (iv x3))] [] hp n kr wr Po := by
  subst hn
  have hsq : gn * gn ≤ 256 := Nat.le_trans (Nat.mul_le_mul hgn hgn) (by decide)
  refine Rn.bd (fun bd => ?_)
  refine r_aload_n (pc := 0) dX10_init_0 (i := 0) rfl rfl ?_
  refine r_aload_n (pc := 1) dX10_init_1 (i := 1) rfl rfl ?_
  refine t_getE (pc := 2) (.int (iv (gn : Int))) ht hg0 fX10_3 dX10_init_2 hF ?_
  refine r_callI (pc := 5) (as := [.int (iv (gn : Int))]) (st := []) kX10_9 dX10_init_5 (c_X9_init_X10 (d := d - 1) (by omega) h0) rfl (by omega) (Nat.le_of_ble_eq_true rfl) (Nat.zero_le _) (Nat.zero_le _) rfl (fun r9 hq0 n1 hq1 => ?_)
  obtain ⟨rfl, hn1, g0, o0⟩ := hq1
  subst n1
  change Rn _ _ _ 8 _ [] _ _ _ _ _
  refine r_aload_n (pc := 8) dX10_init_8 (i := 0) rfl rfl ?_
  refine r_aload_n (pc := 9) dX10_init_9 (i := 0) rfl rfl ?_
  refine r_get (pc := 10) fX10_15 dX10_init_10 g0 rfl ?_
  refine w_newi (pc := 13) (t0 := 0) (N := gn) dX10_init_13 (tb_t (k := 68) (w := Cond.arrayClass .int) (by decide +kernel)) rfl (nI_iv gn).symm (by omega) (by omega) (by omega) (fun hp1 a0 k1 o1 => ?_)
  refine w_put (pc := 15) (ty := .array .int) (fs' := [.int (iv (gn : Int)), .ref (wa + 1), .null, .null, .null, .null]) fX10_18 tyX10 tyX10_ok nmX10 (by decide +kernel) (Or.inr ⟨rfl, rfl, rfl⟩) dX10_init_15 (k1 _ _ g0) (Nat.le_of_ble_eq_true rfl) rfl rfl rfl (fun hp2 g2 o2 => ?_)
  refine r_aload_n (pc := 18) dX10_init_18 (i := 0) rfl rfl ?_
  refine r_aload_n (pc := 19) dX10_init_19 (i := 0) rfl rfl ?_
  refine r_get (pc := 20) fX10_15 dX10_init_20 g2 rfl ?_
  refine w_newl (pc := 23) (t0 := 1) (N := gn) dX10_init_23 (tb_t (k := 79) (w := Cond.arrayClass .long) (by decide +kernel)) rfl (nI_iv gn).symm (by omega) (by omega) (by omega) (fun hp3 a1 k3 o3 => ?_)
  refine w_put (pc := 25) (ty := .array .long) (fs' := [.int (iv (gn : Int)), .ref (wa + 1), .ref (wa + 2), .null, .null, .null]) fX10_22 tyX10 tyX10_ok nmX10 (by decide +kernel) (Or.inr ⟨rfl, rfl, rfl⟩) dX10_init_25 (k3 _ _ g2) (Nat.le_of_ble_eq_true rfl) rfl rfl rfl (fun hp4 g4 o4 => ?_)
  refine r_aload_n (pc := 28) dX10_init_28 (i := 0) rfl rfl ?_
  refine r_aload_n (pc := 29) dX10_init_29 (i := 0) rfl rfl ?_
  refine r_get (pc := 30) fX10_15 dX10_init_30 g4 rfl ?_
  refine w_newi (pc := 33) (t0 := 0) (N := gn) dX10_init_33 (tb_t (k := 68) (w := Cond.arrayClass .int) (by decide +kernel)) rfl (nI_iv gn).symm (by omega) (by omega) (by omega) (fun hp5 a2 k5 o5 => ?_)
  refine w_put (pc := 35) (ty := .array .int) (fs' := [.int (iv (gn : Int)), .ref (wa + 1), .ref (wa + 2), .ref (wa + 3), .null, .null]) fX10_26 tyX10 tyX10_ok nmX10 (by decide +kernel) (Or.inr ⟨rfl, rfl, rfl⟩) dX10_init_35 (k5 _ _ g4) (Nat.le_of_ble_eq_true rfl) rfl rfl rfl (fun hp6 g6 o6 => ?_)
  refine r_aload_n (pc := 38) dX10_init_38 (i := 0) rfl rfl ?_
  refine r_aload_n (pc := 39) dX10_init_39 (i := 0) rfl rfl ?_
  refine r_get (pc := 40) fX10_15 dX10_init_40 g6 rfl ?_
  refine w_newl (pc := 43) (t0 := 1) (N := gn) dX10_init_43 (tb_t (k := 79) (w := Cond.arrayClass .long) (by decide +kernel)) rfl (nI_iv gn).symm (by omega) (by omega) (by omega) (fun hp7 a3 k7 o7 => ?_)
  refine w_put (pc := 45) (ty := .array .long) (fs' := [.int (iv (gn : Int)), .ref (wa + 1), .ref (wa + 2), .ref (wa + 3), .ref (wa + 4), .null]) fX10_29 tyX10 tyX10_ok nmX10 (by decide +kernel) (Or.inr ⟨rfl, rfl, rfl⟩) dX10_init_45 (k7 _ _ g6) (Nat.le_of_ble_eq_true rfl) rfl rfl rfl (fun hp8 g8 o8 => ?_)
  refine r_aload_n (pc := 48) dX10_init_48 (i := 0) rfl rfl ?_
  refine r_aload_n (pc := 49) dX10_init_49 (i := 0) rfl rfl ?_
  refine r_get (pc := 50) fX10_15 dX10_init_50 g8 rfl ?_
  refine r_aload_n (pc := 53) dX10_init_53 (i := 0) rfl rfl ?_
  refine r_get (pc := 54) fX10_15 dX10_init_54 g8 rfl ?_
  refine r_imul (pc := 57) (v := nI (gn * gn)) dX10_init_57 (by rw [iv_mul, nI_iv]; congr 1) ?_
  refine w_newi (pc := 58) (t0 := 0) (N := gn * gn) dX10_init_58 (tb_t (k := 68) (w := Cond.arrayClass .int) (by decide +kernel)) rfl rfl (by omega) (by omega) (by omega) (fun hp9 a4 k9 o9 => ?_)
  refine w_put (pc := 60) (ty := .array .int) (fs' := [.int (iv (gn : Int)), .ref (wa + 1), .ref (wa + 2), .ref (wa + 3), .ref (wa + 4), .ref (wa + 5)]) fX10_32 tyX10 tyX10_ok nmX10 (by decide +kernel) (Or.inr ⟨rfl, rfl, rfl⟩) dX10_init_60 (k9 _ _ g8) (Nat.le_of_ble_eq_true rfl) rfl rfl rfl (fun hp10 g10 o10 => ?_)
  have z0 := ((o10 _ (by omega)).trans ((o9 _ (by omega)).trans ((o8 _ (by omega)).trans ((o7 _ (by omega)).trans ((o6 _ (by omega)).trans ((o5 _ (by omega)).trans ((o4 _ (by omega)).trans ((o3 _ (by omega)).trans ((o2 _ (by omega)).trans a0)))))))))
  have z1 := ((o10 _ (by omega)).trans ((o9 _ (by omega)).trans ((o8 _ (by omega)).trans ((o7 _ (by omega)).trans ((o6 _ (by omega)).trans ((o5 _ (by omega)).trans ((o4 _ (by omega)).trans a1)))))))
  have z2 := ((o10 _ (by omega)).trans ((o9 _ (by omega)).trans ((o8 _ (by omega)).trans ((o7 _ (by omega)).trans ((o6 _ (by omega)).trans a2)))))
  have z3 := ((o10 _ (by omega)).trans ((o9 _ (by omega)).trans ((o8 _ (by omega)).trans a3)))
  have z4 := ((o10 _ (by omega)).trans a4)
  refine kk _ (WE_tw ht (fun q e hq h9 => ?_) (fun j T hj => ?_))
  · have hne : q < wa := by
      rcases hq with h8 | h8
      · exact h8
      · exact absurd (bd q e h9) (by omega)
    exact (o10 q (by omega)).trans ((o9 q (by omega)).trans ((o8 q (by omega)).trans ((o7 q (by omega)).trans ((o6 q (by omega)).trans ((o5 q (by omega)).trans ((o4 q (by omega)).trans ((o3 q (by omega)).trans ((o2 q (by omega)).trans ((o1 q (by omega)).trans ((o0 q (by omega)).trans h9))))))))))
  · match j, hj with
    | 0, hj =>
      obtain rfl := Option.some.inj hj
      exact ⟨_, g10, tO_mk (vs := [.int (iv (gn : Int)), .ref (wa + 1), .ref (wa + 2), .ref (wa + 3), .ref (wa + 4), .ref (wa + 5)])⟩
    | 1, hj =>
      obtain rfl := Option.some.inj hj
      exact ⟨_, z0, ⟨_, rfl, fun _ _ => rfl⟩⟩
    | 2, hj =>
      obtain rfl := Option.some.inj hj
      exact ⟨_, z1, ⟨_, rfl, fun _ _ => rfl⟩⟩
    | 3, hj =>
      obtain rfl := Option.some.inj hj
      exact ⟨_, z2, ⟨_, rfl, fun _ _ => rfl⟩⟩
    | 4, hj =>
      obtain rfl := Option.some.inj hj
      exact ⟨_, z3, ⟨_, rfl, fun _ _ => rfl⟩⟩
    | 5, hj =>
      obtain rfl := Option.some.inj hj
      exact ⟨_, z4, ⟨_, rfl, fun _ _ => rfl⟩⟩
    | j + 6, hj => exact absurd (List.getElem?_eq_some_iff.mp hj).1 (by show ¬ (j + 6 < 6); omega)
set_option maxHeartbeats 4000000 in
set_option maxRecDepth 100000 in
theorem w_X10_init {D : va_G} {cI cJ cZ cT : ClassId} {lo b L : Nat} {xs : Nat → Int32} {hp : MH} {d : Nat} {Γ : TG} {ga : Nat} {gF : Nat} {gT : Nat} {gW : Nat} {gC : Nat} {gTl : Nat} {gHd : Nat} {gBy : Nat} {gOu : Nat} {gIn : Nat} {gJo : Nat} {gn : Nat} {gm : Nat} {gq : Nat} {gdr : Int} {F T W C Tl Hd By Ou In Jo : Nat → Int} {wa : Nat} {x2 x3 : Int} {pos : Nat → Nat} (hd0 : 3 ≤ d) (hg : TyG Γ cI cJ cZ ga gF gT gW gC gTl gHd gBy gOu gIn gJo gn gm gq gdr) (hxg : XG Γ cI gF gT gW gC gTl gHd gBy gOu gIn gJo gn gm gq F T W C Tl Hd By Ou In Jo) (hgo : GoS gm gq gdr F T Tl Hd By pos) (hou9 : rwP Ou gn (stP gm gdr F T)) (h0 : hp wa = some (.inr (9, [.int 0, .null, .null, .null, .null, .null]))) (hlo : ∀ (q : Nat) (T : va_E → Prop), Γ q = some T → q < wa) (ht : Tw Γ hp) (hx2 : 0 ≤ x2 ∧ x2 ≤ 2) (hx3 : 0 ≤ x3 ∧ x3 < (gn : Int)) : Mt (gG D cI cJ cZ cT lo b L xs) mX10_init d 7 (gn + gn + gn + gn + (gn * gn) + (gn + gn)) [.ref wa, .ref ga, .int (iv x2), .int (iv x3)] hp (wa + 1) (pWx Γ cI cJ cZ wa gn gm gdr F T W x2 (Int.toNat x3) (wa + 1)) := by
  refine Mt.of rfl (Nat.le_of_ble_eq_true rfl) ?_
  refine Rn.pick (lv' := [(0, .ref wa), (1, .ref ga), (2, .int (iv x2)), (3, .int (iv x3))]) [0, 1, 2, 3] rfl ?_
  obtain ⟨hg_O, hg_from, hg_to, hg_weight, hg_cost, hg_tail, hg_head, hg_by, hg_out, hg_in, hg_joined, hg_b⟩ := id hg
  obtain ⟨⟨hxg_F, hxg_T, hxg_W, hxg_C, hxg_Tl, hxg_Hd, hxg_By, hxg_Ou, hxg_In, hxg_Jo⟩, ⟨hrg_F, hrg_T, hrg_W, hrg_C, hrg_Tl, hrg_Hd, hrg_By, hrg_Ou, hrg_In, hrg_Jo⟩, houg⟩ := id hxg
  have hgb := hg_b
  have hsq : gn * gn ≤ 256 := Nat.le_trans (Nat.mul_le_mul (show gn ≤ 16 by omega) (show gn ≤ 16 by omega)) (by decide)
  have hFT : ∀ k, k < gm → (0 ≤ F k ∧ F k < (gn : Int)) ∧ (0 ≤ T k ∧ T k < (gn : Int)) := fun k hk => by have h1 := hrg_F k hk; have h2 := hrg_T k hk; omega
  have hW9 : ∀ e, e < gm → -1000 ≤ W e ∧ W e ≤ 1000 := hrg_W
  have hltg : ga < wa ∧ gF < wa ∧ gT < wa ∧ gW < wa ∧ gC < wa ∧ gTl < wa ∧ gHd < wa ∧ gBy < wa ∧ gOu < wa ∧ gIn < wa ∧ gJo < wa := ⟨rd_lo hlo hg_O, rd_lo hlo hg_from, rd_lo hlo hg_to, rd_lo hlo hg_weight, rd_lo hlo hg_cost, rd_lo hlo hg_tail, rd_lo hlo hg_head, rd_lo hlo hg_by, rd_lo hlo hg_out, rd_lo hlo hg_in, rd_lo hlo hg_joined⟩
  have hs9 : (Int.toNat x3) < gn := by omega
  have hz1 : Rfx gn 0 2 (fun _ => 0) := fun _ _ => ⟨(by show (0 : Int) ≤ 0; decide), (by show (0 : Int) ≤ 2; decide)⟩
  have hz5 : Rfx (gn * gn) 0 59 (fun _ => 0) := fun _ _ => ⟨(by show (0 : Int) ≤ 0; decide), (by show (0 : Int) ≤ 59; decide)⟩
  have hz3 : Rfx gn (-1) 100000 (fun _ => -1) := fun _ _ => ⟨(by show (-1 : Int) ≤ -1; decide), (by show (-1 : Int) ≤ 100000; decide)⟩
  refine p_X10w (by omega) ht hg_O rfl h0 rfl (by omega) hlo (by omega) (by omega) (fun hp1 ht1 => ?_)
  refine r_aload_n (pc := 63) dX10_init_63 (i := 0) rfl rfl ?_
  refine t_getE (pc := 64) (.ref (wa + 3)) ht1 (rd_of WE_0) fX10_26 dX10_init_64 rfl ?_
  refine r_iconst (pc := 67) (v := iv (-1)) dX10_init_67 (by decide) ?_
  refine t_fillX (pc := 68) ht1 WE_3 kX10_35 dX10_init_68 (by omega) (by omega) (by omega) (Nat.le_of_ble_eq_true rfl) (fun hp1 ht2 => ?_)
  have ht3 := WEw_vl ht2
  refine r_aload_n (pc := 71) dX10_init_71 (i := 0) rfl rfl ?_
  refine t_getE (pc := 72) (.ref (wa + 1)) ht3 (rd_of WE_0) fX10_18 dX10_init_72 rfl ?_
  refine r_iload_n (pc := 75) dX10_init_75 (i := 3) rfl rfl ?_
  refine r_iconst (pc := 76) (v := iv 1) dX10_init_76 (by decide) ?_
  refine t_iastX (pc := 77) (t0 := 0) ht3 WE_1 dX10_init_77 rfl (by omega) (by omega) (by omega) (fun hp4 ht5 => ?_)
  have ht6 := WEw_vs ht5
  have hqht6 : Rfx gn 0 2 (fup (fun _ => 0) (Int.toNat x3) 1) := Rfx_up (by assumption) (by omega)
  refine r_aload_n (pc := 78) dX10_init_78 (i := 0) rfl rfl ?_
  refine t_getE (pc := 79) (.ref (wa + 3)) ht6 (rd_of WE_0) fX10_26 dX10_init_79 rfl ?_
  refine r_iload_n (pc := 82) dX10_init_82 (i := 3) rfl rfl ?_
  refine r_iconst (pc := 83) (v := iv 0) dX10_init_83 (by decide) ?_
  refine t_iastX (pc := 84) (t0 := 0) ht6 WE_3 dX10_init_84 rfl (by omega) (by omega) (by omega) (fun hp7 ht8 => ?_)
  have ht9 := WEw_vl ht8
  have hqht9 : Rfx gn (-1) 100000 (fup (fun _ => (-1)) (Int.toNat x3) 0) := Rfx_up (by assumption) (by omega)
  refine r_aload_n (pc := 85) dX10_init_85 (i := 0) rfl rfl ?_
  refine t_getE (pc := 86) (.ref (wa + 4)) ht9 (rd_of WE_0) fX10_29 dX10_init_86 rfl ?_
  refine r_iload_n (pc := 89) dX10_init_89 (i := 3) rfl rfl ?_
  refine r_lconst (pc := 90) (v := 1) dX10_init_90 (by decide) ?_
  have hk90 : (1 : Int64).toInt = 1 := by decide
  refine t_lastX (pc := 91) (t0 := 1) ht9 WE_4 dX10_init_91 rfl (by omega) (by omega) (fun hp10 ht11 => ?_)
  have ht12 := WEw_vm ht11
  refine r_iload_n (pc := 92) dX10_init_92 (i := 2) rfl rfl ?_
  refine r_iconst (pc := 93) (v := iv 2) dX10_init_93 (by decide) ?_
  refine t_icmp_ne (pc := 94) (tgt := 120) dX10_init_94 (by decide) (by omega) (by omega) (fun c94 => ?_) (fun c94 => ?_)
  · refine r_aload_n (pc := 120) dX10_init_120 (i := 0) rfl rfl ?_
    refine r_aload_n (pc := 121) dX10_init_121 (i := 1) rfl rfl ?_
    refine r_iload_n (pc := 122) dX10_init_122 (i := 2) rfl rfl ?_
    refine r_iconst (pc := 123) (v := iv 1) dX10_init_123 (by decide) ?_
    refine t_icmp_ne (pc := 124) (tgt := 131) dX10_init_124 (by decide) (by omega) (by omega) (fun c124 => ?_) (fun c124 => ?_)
    · refine r_iconst (pc := 131) (v := iv 0) dX10_init_131 (by decide) ?_
      obtain ⟨fs17, hfs17⟩ := t_obj ht12 (rd_of WE_0)
      refine r_callV (pc := 132) (as := [.ref ga, .int (iv 0)]) (st := []) kX10_51 rfl dX10_init_132 hfs17 (w_X10_lowerAll (d := d - 1) (x2 := 0) (by omega) hg hltg hxg ht12 (by assumption) (by assumption) (by omega) hgo hs9 (li_0 (s := (((Int.toNat x3) : Nat) : Int)) (by omega)) (lwW_0 hs9) (lwB_00 (by omega) (by rw [fup_s]; decide) rfl (fup_s _ _ _)) (fun _ _ _ h => h)) rfl (by omega) (Nat.le_of_ble_eq_true rfl) (Nat.zero_le _) (Nat.zero_le _) rfl (fun r14 hp13 n15 hq16 => ?_)
      obtain ⟨hnn15, vs1_19, vo1_20, vl1_21, ht18, hrr14, hhq160, hhq161, hhq162⟩ := hq16
      subst n15 r14
      have hhq160 : liP gn gq ((Int.toNat x3) : Int) Tl Hd (prI 0 W By) vs1_19 vo1_20 vl1_21 2000 := hhq160
      have hhq161 : lwW gm gdr F T (wE 0 W) (Int.toNat x3) gn vs1_19 vo1_20 vl1_21 := hhq161
      have hhq162 : lwB gm gdr F T (wE 0 W) (Int.toNat x3) vs1_19 vo1_20 vl1_21 ((gn : Int) - 1) := hhq162
      change Rn _ _ _ 135 _ [] _ _ _ _ _
      have hq1S := li_S hhq160
      have hq1L := li_L hhq160 (by omega)
      refine r_aload_n (pc := 135) dX10_init_135 (i := 0) rfl rfl ?_
      refine r_aload_n (pc := 136) dX10_init_136 (i := 1) rfl rfl ?_
      refine r_iload_n (pc := 137) dX10_init_137 (i := 2) rfl rfl ?_
      refine r_iconst (pc := 138) (v := iv 1) dX10_init_138 (by decide) ?_
      refine t_icmp_ne (pc := 139) (tgt := 146) dX10_init_139 (by decide) (by omega) (by omega) (fun c139 => ?_) (fun c139 => ?_)
      · refine r_iconst (pc := 146) (v := iv 0) dX10_init_146 (by decide) ?_
        obtain ⟨fs26, hfs26⟩ := t_obj ht18 (rd_of WE_0)
        refine r_callV (pc := 147) (as := [.ref ga, .int (iv 0)]) (st := []) kX10_55 rfl dX10_init_147 hfs26 (w_X10_markEndless (d := d - 1) (x2 := 0) (by omega) hg hltg hxg ht18 (by assumption) (by assumption) (by omega) hgo hs9 hou9 hhq160 hhq161 hhq162 (fun _ => rfl) (fun _ _ _ h => h)) rfl (by omega) (Nat.le_of_ble_eq_true rfl) (Nat.zero_le _) (Nat.zero_le _) rfl (fun r23 hp22 n24 hq25 => ?_)
        obtain ⟨hnn24, vs1_28, vo1_29, vl1_30, vm1_31, ht27, hrr23, hhq250⟩ := hq25
        subst n24 r23
        have hhq250 : ∀ v, v < gn → lwF gm gdr F T (wE 0 W) (Int.toNat x3) gn vs1_28 vo1_29 vl1_30 v ∧ vm1_31 v = (if vs1_28 v = 1 ∧ v = (Int.toNat x3) then 1 else 0) := hhq250
        change Rn _ _ _ 150 _ [] _ _ _ _ _
        have hlv9 := hhq250
        have hq2S := lf_rs (fun v hv => (hlv9 v hv).1)
        have hq2L := lf_rl (fun v hv => (hlv9 v hv).1) (by omega)
        refine r_aload_n (pc := 150) dX10_init_150 (i := 0) rfl rfl ?_
        refine r_aload_n (pc := 151) dX10_init_151 (i := 1) rfl rfl ?_
        refine r_iload_n (pc := 152) dX10_init_152 (i := 2) rfl rfl ?_
        refine r_iconst (pc := 153) (v := iv 1) dX10_init_153 (by decide) ?_
        refine t_icmp_ne (pc := 154) (tgt := 161) dX10_init_154 (by decide) (by omega) (by omega) (fun c154 => ?_) (fun c154 => ?_)
        · refine r_iconst (pc := 161) (v := iv 0) dX10_init_161 (by decide) ?_
          obtain ⟨fs36, hfs36⟩ := t_obj ht27 (rd_of WE_0)
          refine r_callV (pc := 162) (as := [.ref ga, .int (iv 0)]) (st := []) kX10_58 rfl dX10_init_162 hfs36 (w_X10_traceLow (d := d - 1) (x2 := 0) (by omega) hg hltg hxg ht27 (by assumption) (by assumption) (by assumption) (by omega) hgo hs9 hlv9 (fun _ _ _ h => h)) rfl (by omega) (Nat.le_of_ble_eq_true rfl) (Nat.zero_le _) (Nat.zero_le _) rfl (fun r33 hp32 n34 hq35 => ?_)
          obtain ⟨hnn34, vm1_38, vr1_39, ht37, hrr33, hhq350, hhq351⟩ := hq35
          subst n34 r33
          have hhq350 : trL gm gdr F T (wE 0 W) (Int.toNat x3) gn vs1_28 vl1_30 vm1_38 vr1_39 (gn : Int) 0 := hhq350
          have hhq351 : Rfx (gn * gn) 0 59 vr1_39 := hhq351
          change Rn _ _ _ 165 _ [] _ _ _ _ _
          have hwy : ∀ v, v < gn → wyP gm gdr F T W x2 (Int.toNat x3) (gn : Int) v (vs1_28 v) (vo1_29 v) (vl1_30 v) (vm1_38 v) (fun i => vr1_39 (v * gn + i)) := fun v hv => wy_low (each := 0) (by omega) hW9 (by omega) hs9 hFT (fi_l0 (wE_b hW9) (by omega) hs9 hFT (fun v hv => (hlv9 v hv).1) hhq350 (by omega) hv)
          have hrr9 := hhq351
          exact r_vret (pc := 165) dX10_init_165 rfl ⟨by omega, rfl, _, _, _, _, _, _, WE_ext hlo (Ext_refl Γ), ht37, WE_ty (by omega) hq2S hq2L hrr9, rd_of WE_1, rd_of WE_2, rd_of WE_3, rd_of WE_4, rd_of WE_5, hwy⟩
        · exfalso
          omega
      · exfalso
        omega
    · refine r_iconst (pc := 127) (v := iv 1) dX10_init_127 (by decide) ?_
      refine r_goto (pc := 128) (tgt := 132) dX10_init_128 (by decide) ?_
      obtain ⟨fs44, hfs44⟩ := t_obj ht12 (rd_of WE_0)
      refine r_callV (pc := 132) (as := [.ref ga, .int (iv 1)]) (st := []) kX10_51 rfl dX10_init_132 hfs44 (w_X10_lowerAll (d := d - 1) (x2 := 1) (by omega) hg hltg hxg ht12 (by assumption) (by assumption) (by omega) hgo hs9 (li_0 (s := (((Int.toNat x3) : Nat) : Int)) (by omega)) (lwW_0 hs9) (lwB_00 (by omega) (by rw [fup_s]; decide) rfl (fup_s _ _ _)) (fun _ _ _ h => h)) rfl (by omega) (Nat.le_of_ble_eq_true rfl) (Nat.zero_le _) (Nat.zero_le _) rfl (fun r41 hp40 n42 hq43 => ?_)
      obtain ⟨hnn42, vs1_46, vo1_47, vl1_48, ht45, hrr41, hhq430, hhq431, hhq432⟩ := hq43
      subst n42 r41
      have hhq430 : liP gn gq ((Int.toNat x3) : Int) Tl Hd (prI 1 W By) vs1_46 vo1_47 vl1_48 2000 := hhq430
      have hhq431 : lwW gm gdr F T (wE 1 W) (Int.toNat x3) gn vs1_46 vo1_47 vl1_48 := hhq431
      have hhq432 : lwB gm gdr F T (wE 1 W) (Int.toNat x3) vs1_46 vo1_47 vl1_48 ((gn : Int) - 1) := hhq432
      change Rn _ _ _ 135 _ [] _ _ _ _ _
      have hq1S := li_S hhq430
      have hq1L := li_L hhq430 (by omega)
      refine r_aload_n (pc := 135) dX10_init_135 (i := 0) rfl rfl ?_
      refine r_aload_n (pc := 136) dX10_init_136 (i := 1) rfl rfl ?_
      refine r_iload_n (pc := 137) dX10_init_137 (i := 2) rfl rfl ?_
      refine r_iconst (pc := 138) (v := iv 1) dX10_init_138 (by decide) ?_
      refine t_icmp_ne (pc := 139) (tgt := 146) dX10_init_139 (by decide) (by omega) (by omega) (fun c139 => ?_) (fun c139 => ?_)
      · exfalso
        omega
      · refine r_iconst (pc := 142) (v := iv 1) dX10_init_142 (by decide) ?_
        refine r_goto (pc := 143) (tgt := 147) dX10_init_143 (by decide) ?_
        obtain ⟨fs53, hfs53⟩ := t_obj ht45 (rd_of WE_0)
        refine r_callV (pc := 147) (as := [.ref ga, .int (iv 1)]) (st := []) kX10_55 rfl dX10_init_147 hfs53 (w_X10_markEndless (d := d - 1) (x2 := 1) (by omega) hg hltg hxg ht45 (by assumption) (by assumption) (by omega) hgo hs9 hou9 hhq430 hhq431 hhq432 (fun _ => rfl) (fun _ _ _ h => h)) rfl (by omega) (Nat.le_of_ble_eq_true rfl) (Nat.zero_le _) (Nat.zero_le _) rfl (fun r50 hp49 n51 hq52 => ?_)
        obtain ⟨hnn51, vs1_55, vo1_56, vl1_57, vm1_58, ht54, hrr50, hhq520⟩ := hq52
        subst n51 r50
        have hhq520 : ∀ v, v < gn → lwF gm gdr F T (wE 1 W) (Int.toNat x3) gn vs1_55 vo1_56 vl1_57 v ∧ vm1_58 v = (if vs1_55 v = 1 ∧ v = (Int.toNat x3) then 1 else 0) := hhq520
        change Rn _ _ _ 150 _ [] _ _ _ _ _
        have hlv9 := hhq520
        have hq2S := lf_rs (fun v hv => (hlv9 v hv).1)
        have hq2L := lf_rl (fun v hv => (hlv9 v hv).1) (by omega)
        refine r_aload_n (pc := 150) dX10_init_150 (i := 0) rfl rfl ?_
        refine r_aload_n (pc := 151) dX10_init_151 (i := 1) rfl rfl ?_
        refine r_iload_n (pc := 152) dX10_init_152 (i := 2) rfl rfl ?_
        refine r_iconst (pc := 153) (v := iv 1) dX10_init_153 (by decide) ?_
        refine t_icmp_ne (pc := 154) (tgt := 161) dX10_init_154 (by decide) (by omega) (by omega) (fun c154 => ?_) (fun c154 => ?_)
        · exfalso
          omega
        · refine r_iconst (pc := 157) (v := iv 1) dX10_init_157 (by decide) ?_
          refine r_goto (pc := 158) (tgt := 162) dX10_init_158 (by decide) ?_
          obtain ⟨fs63, hfs63⟩ := t_obj ht54 (rd_of WE_0)
          refine r_callV (pc := 162) (as := [.ref ga, .int (iv 1)]) (st := []) kX10_58 rfl dX10_init_162 hfs63 (w_X10_traceLow (d := d - 1) (x2 := 1) (by omega) hg hltg hxg ht54 (by assumption) (by assumption) (by assumption) (by omega) hgo hs9 hlv9 (fun _ _ _ h => h)) rfl (by omega) (Nat.le_of_ble_eq_true rfl) (Nat.zero_le _) (Nat.zero_le _) rfl (fun r60 hp59 n61 hq62 => ?_)
          obtain ⟨hnn61, vm1_65, vr1_66, ht64, hrr60, hhq620, hhq621⟩ := hq62
          subst n61 r60
          have hhq620 : trL gm gdr F T (wE 1 W) (Int.toNat x3) gn vs1_55 vl1_57 vm1_65 vr1_66 (gn : Int) 0 := hhq620
          have hhq621 : Rfx (gn * gn) 0 59 vr1_66 := hhq621
          change Rn _ _ _ 165 _ [] _ _ _ _ _
          have hwy : ∀ v, v < gn → wyP gm gdr F T W x2 (Int.toNat x3) (gn : Int) v (vs1_55 v) (vo1_56 v) (vl1_57 v) (vm1_65 v) (fun i => vr1_66 (v * gn + i)) := fun v hv => wy_low (each := 1) (by omega) hW9 (by omega) hs9 hFT (fi_l0 (wE_b hW9) (by omega) hs9 hFT (fun v hv => (hlv9 v hv).1) hhq620 (by omega) hv)
          have hrr9 := hhq621
          exact r_vret (pc := 165) dX10_init_165 rfl ⟨by omega, rfl, _, _, _, _, _, _, WE_ext hlo (Ext_refl Γ), ht64, WE_ty (by omega) hq2S hq2L hrr9, rd_of WE_1, rd_of WE_2, rd_of WE_3, rd_of WE_4, rd_of WE_5, hwy⟩
  · refine r_aload_n (pc := 97) dX10_init_97 (i := 0) rfl rfl ?_
    refine t_getE (pc := 98) (.ref (wa + 2)) ht12 (rd_of WE_0) fX10_22 dX10_init_98 rfl ?_
    refine r_iload_n (pc := 101) dX10_init_101 (i := 3) rfl rfl ?_
    refine r_ldc2 (pc := 102) (v := 1001) dX10_init_102 kX10_41 ?_
    have hk102 : (1001 : Int64).toInt = 1001 := by decide
    refine t_lastX (pc := 105) (t0 := 1) ht12 WE_2 dX10_init_105 rfl (by omega) (by omega) (fun hp67 ht68 => ?_)
    have ht69 := WEw_vo ht68
    refine r_aload_n (pc := 106) dX10_init_106 (i := 0) rfl rfl ?_
    refine r_aload_n (pc := 107) dX10_init_107 (i := 1) rfl rfl ?_
    obtain ⟨fs74, hfs74⟩ := t_obj ht69 (rd_of WE_0)
    refine r_callV (pc := 108) (as := [.ref ga]) (st := []) kX10_43 rfl dX10_init_108 hfs74 (w_X10_widenAll (d := d - 1)  (by omega) hg hltg hxg ht69 (by assumption)  hgo hs9 (wnW_0 (by decide)) (wnB_0 (by rw [fup_s]; decide) (by rw [fuj_s]; decide)) (fun _ _ _ h => h)) rfl (by omega) (Nat.le_of_ble_eq_true rfl) (Nat.zero_le _) (Nat.zero_le _) rfl (fun r71 hp70 n72 hq73 => ?_)
    obtain ⟨hnn72, vs1_76, vo1_77, ht75, hrr71, hhq730, hhq731, hhq732⟩ := hq73
    subst n72 r71
    have hhq730 : Rfx gn 0 2 vs1_76 := hhq730
    have hhq731 : wnW gm gdr F T W (Int.toNat x3) gn vs1_76 vo1_77 := hhq731
    have hhq732 : wnB gm gdr F T W (Int.toNat x3) vs1_76 vo1_77 (gn : Int) := hhq732
    change Rn _ _ _ 111 _ [] _ _ _ _ _
    have hS9 := hhq730
    have hwf : ∀ v, v < gn → wfP gm gdr F T W (Int.toNat x3) vs1_76 vo1_77 v := fun v hv => wf_end hs9 hFT hhq731 hhq732 hv
    refine r_aload_n (pc := 111) dX10_init_111 (i := 0) rfl rfl ?_
    refine r_aload_n (pc := 112) dX10_init_112 (i := 1) rfl rfl ?_
    refine r_iload_n (pc := 113) dX10_init_113 (i := 3) rfl rfl ?_
    have hl1 := wy_l (n := gn) (x := x3) (by omega)
    obtain ⟨fs82, hfs82⟩ := t_obj ht75 (rd_of WE_0)
    refine r_callV (pc := 114) (as := [.ref ga, .int (iv x3)]) (st := []) kX10_47 rfl dX10_init_114 hfs82 (w_X10_traceWide (d := d - 1) (x2 := x3) (by omega) hg hltg hxg ht75 (by assumption) (by assumption) (by assumption) (by omega) hgo (by omega) (by omega) hlo hwf (fun _ => rfl) (fun _ => rfl) (fun _ _ _ h => h)) rfl (by omega) (Nat.le_of_ble_eq_true rfl) (by omega) (by omega) rfl (fun r79 hp78 n80 hq81 => ?_)
    obtain ⟨hnn80, vl1_84, vm1_85, vr1_86, ht83, hrr79, hhq810, hhq811, hhq812⟩ := hq81
    subst r79
    have hhq810 : ∀ v, v < gn → wyP gm gdr F T W 2 (Int.toNat x3) (gn : Int) v (vs1_76 v) (vo1_77 v) (vl1_84 v) (vm1_85 v) (fun i => vr1_86 (v * gn + i)) := hhq810
    have hhq811 : Rfx gn (-1) ((gn : Int) - 1) vl1_84 := hhq811
    have hhq812 : Rfx (gn * gn) 0 59 vr1_86 := hhq812
    change Rn _ _ _ 117 _ [] _ _ _ _ _
    have hwy : ∀ v, v < gn → wyP gm gdr F T W x2 (Int.toNat x3) (gn : Int) v (vs1_76 v) (vo1_77 v) (vl1_84 v) (vm1_85 v) (fun i => vr1_86 (v * gn + i)) := by rw [show x2 = 2 by omega]; exact hhq810
    have hq2L := hhq811
    have hrr9 := hhq812
    refine r_goto (pc := 117) (tgt := 165) dX10_init_117 (by decide) ?_
    exact r_vret (pc := 165) dX10_init_165 rfl ⟨by omega, rfl, _, _, _, _, _, _, WE_ext hlo (Ext_refl Γ), ht83, WE_ty (by omega) hS9 hq2L hrr9, rd_of WE_1, rd_of WE_2, rd_of WE_3, rd_of WE_4, rd_of WE_5, hwy⟩
