theorem ck_dg {n m : Nat} {d kind x : Int} {F T W : Nat → Int} {f : Nat → Int64} (hk : kind < 3) (h : f = dgF kind d F T W (fun _ => 0) m) : ckP (n : Int) (m : Int) d F T W kind x f :=
  ⟨fun _ v _ => by rw [h, Int.toNat_natCast], fun e => by omega, fun e => by omega, fun e => by omega, fun e => by omega⟩
theorem ck_co {n m : Nat} {d kind x : Int} {F T W : Nat → Int} {f : Nat → Int64} (hk : kind = 3) (h : ∀ v, v < n → coP m F T n v (f v).toInt) : ckP (n : Int) (m : Int) d F T W kind x f :=
  ⟨fun e => by omega, fun _ v hv => by rw [Int.toNat_natCast, Int.toNat_natCast]; exact h v (by omega), fun e => by omega, fun e => by omega, fun e => by omega⟩
theorem ck_wk {n m : Nat} {d kind x : Int} {F T W : Nat → Int} {f : Nat → Int64} (hk : kind = 5) (h : eqB f (wkC m d F T x.toNat) (n : Int)) : ckP (n : Int) (m : Int) d F T W kind x f :=
  ⟨fun e => by omega, fun e => by omega, fun e => by omega, fun _ v hv => by rw [Int.toNat_natCast]; exact h v hv, fun e => by omega⟩
/-- numbers of a node: how far one gets, how many blocks -/
def fbP (m : Nat) (d : Int) (F T : Nat → Int) (n : Nat) (kind : Int) (f : Nat → Int64) (v : Int) : Prop := ∀ u : Nat, (u : Int) < v → (kind = 4 → 0 ≤ (f u).toInt ∧ frP (stP m d F T) u (f u).toInt.toNat) ∧ (kind ≠ 4 → (f u).toInt = (cnP (pcM (joX m F T (fun _ => True)) u) n : Int))
theorem fb_up {m : Nat} {d : Int} {F T : Nat → Int} {n : Nat} {kind v y : Int} {f : Nat → Int64} (h : fbP m d F T n kind f v) (h0 : 0 ≤ v) (hy : -2147483648 ≤ y ∧ y ≤ 2147483647) (h1 : (kind = 4 ∧ 0 ≤ y ∧ frP (stP m d F T) v.toNat y.toNat) ∨ (kind ≠ 4 ∧ y = (cnP (pcM (joX m F T (fun _ => True)) v.toNat) n : Int))) : fbP m d F T n kind (fuj f v.toNat (iv y).toInt64) (v + 1) := by
  intro u hu
  by_cases e : u = v.toNat
  · subst e
    rw [fuj_s, iv_long hy]
    rcases h1 with g | g
    · exact ⟨fun _ => g.2, fun e => absurd g.1 e⟩
    · exact ⟨fun e => absurd e g.1, fun _ => g.2⟩
  · rw [fuj_o _ _ e]; exact h u (by omega)
theorem ck_fb {n m : Nat} {d kind x v : Int} {F T W : Nat → Int} {f : Nat → Int64} (hk : kind = 4 ∨ kind = 6) (h : fbP m d F T n kind f v) (hv : (n : Int) ≤ v) (hF : ∀ k, k < m → (0 ≤ F k ∧ F k < (n : Int)) ∧ (0 ≤ T k ∧ T k < (n : Int))) : ckP (n : Int) (m : Int) d F T W kind x f := by
  refine ⟨fun e => by omega, fun e => by omega, fun e u hu => ?_, fun e => by omega, fun e u hu => ?_⟩
  · rw [Int.toNat_natCast]; exact (h u (by omega)).1 e
  · rw [(h u (by omega)).2 (by omega), Int.toNat_natCast, Int.toNat_natCast]
    have jn : ∀ i j, joX m F T (fun _ => True) i j → i < n ∧ j < n := fun i j ⟨k, g1, _, g3, g4⟩ => by
      have := hF k g1
      rcases g4 with g4 | g4 <;> omega
    have ji : ∀ i, ¬ joX m F T (fun _ => True) i i := fun i ⟨k, g1, _, g3, g4⟩ => by
      rcases g4 with g4 | g4 <;> omega
    have e9 := bk_cnt (J := joX m F T (fun _ => True)) joX_sym ji jn (show u < n by omega)
    have e8 : cnP (bkP (joX m F T (fun _ => True)) n u) (2 ^ n) = cnP (pcM (joX m F T (fun _ => True)) u) n := e9
    rw [e8]
set_option maxHeartbeats 4000000 in
set_option maxRecDepth 100000 in
theorem c_X0_measurex {D : va_G} {cI cJ cZ cT : ClassId} {lo b L : Nat} {xs : Nat → Int32} {hp : MH} {n d : Nat} {Γ : TG} {ga : Nat} {gF : Nat} {gT : Nat} {gW : Nat} {gC : Nat} {gTl : Nat} {gHd : Nat} {gBy : Nat} {gOu : Nat} {gIn : Nat} {gJo : Nat} {gn : Nat} {gm : Nat} {gq : Nat} {gdr : Int} {ca cM : Nat} {F T W C Tl Hd By Ou In Jo : Nat → Int} {x2 x3 : Int} {pos : Nat → Nat} (hd0 : 3 ≤ d) (hg : TyG Γ cI cJ cZ ga gF gT gW gC gTl gHd gBy gOu gIn gJo gn gm gq gdr) (hxg : XG Γ cI gF gT gW gC gTl gHd gBy gOu gIn gJo gn gm gq F T W C Tl Hd By Ou In Jo) (hc : TyCw Γ cI cJ cZ ca cM gn) (hne : nE cM ga ∧ nE cM gF ∧ nE cM gT ∧ nE cM gW ∧ nE cM gC ∧ nE cM gTl ∧ nE cM gHd ∧ nE cM gBy ∧ nE cM gOu ∧ nE cM gIn ∧ nE cM gJo ∧ nE cM ca) (ht : Tw (ov Γ cM (xJ cJ gn (fun _ => 0 : Nat → Int64))) hp) (hx2 : 0 ≤ x2 ∧ x2 ≤ 6) (hx3 : x2 = 5 → 0 ≤ x3 ∧ x3 ≤ 1000) (hgo : GoS gm gq gdr F T Tl Hd By pos) (hou9 : rwP Ou gn (stP gm gdr F T)) (hjo : rwP Jo gn (joX gm F T (fun _ => True))) : Mt (gG D cI cJ cZ cT lo b L xs) mX0_measure d 1 gn [.ref ca, .ref ga, .int (iv x2), .int (iv x3)] hp n (pCx Γ cJ cM gn n (fun f => ckP (gn : Int) (gm : Int) gdr F T W x2 x3 f)) := by
  refine Mt.of rfl (Nat.le_of_ble_eq_true rfl) ?_
  refine Rn.pick (lv' := [(0, .ref ca), (1, .ref ga), (2, .int (iv x2)), (3, .int (iv x3))]) [0, 1, 2, 3] rfl ?_
  obtain ⟨hg_O, hg_from, hg_to, hg_weight, hg_cost, hg_tail, hg_head, hg_by, hg_out, hg_in, hg_joined, hg_b⟩ := id hg
  obtain ⟨⟨hxg_F, hxg_T, hxg_W, hxg_C, hxg_Tl, hxg_Hd, hxg_By, hxg_Ou, hxg_In, hxg_Jo⟩, ⟨hrg_F, hrg_T, hrg_W, hrg_C, hrg_Tl, hrg_Hd, hrg_By, hrg_Ou, hrg_In, hrg_Jo⟩, houg⟩ := id hxg
  obtain ⟨hq_ga, hq_gF, hq_gT, hq_gW, hq_gC, hq_gTl, hq_gHd, hq_gBy, hq_gOu, hq_gIn, hq_gJo, hq_ca⟩ := id hne
  obtain ⟨hc_O, hc_numbers, hc_b⟩ := id hc
  have hFT : ∀ k, k < gm → (0 ≤ F k ∧ F k < (gn : Int)) ∧ (0 ≤ T k ∧ T k < (gn : Int)) := fun k hk => by have h1 := hrg_F k hk; have h2 := hrg_T k hk; omega
  refine r_iload_n (pc := 0) dX0_measure_0 (i := 2) rfl rfl ?_
  by_cases c1 : x2 = 0
  · refine r_tableIn (pc := 1) (off := 39) (tgt := 40) dX0_measure_1 (by rw [iv_toInt (by omega) (by omega)]; omega) (by rw [iv_toInt (by omega) (by omega)]; omega) (by rw [iv_toInt (by omega) (by omega), c1]; decide) (by decide) ?_
    refine r_aload_n (pc := 40) dX0_measure_40 (i := 0) rfl rfl ?_
    refine r_aload_n (pc := 41) dX0_measure_41 (i := 1) rfl rfl ?_
    refine r_iload_n (pc := 42) dX0_measure_42 (i := 2) rfl rfl ?_
    refine t_if_eq (pc := 43) (tgt := 53) dX0_measure_43 (by decide) (by omega) (fun c43 => ?_) (fun c43 => ?_)
    · refine r_iconst (pc := 53) (v := iv 1) dX0_measure_53 (by decide) ?_
      refine r_goto (pc := 54) (tgt := 58) dX0_measure_54 (by decide) ?_
      refine r_iload_n (pc := 58) dX0_measure_58 (i := 2) rfl rfl ?_
      refine r_iconst (pc := 59) (v := iv 1) dX0_measure_59 (by decide) ?_
      refine t_icmp_eq (pc := 60) (tgt := 70) dX0_measure_60 (by decide) (by omega) (by omega) (fun c60 => ?_) (fun c60 => ?_)
      · exfalso
        omega
      · refine r_aload_n (pc := 63) dX0_measure_63 (i := 1) rfl rfl ?_
        refine t_getE (pc := 64) (.int (iv gdr)) ht (rd_ov (Ne.symm hq_ga) hg_O) fX0_19 dX0_measure_64 rfl ?_
        refine t_if_ne (pc := 67) (tgt := 74) dX0_measure_67 (by decide) (by omega) (fun c67 => ?_) (fun c67 => ?_)
        · refine r_iconst (pc := 74) (v := iv 0) dX0_measure_74 (by decide) ?_
          obtain ⟨o2, ho2⟩ := t_obj ht (rd_ov (Ne.symm hq_ca) hc_O)
          refine r_callV (pc := 75) (as := [.ref ga, .int (iv 1), .int (iv 0)]) (st := []) kX0_25 rfl dX0_measure_75 ho2 (c_X0_countEndsx (d := d - 1) (kk := x2) (x2 := 1) (x3 := 0) (by omega) hg hxg hc hne ht (by omega) (by omega) (by omega)) rfl (by omega) (Nat.le_of_ble_eq_true rfl) (by omega) (by omega) rfl (fun r3 hp4 n5 q6 => ?_)
          obtain ⟨hn75, rfl, fc75, ht7, hq75⟩ := q6
          refine r_goto (pc := 78) (tgt := 156) dX0_measure_78 (by decide) ?_
          exact r_vret (pc := 156) dX0_measure_156 rfl ⟨by omega, rfl, fc75, ht7, by first | exact ck_dg (by omega) hq75 | exact ck_dg (by omega) (by rw [show x2 = 2 by omega]; exact hq83) | exact ck_co (by omega) hq91 | exact ck_wk (by omega) hq100 | exact ck_fb (by omega) (by assumption) (by omega) hFT⟩
        · refine r_iconst (pc := 70) (v := iv 1) dX0_measure_70 (by decide) ?_
          refine r_goto (pc := 71) (tgt := 75) dX0_measure_71 (by decide) ?_
          obtain ⟨o8, ho8⟩ := t_obj ht (rd_ov (Ne.symm hq_ca) hc_O)
          refine r_callV (pc := 75) (as := [.ref ga, .int (iv 1), .int (iv 1)]) (st := []) kX0_25 rfl dX0_measure_75 ho8 (c_X0_countEndsx (d := d - 1) (kk := x2) (x2 := 1) (x3 := 1) (by omega) hg hxg hc hne ht (by omega) (by omega) (by omega)) rfl (by omega) (Nat.le_of_ble_eq_true rfl) (by omega) (by omega) rfl (fun r9 hp10 n11 q12 => ?_)
          obtain ⟨hn75, rfl, fc75, ht13, hq75⟩ := q12
          refine r_goto (pc := 78) (tgt := 156) dX0_measure_78 (by decide) ?_
          exact r_vret (pc := 156) dX0_measure_156 rfl ⟨by omega, rfl, fc75, ht13, by first | exact ck_dg (by omega) hq75 | exact ck_dg (by omega) (by rw [show x2 = 2 by omega]; exact hq83) | exact ck_co (by omega) hq91 | exact ck_wk (by omega) hq100 | exact ck_fb (by omega) (by assumption) (by omega) hFT⟩
    · exfalso
      omega
  by_cases c14 : x2 = 1
  · refine r_tableIn (pc := 1) (off := 39) (tgt := 40) dX0_measure_1 (by rw [iv_toInt (by omega) (by omega)]; omega) (by rw [iv_toInt (by omega) (by omega)]; omega) (by rw [iv_toInt (by omega) (by omega), c14]; decide) (by decide) ?_
    refine r_aload_n (pc := 40) dX0_measure_40 (i := 0) rfl rfl ?_
    refine r_aload_n (pc := 41) dX0_measure_41 (i := 1) rfl rfl ?_
    refine r_iload_n (pc := 42) dX0_measure_42 (i := 2) rfl rfl ?_
    refine t_if_eq (pc := 43) (tgt := 53) dX0_measure_43 (by decide) (by omega) (fun c43 => ?_) (fun c43 => ?_)
    · exfalso
      omega
    · refine r_aload_n (pc := 46) dX0_measure_46 (i := 1) rfl rfl ?_
      refine t_getE (pc := 47) (.int (iv gdr)) ht (rd_ov (Ne.symm hq_ga) hg_O) fX0_19 dX0_measure_47 rfl ?_
      refine t_if_ne (pc := 50) (tgt := 57) dX0_measure_50 (by decide) (by omega) (fun c50 => ?_) (fun c50 => ?_)
      · refine r_iconst (pc := 57) (v := iv 0) dX0_measure_57 (by decide) ?_
        refine r_iload_n (pc := 58) dX0_measure_58 (i := 2) rfl rfl ?_
        refine r_iconst (pc := 59) (v := iv 1) dX0_measure_59 (by decide) ?_
        refine t_icmp_eq (pc := 60) (tgt := 70) dX0_measure_60 (by decide) (by omega) (by omega) (fun c60 => ?_) (fun c60 => ?_)
        · refine r_iconst (pc := 70) (v := iv 1) dX0_measure_70 (by decide) ?_
          refine r_goto (pc := 71) (tgt := 75) dX0_measure_71 (by decide) ?_
          obtain ⟨o15, ho15⟩ := t_obj ht (rd_ov (Ne.symm hq_ca) hc_O)
          refine r_callV (pc := 75) (as := [.ref ga, .int (iv 0), .int (iv 1)]) (st := []) kX0_25 rfl dX0_measure_75 ho15 (c_X0_countEndsx (d := d - 1) (kk := x2) (x2 := 0) (x3 := 1) (by omega) hg hxg hc hne ht (by omega) (by omega) (by omega)) rfl (by omega) (Nat.le_of_ble_eq_true rfl) (by omega) (by omega) rfl (fun r16 hp17 n18 q19 => ?_)
          obtain ⟨hn75, rfl, fc75, ht20, hq75⟩ := q19
          refine r_goto (pc := 78) (tgt := 156) dX0_measure_78 (by decide) ?_
          exact r_vret (pc := 156) dX0_measure_156 rfl ⟨by omega, rfl, fc75, ht20, by first | exact ck_dg (by omega) hq75 | exact ck_dg (by omega) (by rw [show x2 = 2 by omega]; exact hq83) | exact ck_co (by omega) hq91 | exact ck_wk (by omega) hq100 | exact ck_fb (by omega) (by assumption) (by omega) hFT⟩
        · exfalso
          omega
      · refine r_iconst (pc := 53) (v := iv 1) dX0_measure_53 (by decide) ?_
        refine r_goto (pc := 54) (tgt := 58) dX0_measure_54 (by decide) ?_
        refine r_iload_n (pc := 58) dX0_measure_58 (i := 2) rfl rfl ?_
        refine r_iconst (pc := 59) (v := iv 1) dX0_measure_59 (by decide) ?_
        refine t_icmp_eq (pc := 60) (tgt := 70) dX0_measure_60 (by decide) (by omega) (by omega) (fun c60 => ?_) (fun c60 => ?_)
        · refine r_iconst (pc := 70) (v := iv 1) dX0_measure_70 (by decide) ?_
          refine r_goto (pc := 71) (tgt := 75) dX0_measure_71 (by decide) ?_
          obtain ⟨o21, ho21⟩ := t_obj ht (rd_ov (Ne.symm hq_ca) hc_O)
          refine r_callV (pc := 75) (as := [.ref ga, .int (iv 1), .int (iv 1)]) (st := []) kX0_25 rfl dX0_measure_75 ho21 (c_X0_countEndsx (d := d - 1) (kk := x2) (x2 := 1) (x3 := 1) (by omega) hg hxg hc hne ht (by omega) (by omega) (by omega)) rfl (by omega) (Nat.le_of_ble_eq_true rfl) (by omega) (by omega) rfl (fun r22 hp23 n24 q25 => ?_)
          obtain ⟨hn75, rfl, fc75, ht26, hq75⟩ := q25
          refine r_goto (pc := 78) (tgt := 156) dX0_measure_78 (by decide) ?_
          exact r_vret (pc := 156) dX0_measure_156 rfl ⟨by omega, rfl, fc75, ht26, by first | exact ck_dg (by omega) hq75 | exact ck_dg (by omega) (by rw [show x2 = 2 by omega]; exact hq83) | exact ck_co (by omega) hq91 | exact ck_wk (by omega) hq100 | exact ck_fb (by omega) (by assumption) (by omega) hFT⟩
        · exfalso
          omega
  by_cases c27 : x2 = 2
  · refine r_tableIn (pc := 1) (off := 80) (tgt := 81) dX0_measure_1 (by rw [iv_toInt (by omega) (by omega)]; omega) (by rw [iv_toInt (by omega) (by omega)]; omega) (by rw [iv_toInt (by omega) (by omega), c27]; decide) (by decide) ?_
    refine r_aload_n (pc := 81) dX0_measure_81 (i := 0) rfl rfl ?_
    refine r_aload_n (pc := 82) dX0_measure_82 (i := 1) rfl rfl ?_
    obtain ⟨o28, ho28⟩ := t_obj ht (rd_ov (Ne.symm hq_ca) hc_O)
    refine r_callV (pc := 83) (as := [.ref ga]) (st := []) kX0_29 rfl dX0_measure_83 ho28 (c_X0_sumWeightsx (d := d - 1)  (by omega) hg hxg hc hne ht hgo) rfl (by omega) (Nat.le_of_ble_eq_true rfl) (by omega) (by omega) rfl (fun r29 hp30 n31 q32 => ?_)
    obtain ⟨hn83, rfl, fc83, ht33, hq83⟩ := q32
    refine r_goto (pc := 86) (tgt := 156) dX0_measure_86 (by decide) ?_
    exact r_vret (pc := 156) dX0_measure_156 rfl ⟨by omega, rfl, fc83, ht33, by first | exact ck_dg (by omega) hq75 | exact ck_dg (by omega) (by rw [show x2 = 2 by omega]; exact hq83) | exact ck_co (by omega) hq91 | exact ck_wk (by omega) hq100 | exact ck_fb (by omega) (by assumption) (by omega) hFT⟩
  by_cases c34 : x2 = 3
  · refine r_tableIn (pc := 1) (off := 88) (tgt := 89) dX0_measure_1 (by rw [iv_toInt (by omega) (by omega)]; omega) (by rw [iv_toInt (by omega) (by omega)]; omega) (by rw [iv_toInt (by omega) (by omega), c34]; decide) (by decide) ?_
    refine r_aload_n (pc := 89) dX0_measure_89 (i := 0) rfl rfl ?_
    refine r_aload_n (pc := 90) dX0_measure_90 (i := 1) rfl rfl ?_
    obtain ⟨o35, ho35⟩ := t_obj ht (rd_ov (Ne.symm hq_ca) hc_O)
    refine r_callV (pc := 91) (as := [.ref ga]) (st := []) kX0_33 rfl dX0_measure_91 ho35 (c_X0_peelx (d := d - 1)  (by omega) hg hxg hc hne ht ) rfl (by omega) (Nat.le_of_ble_eq_true rfl) (by omega) (by omega) rfl (fun r36 hp37 n38 q39 => ?_)
    obtain ⟨hn91, rfl, fc91, ht40, hq91⟩ := q39
    refine r_goto (pc := 94) (tgt := 156) dX0_measure_94 (by decide) ?_
    exact r_vret (pc := 156) dX0_measure_156 rfl ⟨by omega, rfl, fc91, ht40, by first | exact ck_dg (by omega) hq75 | exact ck_dg (by omega) (by rw [show x2 = 2 by omega]; exact hq83) | exact ck_co (by omega) hq91 | exact ck_wk (by omega) hq100 | exact ck_fb (by omega) (by assumption) (by omega) hFT⟩
  by_cases c41 : x2 = 4
  · refine r_tableIn (pc := 1) (off := 105) (tgt := 106) dX0_measure_1 (by rw [iv_toInt (by omega) (by omega)]; omega) (by rw [iv_toInt (by omega) (by omega)]; omega) (by rw [iv_toInt (by omega) (by omega), c41]; decide) (by decide) ?_
    refine r_iconst (pc := 106) (v := iv 0) dX0_measure_106 (by decide) ?_
    refine r_istore (pc := 107) (lv' := [(4, .int (iv 0)), (0, .ref ca), (1, .ref ga), (2, .int (iv x2)), (3, .int (iv x3))]) dX0_measure_107 (by decide) rfl ?_
    have B109 : ∀ k : Nat, ∀ nu109 : Nat → Int64, ∀ hp109 : MH, Tw (ov Γ cM (xJ cJ gn nu109)) hp109 → ∀  (v109_4 : Int), 0 ≤ v109_4 ∧ v109_4 ≤ 16 ∧ (v109_4 ≤ (gn : Int)) ∧ ((x2 = 4 ∨ x2 = 6)) ∧ (fbP gm gdr F T gn x2 nu109 v109_4) → 16 - v109_4 ≤ (k : Int) → Rn (gG D cI cJ cZ cT lo b L xs) mX0_measure d 109 [(0, .ref ca), (1, .ref ga), (2, .int (iv x2)), (4, .int (iv v109_4))] [] hp109 n 1 gn (pCx Γ cJ cM gn n (fun f => ckP (gn : Int) (gm : Int) gdr F T W x2 x3 f)) := by
      refine lpS _ ?_
      intro k109 ih109 nu109 hp109 ht109 v109_4 hf109 hm109
      obtain ⟨hf109_0, hf109_1, hf109_2, hf109_3, ha109_4⟩ := hf109
      refine r_iload (pc := 109) dX0_measure_109 rfl ?_
      refine r_aload_n (pc := 111) dX0_measure_111 (i := 0) rfl rfl ?_
      refine t_getE (pc := 112) (.int (iv (gn : Int))) ht109 (rd_ov (Ne.symm hq_ca) hc_O) fX0_15 dX0_measure_112 rfl ?_
      refine t_icmp_ge (pc := 115) (tgt := 156) dX0_measure_115 (by decide) (by omega) (by omega) (fun c115 => ?_) (fun c115 => ?_)
      · exact r_vret (pc := 156) dX0_measure_156 rfl ⟨by omega, rfl, nu109, ht109, by first | exact ck_dg (by omega) hq75 | exact ck_dg (by omega) (by rw [show x2 = 2 by omega]; exact hq83) | exact ck_co (by omega) hq91 | exact ck_wk (by omega) hq100 | exact ck_fb (by omega) (by assumption) (by omega) hFT⟩
      · refine r_aload_n (pc := 118) dX0_measure_118 (i := 0) rfl rfl ?_
        refine t_getE (pc := 119) (.ref cM) ht109 (rd_ov (Ne.symm hq_ca) hc_O) fX0_9 dX0_measure_119 rfl ?_
        refine r_iload (pc := 122) dX0_measure_122 rfl ?_
        refine r_iload_n (pc := 124) dX0_measure_124 (i := 2) rfl rfl ?_
        refine r_iconst (pc := 125) (v := iv 4) dX0_measure_125 (by decide) ?_
        refine t_icmp_ne (pc := 126) (tgt := 142) dX0_measure_126 (by decide) (by omega) (by omega) (fun c126 => ?_) (fun c126 => ?_)
        · exfalso
          omega
        · refine r_aload_n (pc := 129) dX0_measure_129 (i := 1) rfl rfl ?_
          refine t_getE (pc := 130) (.ref gOu) ht109 (rd_ov (Ne.symm hq_ga) hg_O) fX0_40 dX0_measure_130 rfl ?_
          refine r_iload (pc := 133) dX0_measure_133 rfl ?_
          refine t_callSI (pc := 135) (as := [.ref gOu, .int (iv v109_4)]) (st := [.int (iv v109_4), .ref cM]) kX0_44 dX0_measure_135 (c_X8_farx (d := d - 1) (x1 := v109_4) (by omega) (rd_ov (Ne.symm hq_gOu) hxg_Ou) hrg_Ou (by omega) hou9 ht109 (by omega)) rfl (by omega) (Nat.le_of_ble_eq_true rfl) rfl (fun hp43 y42 ht44 by42 => ?_)
          obtain ⟨by421, hfar⟩ := by42
          refine r_i2l (pc := 138) (v := (iv y42).toInt64) dX0_measure_138 rfl ?_
          refine r_goto (pc := 139) (tgt := 149) dX0_measure_139 (by decide) ?_
          refine t_lastX (pc := 149) (t0 := 1) ht44 (ov_s _ _ _) dX0_measure_149 rfl (by omega) (by omega) (fun hp45 ht46 => ?_)
          rw [ov_ov] at ht46
          refine r_iinc (pc := 150) (v := iv (v109_4 + 1)) (lv' := [(4, .int (iv (v109_4 + 1))), (0, .ref ca), (1, .ref ga), (2, .int (iv x2))]) dX0_measure_150 rfl (iv_add _ _) (by decide) rfl ?_
          refine r_goto (pc := 153) (tgt := 109) dX0_measure_153 (by decide) ?_
          refine Rn.pick (lv' := [(0, .ref ca), (1, .ref ga), (2, .int (iv x2)), (4, .int (iv (v109_4 + 1)))]) [1, 2, 3, 0] rfl ?_
          exact ih109 (Int.toNat (16 - (v109_4 + 1))) (by omega) (fuj nu109 (Int.toNat v109_4) ((iv y42).toInt64)) _ ht46 (v109_4 + 1) ⟨by omega, by omega, by omega, by omega, by (first | (intro u hu; exfalso; omega) | exact fb_up (by assumption) (by omega) (by omega) (Or.inl ⟨by omega, by omega, hfar⟩) | exact fb_up (by assumption) (by omega) (by omega) (Or.inr ⟨by omega, hblk⟩))⟩ (by omega)
    refine Rn.pick (lv' := [(0, .ref ca), (1, .ref ga), (2, .int (iv x2)), (4, .int (iv 0))]) [1, 2, 3, 0] rfl ?_
    exact B109 (Int.toNat (16 - 0)) (fun _ => 0) _ ht 0 ⟨by omega, by omega, by omega, by omega, by (first | (intro u hu; exfalso; omega) | exact fb_up (by assumption) (by omega) (by omega) (Or.inl ⟨by omega, by omega, hfar⟩) | exact fb_up (by assumption) (by omega) (by omega) (Or.inr ⟨by omega, hblk⟩))⟩ (by omega)
  by_cases c47 : x2 = 5
  · refine r_tableIn (pc := 1) (off := 96) (tgt := 97) dX0_measure_1 (by rw [iv_toInt (by omega) (by omega)]; omega) (by rw [iv_toInt (by omega) (by omega)]; omega) (by rw [iv_toInt (by omega) (by omega), c47]; decide) (by decide) ?_
    refine r_aload_n (pc := 97) dX0_measure_97 (i := 0) rfl rfl ?_
    refine r_aload_n (pc := 98) dX0_measure_98 (i := 1) rfl rfl ?_
    refine r_iload_n (pc := 99) dX0_measure_99 (i := 3) rfl rfl ?_
    obtain ⟨o48, ho48⟩ := t_obj ht (rd_ov (Ne.symm hq_ca) hc_O)
    refine r_callV (pc := 100) (as := [.ref ga, .int (iv x3)]) (st := []) kX0_36 rfl dX0_measure_100 ho48 (c_X0_countWalksx (d := d - 1) (x2 := x3) (by omega) hg hxg hc hne ht (by omega) hgo) rfl (by omega) (Nat.le_of_ble_eq_true rfl) (by omega) (by omega) rfl (fun r49 hp50 n51 q52 => ?_)
    obtain ⟨hn100, rfl, fc100, ht53, hq100⟩ := q52
    refine r_goto (pc := 103) (tgt := 156) dX0_measure_103 (by decide) ?_
    exact r_vret (pc := 156) dX0_measure_156 rfl ⟨by omega, rfl, fc100, ht53, by first | exact ck_dg (by omega) hq75 | exact ck_dg (by omega) (by rw [show x2 = 2 by omega]; exact hq83) | exact ck_co (by omega) hq91 | exact ck_wk (by omega) hq100 | exact ck_fb (by omega) (by assumption) (by omega) hFT⟩
  refine r_tableOut (pc := 1) (tgt := 106) dX0_measure_1 (by rw [iv_toInt (by omega) (by omega)]; omega) (by decide) ?_
  refine r_iconst (pc := 106) (v := iv 0) dX0_measure_106 (by decide) ?_
  refine r_istore (pc := 107) (lv' := [(4, .int (iv 0)), (0, .ref ca), (1, .ref ga), (2, .int (iv x2)), (3, .int (iv x3))]) dX0_measure_107 (by decide) rfl ?_
  have B109 : ∀ k : Nat, ∀ nu109 : Nat → Int64, ∀ hp109 : MH, Tw (ov Γ cM (xJ cJ gn nu109)) hp109 → ∀  (v109_4 : Int), 0 ≤ v109_4 ∧ v109_4 ≤ 16 ∧ (v109_4 ≤ (gn : Int)) ∧ ((x2 = 4 ∨ x2 = 6)) ∧ (fbP gm gdr F T gn x2 nu109 v109_4) → 16 - v109_4 ≤ (k : Int) → Rn (gG D cI cJ cZ cT lo b L xs) mX0_measure d 109 [(0, .ref ca), (1, .ref ga), (2, .int (iv x2)), (4, .int (iv v109_4))] [] hp109 n 1 gn (pCx Γ cJ cM gn n (fun f => ckP (gn : Int) (gm : Int) gdr F T W x2 x3 f)) := by
    refine lpS _ ?_
    intro k109 ih109 nu109 hp109 ht109 v109_4 hf109 hm109
    obtain ⟨hf109_0, hf109_1, hf109_2, hf109_3, ha109_4⟩ := hf109
    refine r_iload (pc := 109) dX0_measure_109 rfl ?_
    refine r_aload_n (pc := 111) dX0_measure_111 (i := 0) rfl rfl ?_
    refine t_getE (pc := 112) (.int (iv (gn : Int))) ht109 (rd_ov (Ne.symm hq_ca) hc_O) fX0_15 dX0_measure_112 rfl ?_
    refine t_icmp_ge (pc := 115) (tgt := 156) dX0_measure_115 (by decide) (by omega) (by omega) (fun c115 => ?_) (fun c115 => ?_)
    · exact r_vret (pc := 156) dX0_measure_156 rfl ⟨by omega, rfl, nu109, ht109, by first | exact ck_dg (by omega) hq75 | exact ck_dg (by omega) (by rw [show x2 = 2 by omega]; exact hq83) | exact ck_co (by omega) hq91 | exact ck_wk (by omega) hq100 | exact ck_fb (by omega) (by assumption) (by omega) hFT⟩
    · refine r_aload_n (pc := 118) dX0_measure_118 (i := 0) rfl rfl ?_
      refine t_getE (pc := 119) (.ref cM) ht109 (rd_ov (Ne.symm hq_ca) hc_O) fX0_9 dX0_measure_119 rfl ?_
      refine r_iload (pc := 122) dX0_measure_122 rfl ?_
      refine r_iload_n (pc := 124) dX0_measure_124 (i := 2) rfl rfl ?_
      refine r_iconst (pc := 125) (v := iv 4) dX0_measure_125 (by decide) ?_
      refine t_icmp_ne (pc := 126) (tgt := 142) dX0_measure_126 (by decide) (by omega) (by omega) (fun c126 => ?_) (fun c126 => ?_)
      · refine r_aload_n (pc := 142) dX0_measure_142 (i := 1) rfl rfl ?_
        refine r_iload (pc := 143) dX0_measure_143 rfl ?_
        refine t_callSI (pc := 145) (as := [.ref ga, .int (iv v109_4)]) (st := [.int (iv v109_4), .ref cM]) kX0_50 dX0_measure_145 (c_X8_blocksx (d := d - 1) (x1 := v109_4) (by omega) (TyG.ovx ⟨hq_ga, hq_gF, hq_gT, hq_gW, hq_gC, hq_gTl, hq_gHd, hq_gBy, hq_gOu, hq_gIn, hq_gJo⟩ hg) (XG.ovx ⟨hq_gF, hq_gT, hq_gW, hq_gC, hq_gTl, hq_gHd, hq_gBy, hq_gOu, hq_gIn, hq_gJo⟩ hxg) ht109 (by omega) (by omega) hjo) rfl (by omega) (Nat.le_of_ble_eq_true rfl) rfl (fun hp55 y54 ht56 by54 => ?_)
        obtain ⟨by541, hblk⟩ := by54
        refine r_i2l (pc := 148) (v := (iv y54).toInt64) dX0_measure_148 rfl ?_
        refine t_lastX (pc := 149) (t0 := 1) ht56 (ov_s _ _ _) dX0_measure_149 rfl (by omega) (by omega) (fun hp57 ht58 => ?_)
        rw [ov_ov] at ht58
        refine r_iinc (pc := 150) (v := iv (v109_4 + 1)) (lv' := [(4, .int (iv (v109_4 + 1))), (0, .ref ca), (1, .ref ga), (2, .int (iv x2))]) dX0_measure_150 rfl (iv_add _ _) (by decide) rfl ?_
        refine r_goto (pc := 153) (tgt := 109) dX0_measure_153 (by decide) ?_
        refine Rn.pick (lv' := [(0, .ref ca), (1, .ref ga), (2, .int (iv x2)), (4, .int (iv (v109_4 + 1)))]) [1, 2, 3, 0] rfl ?_
        exact ih109 (Int.toNat (16 - (v109_4 + 1))) (by omega) (fuj nu109 (Int.toNat v109_4) ((iv y54).toInt64)) _ ht58 (v109_4 + 1) ⟨by omega, by omega, by omega, by omega, by (first | (intro u hu; exfalso; omega) | exact fb_up (by assumption) (by omega) (by omega) (Or.inl ⟨by omega, by omega, hfar⟩) | exact fb_up (by assumption) (by omega) (by omega) (Or.inr ⟨by omega, hblk⟩))⟩ (by omega)
      · refine r_aload_n (pc := 129) dX0_measure_129 (i := 1) rfl rfl ?_
        refine t_getE (pc := 130) (.ref gOu) ht109 (rd_ov (Ne.symm hq_ga) hg_O) fX0_40 dX0_measure_130 rfl ?_
        refine r_iload (pc := 133) dX0_measure_133 rfl ?_
        refine t_callSI (pc := 135) (as := [.ref gOu, .int (iv v109_4)]) (st := [.int (iv v109_4), .ref cM]) kX0_44 dX0_measure_135 (c_X8_farx (d := d - 1) (x1 := v109_4) (by omega) (rd_ov (Ne.symm hq_gOu) hxg_Ou) hrg_Ou (by omega) hou9 ht109 (by omega)) rfl (by omega) (Nat.le_of_ble_eq_true rfl) rfl (fun hp60 y59 ht61 by59 => ?_)
        obtain ⟨by591, hfar⟩ := by59
        refine r_i2l (pc := 138) (v := (iv y59).toInt64) dX0_measure_138 rfl ?_
        refine r_goto (pc := 139) (tgt := 149) dX0_measure_139 (by decide) ?_
        refine t_lastX (pc := 149) (t0 := 1) ht61 (ov_s _ _ _) dX0_measure_149 rfl (by omega) (by omega) (fun hp62 ht63 => ?_)
        rw [ov_ov] at ht63
        refine r_iinc (pc := 150) (v := iv (v109_4 + 1)) (lv' := [(4, .int (iv (v109_4 + 1))), (0, .ref ca), (1, .ref ga), (2, .int (iv x2))]) dX0_measure_150 rfl (iv_add _ _) (by decide) rfl ?_
        refine r_goto (pc := 153) (tgt := 109) dX0_measure_153 (by decide) ?_
        refine Rn.pick (lv' := [(0, .ref ca), (1, .ref ga), (2, .int (iv x2)), (4, .int (iv (v109_4 + 1)))]) [1, 2, 3, 0] rfl ?_
        exact ih109 (Int.toNat (16 - (v109_4 + 1))) (by omega) (fuj nu109 (Int.toNat v109_4) ((iv y59).toInt64)) _ ht63 (v109_4 + 1) ⟨by omega, by omega, by omega, by omega, by (first | (intro u hu; exfalso; omega) | exact fb_up (by assumption) (by omega) (by omega) (Or.inl ⟨by omega, by omega, hfar⟩) | exact fb_up (by assumption) (by omega) (by omega) (Or.inr ⟨by omega, hblk⟩))⟩ (by omega)
  refine Rn.pick (lv' := [(0, .ref ca), (1, .ref ga), (2, .int (iv x2)), (4, .int (iv 0))]) [1, 2, 3, 0] rfl ?_
  exact B109 (Int.toNat (16 - 0)) (fun _ => 0) _ ht 0 ⟨by omega, by omega, by omega, by omega, by (first | (intro u hu; exfalso; omega) | exact fb_up (by assumption) (by omega) (by omega) (Or.inl ⟨by omega, by omega, hfar⟩) | exact fb_up (by assumption) (by omega) (by omega) (Or.inr ⟨by omega, hblk⟩))⟩ (by omega)
