/-- fewer than k colours don't do -/
def cnO (R : Nat → Nat → Prop) (S : Nat → Prop) (k : Int) : Prop := ∀ q : Int, 0 ≤ q → q < k → ¬ coQ R S q
theorem cn_up {R : Nat → Nat → Prop} {S : Nat → Prop} {k : Int} (h : cnO R S k) (hn : ¬ coQ R S k) : cnO R S (k + 1) := fun q h0 hq => by
  by_cases e : q = k
  · rw [e]; exact hn
  · exact h q h0 (by omega)
theorem cn_y {R : Nat → Nat → Prop} {S : Nat → Prop} {k : Int} (h : cnO R S k) (h0 : 0 ≤ k) (hk : coQ R S k) : coA R S k :=
  ⟨h0, hk, fun q g0 gq => Classical.byContradiction (fun g => h q g0 (by omega) gq)⟩
theorem co_all {R : Nat → Nat → Prop} {n : Nat} : coQ R (Me (((2 ^ n : Nat) : Int) - 1)) (n : Int) :=
  coq_id (fun v hv => by have := (Me_all v).mp hv; omega)
theorem cn_e {R : Nat → Nat → Prop} {n : Nat} {k : Int} (h : cnO R (Me (((2 ^ n : Nat) : Int) - 1)) k) (hk : (n : Int) ≤ k) : coA R (Me (((2 ^ n : Nat) : Int) - 1)) (n : Int) :=
  ⟨by omega, co_all, fun q g0 gq => Classical.byContradiction (fun g => h q g0 (by omega) gq)⟩
theorem cn_0 {m : Nat} {F T : Nat → Int} {n : Nat} {w : Int} (h : mxA (njA m F T n) (((2 ^ n : Nat) : Int) - 1) w) (hn : n ≤ 16) : cnO (joA m F T) (Me (((2 ^ n : Nat) : Int) - 1)) w ∧ w ≤ (n : Int) := by
  obtain ⟨⟨s, h1, h2, h3, h4⟩, -⟩ := h
  have hc : ∀ i j, Me s i → Me s j → i ≠ j → joA m F T i j := fun i j gi gj hne => Classical.byContradiction (fun g => h3 i j gi gj hne ⟨⟨(Me_all i).mp (h2 i gi), (Me_all j).mp (h2 j gj)⟩, g, hne⟩)
  refine ⟨fun q h0 hq g => ?_, ?_⟩
  · have := co_clq h1 h2 hc g h0
    omega
  · have := co_clq h1 h2 hc co_all (by omega)
    omega
set_option maxHeartbeats 4000000 in
set_option maxRecDepth 100000 in
theorem c_X7_coloursx {D : va_G} {cI cJ cZ cT : ClassId} {lo b L : Nat} {xs : Nat → Int32} {hp : MH} {n d : Nat} {Γ : TG} {ga : Nat} {gF : Nat} {gT : Nat} {gW : Nat} {gC : Nat} {gTl : Nat} {gHd : Nat} {gBy : Nat} {gOu : Nat} {gIn : Nat} {gJo : Nat} {gn : Nat} {gm : Nat} {gq : Nat} {gdr : Int} {F T W C Tl Hd By Ou In Jo : Nat → Int} {s : Nat} (hd0 : 19 ≤ d) (hg : TyG Γ cI cJ cZ ga gF gT gW gC gTl gHd gBy gOu gIn gJo gn gm gq gdr) (hxg : XG Γ cI gF gT gW gC gTl gHd gBy gOu gIn gJo gn gm gq F T W C Tl Hd By Ou In Jo) (hne : nE (s + 1) ga ∧ nE (s + 1) gF ∧ nE (s + 1) gT ∧ nE (s + 1) gW ∧ nE (s + 1) gC ∧ nE (s + 1) gTl ∧ nE (s + 1) gHd ∧ nE (s + 1) gBy ∧ nE (s + 1) gOu ∧ nE (s + 1) gIn ∧ nE (s + 1) gJo) (hne2 : nE (s + 2) ga ∧ nE (s + 2) gF ∧ nE (s + 2) gT ∧ nE (s + 2) gW ∧ nE (s + 2) gC ∧ nE (s + 2) gTl ∧ nE (s + 2) gHd ∧ nE (s + 2) gBy ∧ nE (s + 2) gOu ∧ nE (s + 2) gIn ∧ nE (s + 2) gJo) (hs : TySets Γ cI cJ cZ s) (ht : Tw Γ hp) (hjo : rwP Jo gn (joX gm F T (fun _ => True))) : Mt (gG D cI cJ cZ cT lo b L xs) mX7_colours d 0 0 [.ref s, .ref ga] hp n (pI Γ n (fun r => (0 ≤ r ∧ r ≤ 16) ∧ coA (joA gm F T) (Me (((2 ^ gn : Nat) : Int) - 1)) r)) := by
  refine Mt.of rfl (Nat.le_of_ble_eq_true rfl) ?_
  refine Rn.pick (lv' := [(0, .ref s), (1, .ref ga)]) [0, 1] rfl ?_
  obtain ⟨hg_O, hg_from, hg_to, hg_weight, hg_cost, hg_tail, hg_head, hg_by, hg_out, hg_in, hg_joined, hg_b⟩ := id hg
  obtain ⟨⟨hxg_F, hxg_T, hxg_W, hxg_C, hxg_Tl, hxg_Hd, hxg_By, hxg_Ou, hxg_In, hxg_Jo⟩, ⟨hrg_F, hrg_T, hrg_W, hrg_C, hrg_Tl, hrg_Hd, hrg_By, hrg_Ou, hrg_In, hrg_Jo⟩, houg⟩ := id hxg
  obtain ⟨hq_ga, hq_gF, hq_gT, hq_gW, hq_gC, hq_gTl, hq_gHd, hq_gBy, hq_gOu, hq_gIn, hq_gJo⟩ := id hne
  obtain ⟨hr_ga, hr_gF, hr_gT, hr_gW, hr_gC, hr_gTl, hr_gHd, hr_gBy, hr_gOu, hr_gIn, hr_gJo⟩ := id hne2
  have hgb := hg_b
  refine r_aload_n (pc := 0) dX7_colours_0 (i := 0) rfl rfl ?_
  refine r_aload_n (pc := 1) dX7_colours_1 (i := 1) rfl rfl ?_
  have t8 := Tw.ovr ht hs.2.1
  obtain ⟨Sf, hSf, t9⟩ := t8.unI
  have hR9 : Rfx 16 0 65535 Sf := fun i hi => (hSf i hi).1
  obtain ⟨fs9, hfs9⟩ := t_obj t9 (rd_ov (by omega) (rd_of hs.1))
  refine r_callV (pc := 2) (as := [.ref ga]) (st := []) kX7_27 rfl dX7_colours_2 hfs9 (c_X7_fillStrangersx (d := d - 1) (by omega) hg hxg hne (rd_of hs.1) hR9 t9) rfl (by omega) (Nat.le_of_ble_eq_true rfl) (Nat.zero_le _) (Nat.zero_le _) rfl (fun r9 hp9 n9 q9 => ?_)
  obtain ⟨hn9, hr9, f2, t2, hR2, hsn⟩ := q9
  subst n9 r9
  change Rn _ _ _ 5 _ [] _ _ _ _ _
  refine r_aload_n (pc := 5) dX7_colours_5 (i := 0) rfl rfl ?_
  refine t_getE (pc := 6) (.ref (s + 1)) t2 (rd_ov (by omega) (rd_of hs.1)) fX7_9 dX7_colours_6 rfl ?_
  refine r_aload_n (pc := 9) dX7_colours_9 (i := 1) rfl rfl ?_
  refine t_callVI (pc := 10) (as := []) (st := [.ref (s + 1)]) t2 (rd_ov (Ne.symm hq_ga) hg_O) kX7_31 rfl dX7_colours_10 (c_X3_allNodesx (d := d - 1)  (by omega) (TyG.ovx ⟨hq_ga, hq_gF, hq_gT, hq_gW, hq_gC, hq_gTl, hq_gHd, hq_gBy, hq_gOu, hq_gIn, hq_gJo⟩ hg) (XG.ovx ⟨hq_gF, hq_gT, hq_gW, hq_gC, hq_gTl, hq_gHd, hq_gBy, hq_gOu, hq_gIn, hq_gJo⟩ hxg) t2  ) rfl (by omega) (Nat.le_of_ble_eq_true rfl) rfl (fun hp2 y1 ht3 by1 => ?_)
  have fy1 : (y1 = ((2 ^ gn : Nat) : Int) - 1) := by1
  have ey10 : y1 = ((2 ^ gn : Nat) : Int) - 1 := fy1
  subst ey10
  have mp5 : 1 ≤ 2 ^ gn := Nat.one_le_two_pow
  have mq5 : 2 ^ gn ≤ 2 ^ 16 := Nat.pow_le_pow_right (by omega) (by omega)
  refine r_iconst (pc := 13) (v := iv 0) dX7_colours_13 (by decide) ?_
  have hb14 := bc_le (((2 ^ gn : Nat) : Int) - 1) 16
  refine t_callSI (pc := 14) (as := [.ref (s + 1), .int (iv (((2 ^ gn : Nat) : Int) - 1)), .int (iv 0)]) (st := []) kX7_48 dX7_colours_14 (c_X7_mostApartx (rM := gn) (rd_of (ov_s _ _ _)) hR2 (by omega) (by omega) (sn_nj hsn (fun i hi j => hjo.1 i hi j)) (fun i j h => nj_sym i j h) 16 _ _ (d - 1) (((2 ^ gn : Nat) : Int) - 1) 0 (by omega) (by omega) (by omega) (by omega) (by omega) (fun i g => (Me_all i).mp g) ht3) rfl (by omega) (Nat.le_of_ble_eq_true rfl) rfl (fun hp4 y14 ht5 by14 => ?_)
  obtain ⟨by141, hmx14⟩ := by14
  have hcn0 : cnO (joA gm F T) (Me (((2 ^ gn : Nat) : Int) - 1)) y14 ∧ y14 ≤ (gn : Int) := cn_0 hmx14 (by omega)
  have t3 := Tw.weak ht5 hs.2.1 (xI_rg hR2)
  have t4 := Tw.ovr t3 hs.2.2.1
  obtain ⟨Cl0, hCl0, t5⟩ := t4.unI
  have hRc : Rfx 16 0 65535 Cl0 := fun i hi => (hCl0 i hi).1
  refine r_istore_n (pc := 17) (lv' := [(2, .int (iv y14)), (0, .ref s), (1, .ref ga)]) dX7_colours_17 (i := 2) rfl (by decide) rfl ?_
  refine r_iload_n (pc := 18) dX7_colours_18 (i := 2) rfl rfl ?_
  refine r_istore_n (pc := 19) (lv' := [(3, .int (iv y14)), (2, .int (iv y14)), (0, .ref s), (1, .ref ga)]) dX7_colours_19 (i := 3) rfl (by decide) rfl ?_
  have B20 : ∀ k : Nat, ∀ Sf20 : Nat → Int, ∀ Rw20 : Nat → Int, ∀ hp20 : MH, Tw (ov Γ (s + 2) (xI cI 16 Rw20)) hp20 → ∀  (v20_3 : Int), 0 ≤ v20_3 ∧ v20_3 ≤ 16 ∧ y14 ≤ v20_3 ∧ (v20_3 ≤ (gn : Int)) ∧ (Rfx 16 0 65535 Rw20) ∧ (cnO (joA gm F T) (Me (((2 ^ gn : Nat) : Int) - 1)) v20_3) → 16 - v20_3 ≤ (k : Int) → Rn (gG D cI cJ cZ cT lo b L xs) mX7_colours d 20 [(0, .ref s), (1, .ref ga), (3, .int (iv v20_3))] [] hp20 n 0 0 (pI Γ n (fun r => (0 ≤ r ∧ r ≤ 16) ∧ coA (joA gm F T) (Me (((2 ^ gn : Nat) : Int) - 1)) r)) := by
    refine lpS _ ?_
    intro k20 ih20 Sf20 Rw20 hp20 ht20 v20_3 hf20 hm20
    obtain ⟨hf20_0, hf20_1, hf20_2, hf20_3, ha20_4, ha20_5⟩ := hf20
    refine r_iload_n (pc := 20) dX7_colours_20 (i := 3) rfl rfl ?_
    refine r_aload_n (pc := 21) dX7_colours_21 (i := 1) rfl rfl ?_
    refine t_getE (pc := 22) (.int (iv (gn : Int))) ht20 (rd_ov (Ne.symm hr_ga) hg_O) fX7_44 dX7_colours_22 rfl ?_
    refine t_icmp_ge (pc := 25) (tgt := 63) dX7_colours_25 (by decide) (by omega) (by omega) (fun c25 => ?_) (fun c25 => ?_)
    · refine r_aload_n (pc := 63) dX7_colours_63 (i := 1) rfl rfl ?_
      refine t_getE (pc := 64) (.int (iv (gn : Int))) ht20 (rd_ov (Ne.symm hr_ga) hg_O) fX7_44 dX7_colours_64 rfl ?_
      exact r_iret (pc := 67) dX7_colours_67 rfl ⟨rfl, Tw.weak ht20 hs.2.2.1 (xI_rg (by assumption)), _, rfl, by omega, cn_e (by assumption : cnO (joA gm F T) (Me (((2 ^ gn : Nat) : Int) - 1)) v20_3) (by omega)⟩
    · refine r_aload_n (pc := 28) dX7_colours_28 (i := 0) rfl rfl ?_
      refine t_getE (pc := 29) (.ref (s + 2)) ht20 (rd_ov (by omega) (rd_of hs.1)) fX7_15 dX7_colours_29 rfl ?_
      refine r_iconst (pc := 32) (v := iv 0) dX7_colours_32 (by decide) ?_
      refine t_fillX (pc := 33) ht20 (ov_s _ _ _) kX7_64 dX7_colours_33 (by omega) (by omega) (by omega) (Nat.le_of_ble_eq_true rfl) (fun hp6 ht7 => ?_)
      rw [ov_ov] at ht7
      refine r_aload_n (pc := 36) dX7_colours_36 (i := 0) rfl rfl ?_
      refine r_aload_n (pc := 37) dX7_colours_37 (i := 1) rfl rfl ?_
      refine t_getE (pc := 38) (.ref gJo) ht7 (rd_ov (Ne.symm hr_ga) hg_O) fX7_41 dX7_colours_38 rfl ?_
      refine r_aload_n (pc := 41) dX7_colours_41 (i := 1) rfl rfl ?_
      refine r_iload_n (pc := 42) dX7_colours_42 (i := 3) rfl rfl ?_
      refine t_callSI (pc := 43) (as := [.ref ga, .int (iv v20_3)]) (st := [.ref gJo, .ref s]) kX7_70 dX7_colours_43 (c_X7_hardNodesx (d := d - 1) (x1 := v20_3) (by omega) (TyG.ovx ⟨hr_ga, hr_gF, hr_gT, hr_gW, hr_gC, hr_gTl, hr_gHd, hr_gBy, hr_gOu, hr_gIn, hr_gJo⟩ hg) (XG.ovx ⟨hr_gF, hr_gT, hr_gW, hr_gC, hr_gTl, hr_gHd, hr_gBy, hr_gOu, hr_gIn, hr_gJo⟩ hxg) ht7 (by omega) hjo) rfl (by omega) (Nat.le_of_ble_eq_true rfl) rfl (fun hp9 y8 ht10 by8 => ?_)
      obtain ⟨by81, hhd⟩ := by8
      refine r_iconst (pc := 46) (v := iv 0) dX7_colours_46 (by decide) ?_
      refine r_iload_n (pc := 47) dX7_colours_47 (i := 3) rfl rfl ?_
      refine r_iconst (pc := 48) (v := iv 0) dX7_colours_48 (by decide) ?_
      have hbh := bc_le y8 16
      have hu0 : usP (fun _ => 0) 0 := fun q _ _ i g => Me_0 i g
      have hd0 : djP y8 (fun _ => 0) := fun q _ i g => absurd g (Me_0 i)
      obtain ⟨fs8, hfs8⟩ := t_obj ht10 (rd_ov (by omega) (rd_of hs.1))
      refine r_callV (pc := 49) (as := [.ref gJo, .int (iv y8), .int (iv 0), .int (iv v20_3), .int (iv 0)]) (st := []) kX7_74 rfl dX7_colours_49 hfs8 (c_X7_canColourx (rM := gn) (R := (joA gm F T)) (x4 := v20_3) hxg_Jo hrg_Jo (by omega) (Nat.le_refl gn) (fun i hi j => hjo.1 i hi j) (rd_of hs.1) (Ne.symm hr_gJo) (by omega) (fun i j h => joX_sym i j h) 16 _ _ (d - 1) y8 0 0 (fun _ => 0) (by omega) (by omega) (by omega) (by omega) (by omega) (by omega) (fun i g => (Me_all i).mp (hhd.1 i g)) hu0 hd0 (fun i _ => ⟨Int.le_refl 0, (by decide : (0 : Int) ≤ 65535)⟩) ht10) rfl (by omega) (Nat.le_of_ble_eq_true rfl) (Nat.zero_le _) (Nat.zero_le _) rfl (fun r11 hp12 n13 q14 => ?_)
      obtain ⟨hnn13, vr, fr9, hrr11, ht15, hRr, hqr⟩ := q14
      subst n13 r11
      have bvr : 0 ≤ vr ∧ vr ≤ 1 := by rcases hqr with ⟨e9, -⟩ | ⟨e9, -⟩ <;> omega
      change Rn _ _ _ 52 _ [.int (iv vr)] _ _ _ _ _
      refine t_if_eq (pc := 52) (tgt := 57) dX7_colours_52 (by decide) (by omega) (fun c52 => ?_) (fun c52 => ?_)
      · have hcn : cnO (joA gm F T) (Me (((2 ^ gn : Nat) : Int) - 1)) (v20_3 + 1) := cn_up (by assumption : cnO (joA gm F T) (Me (((2 ^ gn : Nat) : Int) - 1)) v20_3) (fun g9 => (hqr.resolve_left (fun g8 => by have := g8.1; omega)).2.2 ((ex_co (by omega) hu0).mpr ((hdi_e hhd).mpr g9)))
        refine r_iinc (pc := 57) (v := iv (v20_3 + 1)) (lv' := [(3, .int (iv (v20_3 + 1))), (0, .ref s), (1, .ref ga)]) dX7_colours_57 rfl (iv_add _ _) (by decide) rfl ?_
        refine r_goto (pc := 60) (tgt := 20) dX7_colours_60 (by decide) ?_
        refine Rn.pick (lv' := [(0, .ref s), (1, .ref ga), (3, .int (iv (v20_3 + 1)))]) [1, 2, 0] rfl ?_
        exact ih20 (Int.toNat (16 - (v20_3 + 1))) (by omega) Sf20 fr9 _ ht15 (v20_3 + 1) ⟨by omega, by omega, by omega, by omega, by (first | exact hRr | exact hRc), by (first | exact hcn | exact hcn0.1)⟩ (by omega)
      · have hco := (hdi_e hhd).mp ((ex_co (by omega) hu0).mp (hqr.resolve_right (fun g8 => by have := g8.1; omega)).2)
        refine r_iload_n (pc := 55) dX7_colours_55 (i := 3) rfl rfl ?_
        exact r_iret (pc := 56) dX7_colours_56 rfl ⟨rfl, Tw.weak ht15 hs.2.2.1 (xI_rg hRr), _, rfl, by omega, cn_y (by assumption : cnO (joA gm F T) (Me (((2 ^ gn : Nat) : Int) - 1)) v20_3) (by omega) hco⟩
  refine Rn.pick (lv' := [(0, .ref s), (1, .ref ga), (3, .int (iv y14))]) [2, 3, 0] rfl ?_
  exact B20 (Int.toNat (16 - y14)) f2 Cl0 _ t5 y14 ⟨by omega, by omega, by omega, by omega, by (first | exact hRr | exact hRc), by (first | exact hcn | exact hcn0.1)⟩ (by omega)
