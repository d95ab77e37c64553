set_option maxHeartbeats 4000000 in
set_option maxRecDepth 100000 in
theorem d_X1_fillLightest {D : va_G} {cI cJ cZ cT : ClassId} {lo b L : Nat} {xs : Nat → Int32} {hp : MH} {n d : Nat} {Γ : TG} {s : Nat} {kn : Int} {kd : Int} {ka : Int} {kf : Nat → Int} {kt : Nat → Int} {kw : Nat → Int} {kc : Nat → Int} {lt : Nat → Int} {ga : Nat} {gF : Nat} {gT : Nat} {gW : Nat} {gC : Nat} {gTl : Nat} {gHd : Nat} {gBy : Nat} {gOu : Nat} {gIn : Nat} {gJo : Nat} {gn : Nat} {gm : Nat} {gq : Nat} {gdr : Int} {F T W C Tl Hd By Ou In Jo : Nat → Int} (hd0 : 1 ≤ d) (hg : TyG Γ cI cJ cZ ga gF gT gW gC gTl gHd gBy gOu gIn gJo gn gm gq gdr) (hltg : s + 6 ≤ ga ∧ s + 6 ≤ gF ∧ s + 6 ≤ gT ∧ s + 6 ≤ gW ∧ s + 6 ≤ gC ∧ s + 6 ≤ gTl ∧ s + 6 ≤ gHd ∧ s + 6 ≤ gBy ∧ s + 6 ≤ gOu ∧ s + 6 ≤ gIn ∧ s + 6 ≤ gJo) (ht : Tw (DX Γ cI cJ cZ cT s kn kd ka kf kt kw kc lt) hp)  (hlt9 : Rfx 256 (-1000) 5000 lt) (hxg : XG Γ cI gF gT gW gC gTl gHd gBy gOu gIn gJo gn gm gq F T W C Tl Hd By Ou In Jo) : Mt (gG D cI cJ cZ cT lo b L xs) mX1_fillLightest d 0 0 [.ref s, .ref ga] hp n (qd_X1_fillLightest Γ cI cJ cZ cT s n kn kd ka kf kt kw kc lt ga gF gT gW gC gTl gHd gBy gOu gIn gJo gn gm gq gdr F T W C Tl Hd By Ou In Jo) := by
  refine Mt.of rfl (Nat.le_of_ble_eq_true rfl) ?_
  refine Rn.pick (lv' := [(0, .ref s), (1, .ref ga)]) [0, 1] rfl ?_
  obtain ⟨hg_O, hg_from, hg_to, hg_weight, hg_cost, hg_tail, hg_head, hg_by, hg_out, hg_in, hg_joined, hg_b⟩ := id hg
  obtain ⟨⟨hxg_F, hxg_T, hxg_W, hxg_C, hxg_Tl, hxg_Hd, hxg_By, hxg_Ou, hxg_In, hxg_Jo⟩, ⟨hrg_F, hrg_T, hrg_W, hrg_C, hrg_Tl, hrg_Hd, hrg_By, hrg_Ou, hrg_In, hrg_Jo⟩, houg⟩ := id hxg
  refine r_aload_n (pc := 0) dX1_fillLightest_0 (i := 0) rfl rfl ?_
  refine t_getE (pc := 1) (.ref (s + 5)) ht (rd_of DX_0) fX1_35 dX1_fillLightest_1 rfl ?_
  refine r_sipush (pc := 4) (v := iv 5000) dX1_fillLightest_4 (by decide) ?_
  refine t_fillX (pc := 7) ht DX_5 kX1_105 dX1_fillLightest_7 (by omega) (by omega) (by omega) (Nat.le_of_ble_eq_true rfl) (fun hp1 ht2 => ?_)
  have ht3 := DXw_lt ht2
  have hlr0 : Rfx 256 (-1000) 5000 (fun _ => (5000 : Int)) := fun _ _ => ⟨by show (-1000 : Int) ≤ 5000; decide, by show (5000 : Int) ≤ 5000; decide⟩
  refine r_iconst (pc := 10) (v := iv 0) dX1_fillLightest_10 (by decide) ?_
  refine r_istore_n (pc := 11) (lv' := [(2, .int (iv 0)), (0, .ref s), (1, .ref ga)]) dX1_fillLightest_11 (i := 2) rfl (by decide) rfl ?_
  have B12 : ∀ k : Nat, ∀ lt12 : Nat → Int, ∀ hp12 : MH, Tw (DX Γ cI cJ cZ cT s kn kd ka kf kt kw kc lt12) hp12 → ∀  (v12_2 : Int), 0 ≤ v12_2 ∧ v12_2 ≤ 120 ∧ (Rfx 256 (-1000) 5000 lt12) ∧ (v12_2 ≤ (gq : Int)) ∧ (ltP (Int.toNat v12_2) Tl Hd By W lt12) → 120 - v12_2 ≤ (k : Int) → Rn (gG D cI cJ cZ cT lo b L xs) mX1_fillLightest d 12 [(0, .ref s), (1, .ref ga), (2, .int (iv v12_2))] [] hp12 n 0 0 (qd_X1_fillLightest Γ cI cJ cZ cT s n kn kd ka kf kt kw kc lt ga gF gT gW gC gTl gHd gBy gOu gIn gJo gn gm gq gdr F T W C Tl Hd By Ou In Jo) := by
    refine lpS _ ?_
    intro k12 ih12 lt12 hp12 ht12 v12_2 hf12 hm12
    obtain ⟨hf12_0, hf12_1, ha12_2, hf12_3, ha12_4⟩ := hf12
    refine r_iload_n (pc := 12) dX1_fillLightest_12 (i := 2) rfl rfl ?_
    refine r_aload_n (pc := 13) dX1_fillLightest_13 (i := 1) rfl rfl ?_
    refine t_getE (pc := 14) (.int (iv (gq : Int))) ht12 (rd_DX (by omega) hg_O) fX1_111 dX1_fillLightest_14 rfl ?_
    refine t_icmp_ge (pc := 17) (tgt := 69) dX1_fillLightest_17 (by decide) (by omega) (by omega) (fun c17 => ?_) (fun c17 => ?_)
    · exact r_vret (pc := 69) dX1_fillLightest_69 rfl ⟨rfl, lt12, ht12, rfl, (by assumption), (by (have h8 : ltP (Int.toNat v12_2) Tl Hd By W _ := (by assumption); rw [show v12_2 = (gq : Int) by omega, Int.toNat_natCast] at h8; exact h8))⟩
    · refine r_aload_n (pc := 20) dX1_fillLightest_20 (i := 1) rfl rfl ?_
      refine t_getE (pc := 21) (.ref gTl) ht12 (rd_DX (by omega) hg_O) fX1_114 dX1_fillLightest_21 rfl ?_
      refine r_iload_n (pc := 24) dX1_fillLightest_24 (i := 2) rfl rfl ?_
      refine t_ialdX (pc := 25) (t0 := 0) ht12 (rd_DX (by omega) hxg_Tl) dX1_fillLightest_25 rfl (by omega) (by omega) (fun b4 => ?_)
      have rb4 := (show Rfx gq 0 ((gn : Int) - 1) Tl by assumption) (Int.toNat v12_2) (by omega)
      refine r_bipush (pc := 26) (v := iv 16) dX1_fillLightest_26 (by decide) ?_
      refine r_imul (pc := 28) (v := iv ((Tl (Int.toNat v12_2)) * 16)) dX1_fillLightest_28 (iv_mul _ _) ?_
      refine r_aload_n (pc := 29) dX1_fillLightest_29 (i := 1) rfl rfl ?_
      refine t_getE (pc := 30) (.ref gHd) ht12 (rd_DX (by omega) hg_O) fX1_117 dX1_fillLightest_30 rfl ?_
      refine r_iload_n (pc := 33) dX1_fillLightest_33 (i := 2) rfl rfl ?_
      refine t_ialdX (pc := 34) (t0 := 0) ht12 (rd_DX (by omega) hxg_Hd) dX1_fillLightest_34 rfl (by omega) (by omega) (fun b5 => ?_)
      have rb5 := (show Rfx gq 0 ((gn : Int) - 1) Hd by assumption) (Int.toNat v12_2) (by omega)
      refine r_iadd (pc := 35) (v := iv (((Tl (Int.toNat v12_2)) * 16) + (Hd (Int.toNat v12_2)))) dX1_fillLightest_35 (iv_add _ _) ?_
      refine r_istore_n (pc := 36) (lv' := [(3, .int (iv (((Tl (Int.toNat v12_2)) * 16) + (Hd (Int.toNat v12_2))))), (0, .ref s), (1, .ref ga), (2, .int (iv v12_2))]) dX1_fillLightest_36 (i := 3) rfl (by decide) rfl ?_
      refine r_aload_n (pc := 37) dX1_fillLightest_37 (i := 0) rfl rfl ?_
      refine t_getE (pc := 38) (.ref (s + 5)) ht12 (rd_of DX_0) fX1_35 dX1_fillLightest_38 rfl ?_
      refine r_iload_n (pc := 41) dX1_fillLightest_41 (i := 3) rfl rfl ?_
      refine r_aload_n (pc := 42) dX1_fillLightest_42 (i := 0) rfl rfl ?_
      refine t_getE (pc := 43) (.ref (s + 5)) ht12 (rd_of DX_0) fX1_35 dX1_fillLightest_43 rfl ?_
      refine r_iload_n (pc := 46) dX1_fillLightest_46 (i := 3) rfl rfl ?_
      refine t_ialdX (pc := 47) (t0 := 0) ht12 (rd_of DX_5) dX1_fillLightest_47 rfl (by decide) (by omega) (fun b6 => ?_)
      have rb6 := (show Rfx 256 (-1000) 5000 lt12 by assumption) (Int.toNat (((Tl (Int.toNat v12_2)) * 16) + (Hd (Int.toNat v12_2)))) (by omega)
      refine r_aload_n (pc := 48) dX1_fillLightest_48 (i := 1) rfl rfl ?_
      refine t_getE (pc := 49) (.ref gW) ht12 (rd_DX (by omega) hg_O) fX1_72 dX1_fillLightest_49 rfl ?_
      refine r_aload_n (pc := 52) dX1_fillLightest_52 (i := 1) rfl rfl ?_
      refine t_getE (pc := 53) (.ref gBy) ht12 (rd_DX (by omega) hg_O) fX1_120 dX1_fillLightest_53 rfl ?_
      refine r_iload_n (pc := 56) dX1_fillLightest_56 (i := 2) rfl rfl ?_
      refine t_ialdX (pc := 57) (t0 := 0) ht12 (rd_DX (by omega) hxg_By) dX1_fillLightest_57 rfl (by omega) (by omega) (fun b7 => ?_)
      have rb7 := (show Rfx gq 0 ((gm : Int) - 1) By by assumption) (Int.toNat v12_2) (by omega)
      refine t_ialdX (pc := 58) (t0 := 0) ht12 (rd_DX (by omega) hxg_W) dX1_fillLightest_58 rfl (by omega) (by omega) (fun b8 => ?_)
      have rb8 := (show Rfx gm (-1000) 1000 W by assumption) (Int.toNat (By (Int.toNat v12_2))) (by omega)
      obtain ⟨z9, hz9, bz9⟩ := min_b (lt12 (Int.toNat (((Tl (Int.toNat v12_2)) * 16) + (Hd (Int.toNat v12_2))))) (W (Int.toNat (By (Int.toNat v12_2)))) (by omega) (by omega)
      refine r_mmin (pc := 59) (v := iv z9) qX1_123 dX1_fillLightest_59 (Nat.le_of_ble_eq_true rfl) hz9 ?_
      refine t_iastX (pc := 62) (t0 := 0) ht12 DX_5 dX1_fillLightest_62 rfl (by decide) (by omega) (by omega) (fun hp10 ht11 => ?_)
      have ht12 := DXw_lt ht11
      have hqht12 : Rfx 256 (-1000) 5000 (fup lt12 (Int.toNat (((Tl (Int.toNat v12_2)) * 16) + (Hd (Int.toNat v12_2)))) z9) := Rfx_up (by assumption) (by omega)
      have hlt62 : ltP (Int.toNat (v12_2 + 1)) Tl Hd By W (fup lt12 (Int.toNat (((Tl (Int.toNat v12_2)) * 16) + (Hd (Int.toNat v12_2)))) z9) := lt_up (k := v12_2) (by assumption) (by omega) (by omega) (by omega) (by omega)
      refine r_iinc (pc := 63) (v := iv (v12_2 + 1)) (lv' := [(2, .int (iv (v12_2 + 1))), (3, .int (iv (((Tl (Int.toNat v12_2)) * 16) + (Hd (Int.toNat v12_2))))), (0, .ref s), (1, .ref ga)]) dX1_fillLightest_63 rfl (iv_add _ _) (by decide) rfl ?_
      refine r_goto (pc := 66) (tgt := 12) dX1_fillLightest_66 (by decide) ?_
      refine Rn.pick (lv' := [(0, .ref s), (1, .ref ga), (2, .int (iv (v12_2 + 1)))]) [2, 3, 0] rfl ?_
      exact ih12 (Int.toNat (120 - (v12_2 + 1))) (by omega) (fup lt12 (Int.toNat (((Tl (Int.toNat v12_2)) * 16) + (Hd (Int.toNat v12_2)))) z9) _ ht12 (v12_2 + 1) ⟨by omega, by omega, by assumption, by omega, by (first | exact ltP_0 | assumption)⟩ (by omega)
  refine Rn.pick (lv' := [(0, .ref s), (1, .ref ga), (2, .int (iv 0))]) [1, 2, 0] rfl ?_
  exact B12 (Int.toNat (120 - 0)) (fun _ => 5000) _ ht3 0 ⟨by omega, by omega, by assumption, by omega, by (first | exact ltP_0 | assumption)⟩ (by omega)
def qd_X1_lightestOfTwo (Γ : TG) (cI cJ cZ cT : ClassId) (s : Nat) (n : Nat) (kn : Int) (kd : Int) (ka : Int) (kf : Nat → Int) (kt : Nat → Int) (kw : Nat → Int) (kc : Nat → Int) (lt : Nat → Int) (x1 x2 : Int) : Option Value → MH → Nat → Prop := fun r hp1 n1 => n1 = n ∧ ∃ (rr : Int), Tw (DX Γ cI cJ cZ cT s kn kd ka kf kt kw kc lt) hp1 ∧ r = some (.int (iv rr)) ∧ (-2000 ≤ rr ∧ rr ≤ 5000) ∧ (l2P lt (Int.toNat x1) (Int.toNat x2) kn rr)
