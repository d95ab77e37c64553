set_option maxHeartbeats 4000000 in
set_option maxRecDepth 100000 in
theorem y5_X11_ask {D : va_G} {cI cJ cZ cT : ClassId} {lo b L : Nat} {xs : Nat → Int32} {hp : MH} {n d : Nat} {Γ : TG} {a : Nat} {ct : Int} {rv : Int} {th : Nat → Option Nat} {dn : Int} {dd : Int} {da : Int} {df : Nat → Int} {dt : Nat → Int} {dw : Nat → Int} {dc : Nat → Int} {kn : Int} {kd : Int} {ka : Int} {kf : Nat → Int} {kt : Nat → Int} {kw : Nat → Int} {kc : Nat → Int} {so sz dr mn fr tt wt co : Nat → Int} {nu : Nat → Int64} {qi qc : Nat → Int} {x1 x2 x3 x4 : Int} (hd0 : 23 ≤ d) (hk : EK Γ cI cJ cZ a ct th dn dd da df dt dw dc kn kd ka) (hm : HM Γ cI cJ cZ a ct th so sz dr mn fr tt wt co nu qi qc) (hrv : -2147483648 ≤ rv ∧ rv ≤ 2147483647) (hna : a + 84 ≤ n) (ht : Tw (CG Γ cI cJ cZ cT a ct rv th dn dd da df dt dw dc kn kd ka kf kt kw kc) hp) (hx1 : (-2147483648) ≤ x1 ∧ x1 ≤ 2147483647) (hx2 : (-2147483648) ≤ x2 ∧ x2 ≤ 2147483647) (hx3 : (-2147483648) ≤ x3 ∧ x3 ≤ 2147483647) (hx4 : (-2147483648) ≤ x4 ∧ x4 ≤ 2147483647) : Mt (gG D cI cJ cZ cT lo b L xs) mX11_ask d 1 16 [.ref a, .int (iv x1), .int (iv x2), .int (iv x3), .int (iv x4)] hp n (qA Γ cI cJ cZ cT a dn dd da df dt dw dc n ct th (fun r w9 => ∃ v : Int64, r = some (.long v) ∧ w9 = hdQ (x2 = 16 ∨ x2 = 17) (dn2 ct so x1 1 x4 1 (x2 = 17 ∧ (x3 < 0 ∨ (sz (Int.toNat x1)) ≤ x3))) (dn1 ct so x1 1 (x2 < 0 ∨ 17 < x2 ∨ ((x2 = 0 ∨ x2 = 2) ∧ (x3 < 0 ∨ (sz (Int.toNat x1)) ≤ x3)) ∨ (x2 = 11 ∧ (x3 < 0 ∨ (mn (Int.toNat x1)) ≤ x3)) ∨ (12 ≤ x2 ∧ x2 ≤ 15 ∧ (x3 < 0 ∨ (sz (Int.toNat x1)) ≤ x3 ∨ x4 < 0 ∨ (sz (Int.toNat x1)) ≤ x4 ∨ x3 = x4)))) ∧ (w9 ≠ 0 → v = 0) ∧ (w9 = 0 → akN sz dr mn fr tt wt co x1 x2 x3 x4 v.toInt))) := by
  refine Mt.of rfl (Nat.le_of_ble_eq_true rfl) ?_
  refine Rn.pick (lv' := [(0, .ref a), (1, .int (iv x1)), (2, .int (iv x2)), (3, .int (iv x3)), (4, .int (iv x4))]) [0, 1, 2, 3, 4] rfl ?_
  obtain ⟨hct, hth, ⟨hdn, hdd1, hda, har⟩, ⟨hkn, hkd, hka⟩, hsh, hse, hpr, hfl, hsm⟩ := id hk
  refine r_aload_n (pc := 0) dX11_ask_0 (i := 0) rfl rfl ?_
  refine r_iconst (pc := 1) (v := iv 0) dX11_ask_1 (by decide) ?_
  refine t_putX (pc := 2) (ty := .int) ht CG_0 fX11_19 tyX11 tyX11_ok nmX11 (by decide +kernel) (Or.inl rfl) dX11_ask_2 (Nat.le_of_ble_eq_true rfl) rfl rfl rfl (fun hp1 ht2 => ?_)
  have ht3 := RGw_rv ht2
  refine r_iload_n (pc := 5) dX11_ask_5 (i := 2) rfl rfl ?_
  refine r_bipush (pc := 6) (v := iv 16) dX11_ask_6 (by decide) ?_
  refine t_icmp_eq (pc := 8) (tgt := 17) dX11_ask_8 (by decide) (by omega) (by omega) (fun c8 => ?_) (fun c8 => ?_)
  · refine r_aload_n (pc := 17) dX11_ask_17 (i := 0) rfl rfl ?_
    refine r_iload_n (pc := 18) dX11_ask_18 (i := 1) rfl rfl ?_
    refine r_iload_n (pc := 19) dX11_ask_19 (i := 2) rfl rfl ?_
    refine r_iload_n (pc := 20) dX11_ask_20 (i := 3) rfl rfl ?_
    refine r_iload (pc := 21) dX11_ask_21 rfl ?_
    obtain ⟨fs9, hfs9⟩ := t_obj ht3 (rd_of CG_0)
    refine r_callV (pc := 23) (as := [.int (iv x1), .int (iv x2), .int (iv x3), .int (iv x4)]) (st := []) kX11_238 rfl dX11_ask_23 hfs9 (y5_X11_askSameness (d := d - 1) (x1 := x1) (x2 := x2) (x3 := x3) (x4 := x4) (by omega) hk hm (by omega) (by omega) ht3 (by omega) (by omega) (by omega) (by omega) (by omega) (by omega)) rfl (by omega) (Nat.le_of_ble_eq_true rfl) (by omega) (by omega) rfl (fun r4 hp5 n6 hq7 => ?_)
    obtain ⟨hn8, Γ8, rv8, kn8, kd8, ka8, kf8, kt8, kw8, kc8, hE8, ht8, hk8, hb8, v8, hr8, hA8, hz8, hv8⟩ := hq7
    subst r4
    change Rn _ _ _ 26 _ [.long v8] _ _ _ _ _
    exact r_lret (pc := 26) dX11_ask_26 rfl ⟨hn8, Γ8, rv8, kn8, kd8, ka8, kf8, kt8, kw8, kc8, hE8, ht8, hk8, hb8, v8, rfl, hA8.trans (hdQ_y (by omega)).symm, hz8, hv8⟩
  · refine r_iload_n (pc := 11) dX11_ask_11 (i := 2) rfl rfl ?_
    refine r_bipush (pc := 12) (v := iv 17) dX11_ask_12 (by decide) ?_
    refine t_icmp_ne (pc := 14) (tgt := 27) dX11_ask_14 (by decide) (by omega) (by omega) (fun c14 => ?_) (fun c14 => ?_)
    · refine r_aload_n (pc := 27) dX11_ask_27 (i := 0) rfl rfl ?_
      refine r_iload_n (pc := 28) dX11_ask_28 (i := 1) rfl rfl ?_
      refine u_graphAt (pc := 29) (x := x1) (st := []) hct hm ht3 kX11_106 dX11_ask_29 (by omega) (Nat.le_of_ble_eq_true rfl) (by omega) (fun hp10 ht11 hnog => ?_) (fun hp10 ga ht11 hyeg hTg => ?_)
      · refine r_astoreN (pc := 32) (lv' := [(5, .null), (0, .ref a), (1, .int (iv x1)), (2, .int (iv x2)), (3, .int (iv x3)), (4, .int (iv x4))]) dX11_ask_32 (by decide) rfl ?_
        refine r_aloadN (pc := 34) dX11_ask_34 rfl ?_
        refine r_ifnonnullN (pc := 36) dX11_ask_36 ?_
        refine r_aload_n (pc := 39) dX11_ask_39 (i := 0) rfl rfl ?_
        refine r_aload_n (pc := 40) dX11_ask_40 (i := 0) rfl rfl ?_
        refine r_iload_n (pc := 41) dX11_ask_41 (i := 1) rfl rfl ?_
        obtain ⟨fs16, hfs16⟩ := t_obj ht11 (rd_of CG_0)
        refine r_callV (pc := 42) (as := [.int (iv x1)]) (st := [.ref a]) kX11_110 rfl dX11_ask_42 hfs16 (uw_X11_whyNot (d := d - 1) (x1 := x1) (by omega)  ht11 (by omega) (by omega) hm) rfl (by omega) (Nat.le_of_ble_eq_true rfl) (Nat.zero_le _) (Nat.zero_le _) rfl (fun r13 hp12 n14 hq15 => ?_)
        obtain ⟨hnn14, bb_18, ht17, hrr13, hhq150, hhq151⟩ := hq15
        subst n14 r13
        have hhq150 : -2 ≤ bb_18 ∧ bb_18 ≤ -1 := hhq150
        have hhq151 : (bb_18 = -1 ∧ ¬ (0 ≤ x1 ∧ x1 < ct)) ∨ (bb_18 = -2 ∧ 0 ≤ x1 ∧ x1 < ct) := hhq151
        change Rn _ _ _ 45 _ [.int (iv bb_18), .ref a] _ _ _ _ _
        obtain ⟨fs23, hfs23⟩ := t_obj ht17 (rd_of CG_0)
        refine r_callV (pc := 45) (as := [.int (iv bb_18)]) (st := []) kX11_203 rfl dX11_ask_45 hfs23 (s_X11_deny (d := d - 1) (x1 := bb_18) (by omega)  ht17 (by omega)) rfl (by omega) (Nat.le_of_ble_eq_true rfl) (Nat.zero_le _) (Nat.zero_le _) rfl (fun r20 hp19 n21 hq22 => ?_)
        obtain ⟨hnn21, ht24, hrr20⟩ := hq22
        subst n21 r20
        change Rn _ _ _ 48 _ [.int (iv 0)] _ _ _ _ _
        refine r_i2l (pc := 48) (v := (iv 0).toInt64) dX11_ask_48 rfl ?_
        exact r_lret (pc := 49) dX11_ask_49 rfl ⟨by omega, Γ, bb_18, kn, kd, ka, kf, kt, kw, kc, (Ext_refl Γ), ht24, hk, by omega, ((iv 0).toInt64), rfl, by (rw [hdQ_n (by omega)]; exact dn1_r (by omega)), by (intro h9; first | rfl | omega | (exfalso; omega)), by (intro h9; first | (exfalso; omega) | exact hak)⟩
      · obtain ⟨gF, gT, gW, gC, gTl, gHd, gBy, gOu, gIn, gJo, gn, gm, gq, gdr, Tl, Hd, By, Ou, In, Jo, gpos, hg, hltg, hxg, hgog, houg, hing, hjog, heNg, heDg, heMg⟩ := id hTg
        have hfNg : Int.toNat (sz (Int.toNat x1)) = gn := by omega
        have hfMg : Int.toNat (mn (Int.toNat x1)) = gm := by omega
        obtain ⟨hg_O, hg_from, hg_to, hg_weight, hg_cost, hg_tail, hg_head, hg_by, hg_out, hg_in, hg_joined, hg_b⟩ := id hg
        refine r_astore (pc := 32) (lv' := [(5, .ref ga), (0, .ref a), (1, .int (iv x1)), (2, .int (iv x2)), (3, .int (iv x3)), (4, .int (iv x4))]) dX11_ask_32 (by decide) rfl ?_
        refine r_aload (pc := 34) dX11_ask_34 rfl ?_
        refine r_ifnonnull (pc := 36) (tgt := 50) dX11_ask_36 (by decide) ?_
        refine r_aload (pc := 50) dX11_ask_50 rfl ?_
        refine r_iload_n (pc := 52) dX11_ask_52 (i := 2) rfl rfl ?_
        refine r_iload_n (pc := 53) dX11_ask_53 (i := 3) rfl rfl ?_
        refine r_iload (pc := 54) dX11_ask_54 rfl ?_
        refine t_callSI (pc := 56) (as := [.ref ga, .int (iv x2), .int (iv x3), .int (iv x4)]) (st := []) kX11_242 dX11_ask_56 (c_X11_isQuestionx (d := d - 1) (x1 := x2) (x2 := x3) (x3 := x4) (by omega) (TyG.cg (by omega) hg) (XG.cg (by omega) hxg) ht11 (by omega) (by omega) (by omega) ) rfl (by omega) (Nat.le_of_ble_eq_true rfl) rfl (fun hp26 y25 ht27 by25 => ?_)
        have fy25 : ((0 ≤ y25 ∧ y25 ≤ 1) ∧ (y25 = 1 ↔ ¬ (x2 < 0 ∨ 17 < x2 ∨ ((x2 = 0 ∨ x2 = 2) ∧ (x3 < 0 ∨ (gn : Int) ≤ x3)) ∨ (x2 = 11 ∧ (x3 < 0 ∨ (gm : Int) ≤ x3)) ∨ (12 ≤ x2 ∧ x2 ≤ 15 ∧ (x3 < 0 ∨ (gn : Int) ≤ x3 ∨ x4 < 0 ∨ (gn : Int) ≤ x4 ∨ x3 = x4))))) := by25
        have hiq := fy25
        refine t_if_eq (pc := 59) (tgt := 75) dX11_ask_59 (by decide) (by omega) (fun c59 => ?_) (fun c59 => ?_)
        · refine r_aload_n (pc := 75) dX11_ask_75 (i := 0) rfl rfl ?_
          refine r_bipush (pc := 76) (v := iv (-3)) dX11_ask_76 (by decide) ?_
          obtain ⟨fs32, hfs32⟩ := t_obj ht27 (rd_of CG_0)
          refine r_callV (pc := 78) (as := [.int (iv (-3))]) (st := []) kX11_203 rfl dX11_ask_78 hfs32 (s_X11_deny (d := d - 1) (x1 := (-3)) (by omega)  ht27 (by omega)) rfl (by omega) (Nat.le_of_ble_eq_true rfl) (Nat.zero_le _) (Nat.zero_le _) rfl (fun r29 hp28 n30 hq31 => ?_)
          obtain ⟨hnn30, ht33, hrr29⟩ := hq31
          subst n30 r29
          change Rn _ _ _ 81 _ [.int (iv 0)] _ _ _ _ _
          refine r_i2l (pc := 81) (v := (iv 0).toInt64) dX11_ask_81 rfl ?_
          exact r_lret (pc := 82) dX11_ask_82 rfl ⟨by omega, Γ, (-3), kn, kd, ka, kf, kt, kw, kc, (Ext_refl Γ), ht33, hk, by omega, ((iv 0).toInt64), rfl, by (rw [hdQ_n (by omega)]; exact dn1_b rfl (by omega) (by omega)), by (intro h9; first | rfl | omega | (exfalso; omega)), by (intro h9; first | (exfalso; omega) | exact hak)⟩
        · refine r_aload_n (pc := 62) dX11_ask_62 (i := 0) rfl rfl ?_
          refine r_aload (pc := 63) dX11_ask_63 rfl ?_
          refine r_iload_n (pc := 65) dX11_ask_65 (i := 2) rfl rfl ?_
          refine r_iload_n (pc := 66) dX11_ask_66 (i := 3) rfl rfl ?_
          refine r_iload (pc := 67) dX11_ask_67 rfl ?_
          obtain ⟨fs39, hfs39⟩ := t_obj ht27 (rd_of CG_0)
          refine r_callV (pc := 69) (as := [.ref ga, .int (iv x2), .int (iv x3), .int (iv x4)]) (st := []) kX11_246 rfl dX11_ask_69 hfs39 (v_X11_answer (d := d - 1) (x2 := x2) (x3 := x3) (x4 := x4) (by omega) hk hg hxg hgog houg hing hjog (by omega) (by omega) ht27 (by omega) (by omega) (by omega)) rfl (by omega) (Nat.le_of_ble_eq_true rfl) (by omega) (by omega) rfl (fun r34 hp35 n36 hq37 => ?_)
          obtain ⟨hnn36, ht38, v40, hrr34, hans⟩ := hq37
          subst r34
          have hak : akN sz dr mn fr tt wt co x1 x2 x3 x4 (Int64.toInt v40) := ⟨fun _ => by rw [hfNg, hfMg, heDg]; exact hans, fun q9 => absurd q9 (by omega)⟩
          change Rn _ _ _ 72 _ [.long v40] _ _ _ _ _
          refine r_goto (pc := 72) (tgt := 82) dX11_ask_72 (by decide) ?_
          exact r_lret (pc := 82) dX11_ask_82 rfl ⟨by omega, Γ, 0, kn, kd, ka, kf, kt, kw, kc, (Ext_refl Γ), ht38, hk, by omega, v40, rfl, by (rw [hdQ_n (by omega)]; exact dn1_m rfl (by omega) (by omega)), by (intro h9; first | rfl | omega | (exfalso; omega)), by (intro h9; first | (exfalso; omega) | exact hak)⟩
    · refine r_aload_n (pc := 17) dX11_ask_17 (i := 0) rfl rfl ?_
      refine r_iload_n (pc := 18) dX11_ask_18 (i := 1) rfl rfl ?_
      refine r_iload_n (pc := 19) dX11_ask_19 (i := 2) rfl rfl ?_
      refine r_iload_n (pc := 20) dX11_ask_20 (i := 3) rfl rfl ?_
      refine r_iload (pc := 21) dX11_ask_21 rfl ?_
      obtain ⟨fs46, hfs46⟩ := t_obj ht3 (rd_of CG_0)
      refine r_callV (pc := 23) (as := [.int (iv x1), .int (iv x2), .int (iv x3), .int (iv x4)]) (st := []) kX11_238 rfl dX11_ask_23 hfs46 (y5_X11_askSameness (d := d - 1) (x1 := x1) (x2 := x2) (x3 := x3) (x4 := x4) (by omega) hk hm (by omega) (by omega) ht3 (by omega) (by omega) (by omega) (by omega) (by omega) (by omega)) rfl (by omega) (Nat.le_of_ble_eq_true rfl) (by omega) (by omega) rfl (fun r41 hp42 n43 hq44 => ?_)
      obtain ⟨hn8, Γ8, rv8, kn8, kd8, ka8, kf8, kt8, kw8, kc8, hE8, ht45, hk8, hb8, v8, hr8, hA8, hz8, hv8⟩ := hq44
      subst r41
      change Rn _ _ _ 26 _ [.long v8] _ _ _ _ _
      exact r_lret (pc := 26) dX11_ask_26 rfl ⟨hn8, Γ8, rv8, kn8, kd8, ka8, kf8, kt8, kw8, kc8, hE8, ht45, hk8, hb8, v8, rfl, hA8.trans (hdQ_y (by omega)).symm, hz8, hv8⟩
