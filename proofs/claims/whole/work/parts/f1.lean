set_option maxHeartbeats 4000000 in
set_option maxRecDepth 100000 in
theorem y3_X11_ways {D : va_G} {cI cJ cZ cT : ClassId} {lo b L : Nat} {xs : Nat → Int32} {hp : MH} {n d : Nat} {Γ : TG} {a : Nat} {ct : Int} {rv : Int} {th : Nat → Option Nat} {dn : Int} {dd : Int} {da : Int} {df : Nat → Int} {dt : Nat → Int} {dw : Nat → Int} {dc : Nat → Int} {kn : Int} {kd : Int} {ka : Int} {kf : Nat → Int} {kt : Nat → Int} {kw : Nat → Int} {kc : Nat → Int} {so sz dr mn fr tt wt co : Nat → Int} {nu : Nat → Int64} {qi qc : Nat → Int} {sa : Nat → Int} {wo : Nat → Int64} {ln : Nat → Int} {hx5 : Nat → Int64} {ro : Nat → Int} {x1 x2 x3 : Int} (hd0 : 4 ≤ d) (hk : EK Γ cI cJ cZ a ct th dn dd da df dt dw dc kn kd ka) (hm : HM Γ cI cJ cZ a ct th so sz dr mn fr tt wt co nu qi qc) (hrv : -2147483648 ≤ rv ∧ rv ≤ 2147483647) (hna : a + 84 ≤ n) (ht : Tw (CG Γ cI cJ cZ cT a ct rv th dn dd da df dt dw dc kn kd ka kf kt kw kc) hp) (hx1 : (-2147483648) ≤ x1 ∧ x1 ≤ 2147483647) (hx2 : (-2147483648) ≤ x2 ∧ x2 ≤ 2147483647) (hx3 : (-2147483648) ≤ x3 ∧ x3 ≤ 2147483647) : Mt (gG D cI cJ cZ cT lo b L xs) mX11_ways d 8 400 [.ref a, .int (iv x1), .int (iv x2), .int (iv x3)] hp n (qM Γ cI cJ cZ cT a dn dd da df dt dw dc n ct th (an1 ct so x1 1 (x2 < 0 ∨ 2 < x2 ∨ x3 < 0 ∨ (sz (Int.toNat x1)) ≤ x3) (ct = 120)) (fun Γ1 t => WXx Γ1 cI cJ cZ a t (sz (Int.toNat x1)) (fun v => wyP (Int.toNat (mn (Int.toNat x1))) (dr (Int.toNat x1)) (sh fr (60 * x1)) (sh tt (60 * x1)) (sh wt (60 * x1)) x2 (Int.toNat x3) (sz (Int.toNat x1)) v))) := by
  refine Mt.of rfl (Nat.le_of_ble_eq_true rfl) ?_
  refine Rn.pick (lv' := [(0, .ref a), (1, .int (iv x1)), (2, .int (iv x2)), (3, .int (iv x3))]) [0, 1, 2, 3] rfl ?_
  obtain ⟨hct, hth, ⟨hdn, hdd1, hda, har⟩, ⟨hkn, hkd, hka⟩, hsh, hse, hpr, hfl, hsm⟩ := id hk
  refine r_aload_n (pc := 0) dX11_ways_0 (i := 0) rfl rfl ?_
  refine r_iconst (pc := 1) (v := iv 0) dX11_ways_1 (by decide) ?_
  refine t_putX (pc := 2) (ty := .int) ht CG_0 fX11_19 tyX11 tyX11_ok nmX11 (by decide +kernel) (Or.inl rfl) dX11_ways_2 (Nat.le_of_ble_eq_true rfl) rfl rfl rfl (fun hp1 ht2 => ?_)
  have ht3 := RGw_rv ht2
  refine r_aload_n (pc := 5) dX11_ways_5 (i := 0) rfl rfl ?_
  refine r_iload_n (pc := 6) dX11_ways_6 (i := 1) rfl rfl ?_
  refine u_graphAt (pc := 7) (x := x1) (st := []) hct hm ht3 kX11_106 dX11_ways_7 (by omega) (Nat.le_of_ble_eq_true rfl) (by omega) (fun hp4 ht5 hnog => ?_) (fun hp4 ga ht5 hyeg hTg => ?_)
  · refine r_astoreN (pc := 10) (lv' := [(4, .null), (0, .ref a), (1, .int (iv x1)), (2, .int (iv x2)), (3, .int (iv x3))]) dX11_ways_10 (by decide) rfl ?_
    refine r_aloadN (pc := 12) dX11_ways_12 rfl ?_
    refine r_ifnonnullN (pc := 14) dX11_ways_14 ?_
    refine r_aload_n (pc := 17) dX11_ways_17 (i := 0) rfl rfl ?_
    refine r_aload_n (pc := 18) dX11_ways_18 (i := 0) rfl rfl ?_
    refine r_iload_n (pc := 19) dX11_ways_19 (i := 1) rfl rfl ?_
    obtain ⟨fs10, hfs10⟩ := t_obj ht5 (rd_of CG_0)
    refine r_callV (pc := 20) (as := [.int (iv x1)]) (st := [.ref a]) kX11_110 rfl dX11_ways_20 hfs10 (uw_X11_whyNot (d := d - 1) (x1 := x1) (by omega)  ht5 (by omega) (by omega) hm) rfl (by omega) (Nat.le_of_ble_eq_true rfl) (Nat.zero_le _) (Nat.zero_le _) rfl (fun r7 hp6 n8 hq9 => ?_)
    obtain ⟨hnn8, bb_12, ht11, hrr7, hhq90, hhq91⟩ := hq9
    subst n8 r7
    have hhq90 : -2 ≤ bb_12 ∧ bb_12 ≤ -1 := hhq90
    have hhq91 : (bb_12 = -1 ∧ ¬ (0 ≤ x1 ∧ x1 < ct)) ∨ (bb_12 = -2 ∧ 0 ≤ x1 ∧ x1 < ct) := hhq91
    change Rn _ _ _ 23 _ [.int (iv bb_12), .ref a] _ _ _ _ _
    obtain ⟨fs17, hfs17⟩ := t_obj ht11 (rd_of CG_0)
    refine r_callV (pc := 23) (as := [.int (iv bb_12)]) (st := []) kX11_82 rfl dX11_ways_23 hfs17 (s_X11_refuse (d := d - 1) (x1 := bb_12) (by omega)  ht11 (by omega)) rfl (by omega) (Nat.le_of_ble_eq_true rfl) (Nat.zero_le _) (Nat.zero_le _) rfl (fun r14 hp13 n15 hq16 => ?_)
    obtain ⟨hnn15, ht18, hrr14⟩ := hq16
    subst n15 r14
    change Rn _ _ _ 26 _ [.int (iv bb_12)] _ _ _ _ _
    exact r_iret (pc := 26) dX11_ways_26 rfl ⟨by omega, Γ, ct, bb_12, th, kn, kd, ka, kf, kt, kw, kc, bb_12, (Ext_refl Γ), ht18, hk, rfl, by exact an1_r (by omega), by omega, fun h9 => ⟨by omega, rfl, rfl⟩, fun h9 => absurd h9 (by omega)⟩
  · obtain ⟨gF, gT, gW, gC, gTl, gHd, gBy, gOu, gIn, gJo, gn, gm, gq, gdr, Tl, Hd, By, Ou, In, Jo, gpos, hg, hltg, hxg, hgog, houg, hing, hjog, heNg, heDg, heMg⟩ := id hTg
    have hfNg : Int.toNat (sz (Int.toNat x1)) = gn := by omega
    have hfMg : Int.toNat (mn (Int.toNat x1)) = gm := by omega
    obtain ⟨hg_O, hg_from, hg_to, hg_weight, hg_cost, hg_tail, hg_head, hg_by, hg_out, hg_in, hg_joined, hg_b⟩ := id hg
    refine r_astore (pc := 10) (lv' := [(4, .ref ga), (0, .ref a), (1, .int (iv x1)), (2, .int (iv x2)), (3, .int (iv x3))]) dX11_ways_10 (by decide) rfl ?_
    refine r_aload (pc := 12) dX11_ways_12 rfl ?_
    refine r_ifnonnull (pc := 14) (tgt := 27) dX11_ways_14 (by decide) ?_
    refine r_iload_n (pc := 27) dX11_ways_27 (i := 2) rfl rfl ?_
    refine t_if_lt (pc := 28) (tgt := 48) dX11_ways_28 (by decide) (by omega) (fun c28 => ?_) (fun c28 => ?_)
    · refine r_aload_n (pc := 48) dX11_ways_48 (i := 0) rfl rfl ?_
      refine r_bipush (pc := 49) (v := iv (-3)) dX11_ways_49 (by decide) ?_
      obtain ⟨fs23, hfs23⟩ := t_obj ht5 (rd_of CG_0)
      refine r_callV (pc := 51) (as := [.int (iv (-3))]) (st := []) kX11_82 rfl dX11_ways_51 hfs23 (s_X11_refuse (d := d - 1) (x1 := (-3)) (by omega)  ht5 (by omega)) rfl (by omega) (Nat.le_of_ble_eq_true rfl) (Nat.zero_le _) (Nat.zero_le _) rfl (fun r20 hp19 n21 hq22 => ?_)
      obtain ⟨hnn21, ht24, hrr20⟩ := hq22
      subst n21 r20
      change Rn _ _ _ 54 _ [.int (iv (-3))] _ _ _ _ _
      exact r_iret (pc := 54) dX11_ways_54 rfl ⟨by omega, Γ, ct, (-3), th, kn, kd, ka, kf, kt, kw, kc, (-3), (Ext_refl Γ), ht24, hk, rfl, by exact an1_b (by omega) (by omega) (by omega), by omega, fun h9 => ⟨by omega, rfl, rfl⟩, fun h9 => absurd h9 (by omega)⟩
    · refine r_iload_n (pc := 31) dX11_ways_31 (i := 2) rfl rfl ?_
      refine r_iconst (pc := 32) (v := iv 2) dX11_ways_32 (by decide) ?_
      refine t_icmp_gt (pc := 33) (tgt := 48) dX11_ways_33 (by decide) (by omega) (by omega) (fun c33 => ?_) (fun c33 => ?_)
      · refine r_aload_n (pc := 48) dX11_ways_48 (i := 0) rfl rfl ?_
        refine r_bipush (pc := 49) (v := iv (-3)) dX11_ways_49 (by decide) ?_
        obtain ⟨fs29, hfs29⟩ := t_obj ht5 (rd_of CG_0)
        refine r_callV (pc := 51) (as := [.int (iv (-3))]) (st := []) kX11_82 rfl dX11_ways_51 hfs29 (s_X11_refuse (d := d - 1) (x1 := (-3)) (by omega)  ht5 (by omega)) rfl (by omega) (Nat.le_of_ble_eq_true rfl) (Nat.zero_le _) (Nat.zero_le _) rfl (fun r26 hp25 n27 hq28 => ?_)
        obtain ⟨hnn27, ht30, hrr26⟩ := hq28
        subst n27 r26
        change Rn _ _ _ 54 _ [.int (iv (-3))] _ _ _ _ _
        exact r_iret (pc := 54) dX11_ways_54 rfl ⟨by omega, Γ, ct, (-3), th, kn, kd, ka, kf, kt, kw, kc, (-3), (Ext_refl Γ), ht30, hk, rfl, by exact an1_b (by omega) (by omega) (by omega), by omega, fun h9 => ⟨by omega, rfl, rfl⟩, fun h9 => absurd h9 (by omega)⟩
      · refine r_iload_n (pc := 36) dX11_ways_36 (i := 3) rfl rfl ?_
        refine r_aload (pc := 37) dX11_ways_37 rfl ?_
        refine t_getE (pc := 39) (.int (iv (gn : Int))) ht5 (rd_CG (by omega) hg_O) fX11_134 dX11_ways_39 rfl ?_
        refine t_callSI (pc := 42) (as := [.int (iv x3), .int (iv (gn : Int))]) (st := []) kX11_74 dX11_ways_42 (t_X11_isNode (d := d - 1) (x0 := x3) (x1 := (gn : Int)) (by omega)   ht5 (by omega) (by omega) ) rfl (by omega) (Nat.le_of_ble_eq_true rfl) rfl (fun hp31 y33 ht32 by33 => ?_)
        obtain ⟨by331, by332⟩ := by33
        refine t_if_ne (pc := 45) (tgt := 55) dX11_ways_45 (by decide) (by omega) (fun c45 => ?_) (fun c45 => ?_)
        · refine r_aload_n (pc := 55) dX11_ways_55 (i := 0) rfl rfl ?_
          obtain ⟨fs38, hfs38⟩ := t_obj ht32 (rd_of CG_0)
          refine r_callV (pc := 56) (as := []) (st := []) kX11_93 rfl dX11_ways_56 hfs38 (s_X11_isFull (d := d - 1)  (by omega)  ht32  (by omega)) rfl (by omega) (Nat.le_of_ble_eq_true rfl) (Nat.zero_le _) (Nat.zero_le _) rfl (fun r35 hp34 n36 hq37 => ?_)
          obtain ⟨hnn36, bb_40, ht39, hrr35, hhq370⟩ := hq37
          subst n36 r35
          have hhq370 : (bb_40 = 1 ∧ 120 ≤ ct) ∨ (bb_40 = 0 ∧ ct < 120) := hhq370
          change Rn _ _ _ 59 _ [.int (iv bb_40)] _ _ _ _ _
          refine t_if_eq (pc := 59) (tgt := 71) dX11_ways_59 (by decide) (by omega) (fun c59 => ?_) (fun c59 => ?_)
          · refine r_aload_n (pc := 71) dX11_ways_71 (i := 0) rfl rfl ?_
            refine Rn.bd (fun bd9 => ?_)
            refine w_new (pc := 72) (fs := [.int 0, .null, .null, .null, .null, .null]) nX11_189 tyX10 tyX10_ok (by decide +kernel) dX11_ways_72 (by omega) (by omega) (fun hpN hN1 hN2 hN3 => ?_)
            have htN := Tw_fr ht39 hN2
            refine r_dup (pc := 75) dX11_ways_75 rfl ?_
            refine r_aload (pc := 76) dX11_ways_76 rfl ?_
            refine r_iload_n (pc := 78) dX11_ways_78 (i := 2) rfl rfl ?_
            refine r_iload_n (pc := 79) dX11_ways_79 (i := 3) rfl rfl ?_
            have hsq9 : gn * gn ≤ 256 := Nat.le_trans (Nat.mul_le_mul (show gn ≤ 16 by omega) (show gn ≤ 16 by omega)) (by decide)
            refine r_callI (pc := 80) (as := [.ref ga, .int (iv x2), .int (iv x3)]) (st := [.ref n, .ref a]) kX11_191 dX11_ways_80 (w_X10_init (d := d - 1) (x2 := x2) (x3 := x3) (by omega) (TyG.cg (by omega) hg) (XG.cg (by omega) hxg) hgog houg hN1 (Tw_lo ht39 bd9) htN (by omega) (by omega)) rfl (by omega) (Nat.le_of_ble_eq_true rfl) (by omega) (by omega) rfl (fun r9 hp9 n9 q9 => ?_)
            obtain ⟨hn9, hr9, Γ1, vs9, vl9, vr9, vo9, vm9, hE1, ht9, hP1, hQ1, hQ2, hQ3, hQ4, hQ5, hwy9⟩ := q9
            subst r9
            obtain ⟨Γ2, hE2, eq2⟩ := CG_x hE1
            rw [← eq2] at ht9 hP1 hQ1 hQ2 hQ3 hQ4 hQ5
            have hg := TyG.ext hE2 hg
            obtain ⟨hg_O, hg_from, hg_to, hg_weight, hg_cost, hg_tail, hg_head, hg_by, hg_out, hg_in, hg_joined, hg_b⟩ := id hg
            have hxg := XG.ext hE2 hxg
            have hse := TySets.ext hE2 hse
            have hsh := TyShape.ext hE2 hsh
            have hfl := TyFlows.ext hE2 hfl
            have hWX : WXx Γ2 cI cJ cZ a n (sz (Int.toNat x1)) (fun v => wyP (Int.toNat (mn (Int.toNat x1))) (dr (Int.toNat x1)) (sh fr (60 * x1)) (sh tt (60 * x1)) (sh wt (60 * x1)) x2 (Int.toNat x3) (sz (Int.toNat x1)) v) := ⟨gn, vs9, vl9, vr9, vo9, vm9, TyW.uncg (by omega) hP1, by omega, heNg, ⟨rd_unCG (by omega) hQ1, rd_unCG (by omega) hQ2, rd_unCG (by omega) hQ3, rd_unCG (by omega) hQ4, rd_unCG (by omega) hQ5⟩, fun v hv => by rw [hfMg, heDg, heNg]; exact hwy9 v hv⟩
            have hth2 := hWX.wx.th
            change Rn _ _ _ 83 _ [.ref n, .ref a] _ _ _ _ _
            obtain ⟨Fs9, hv9, hl9⟩ := ThW_rd hth2
            obtain ⟨fs46, hfs46⟩ := t_obj ht9 (rd_of CG_0)
            refine r_callV (pc := 83) (as := [.ref n]) (st := []) kX11_102 rfl dX11_ways_83 hfs46 (t_X11_keep (d := d - 1) (r0 := (RX10, TX10, 6)) (by omega) (by omega) (rd_CG (by omega) hv9) rfl (show (RX10, "GraphEngine$Thing") ∈ cas by decide +kernel) ht9) rfl (by omega) (Nat.le_of_ble_eq_true rfl) (Nat.zero_le _) (Nat.zero_le _) rfl (fun r41 hp42 n43 hq44 => ?_)
            obtain ⟨hnn43, ht45, hrr41⟩ := hq44
            subst n43 r41
            change Rn _ _ _ 86 _ [.int (iv ct)] _ _ _ _ _
            exact r_iret (pc := 86) dX11_ways_86 rfl ⟨by omega, Γ2, (ct + 1), 0, (va_up th (ct).toNat (some n)), kn, kd, ka, kf, kt, kw, kc, ct, (Ext_tr (Ext_refl Γ) hE2), ht45, (EK.keep (EK.ext hE2 hk) (by omega) (Or.inr (Or.inr (Or.inl hth2)))), rfl, by exact an1_m (hdQ_n (by omega)).symm (by omega) (by omega), by omega, fun h9 => absurd h9 (by omega), fun _ => ⟨by omega, rfl, n, rfl, hWX⟩⟩
          · refine r_aload_n (pc := 62) dX11_ways_62 (i := 0) rfl rfl ?_
            refine r_bipush (pc := 63) (v := iv (-4)) dX11_ways_63 (by decide) ?_
            obtain ⟨fs51, hfs51⟩ := t_obj ht39 (rd_of CG_0)
            refine r_callV (pc := 65) (as := [.int (iv (-4))]) (st := []) kX11_82 rfl dX11_ways_65 hfs51 (s_X11_refuse (d := d - 1) (x1 := (-4)) (by omega)  ht39 (by omega)) rfl (by omega) (Nat.le_of_ble_eq_true rfl) (Nat.zero_le _) (Nat.zero_le _) rfl (fun r48 hp47 n49 hq50 => ?_)
            obtain ⟨hnn49, ht52, hrr48⟩ := hq50
            subst n49 r48
            change Rn _ _ _ 68 _ [.int (iv (-4))] _ _ _ _ _
            refine r_goto (pc := 68) (tgt := 86) dX11_ways_68 (by decide) ?_
            exact r_iret (pc := 86) dX11_ways_86 rfl ⟨by omega, Γ, ct, (-4), th, kn, kd, ka, kf, kt, kw, kc, (-4), (Ext_refl Γ), ht52, hk, rfl, by exact an1_m (hdQ_y (by omega)).symm (by omega) (by omega), by omega, fun h9 => ⟨by omega, rfl, rfl⟩, fun h9 => absurd h9 (by omega)⟩
        · refine r_aload_n (pc := 48) dX11_ways_48 (i := 0) rfl rfl ?_
          refine r_bipush (pc := 49) (v := iv (-3)) dX11_ways_49 (by decide) ?_
          obtain ⟨fs57, hfs57⟩ := t_obj ht32 (rd_of CG_0)
          refine r_callV (pc := 51) (as := [.int (iv (-3))]) (st := []) kX11_82 rfl dX11_ways_51 hfs57 (s_X11_refuse (d := d - 1) (x1 := (-3)) (by omega)  ht32 (by omega)) rfl (by omega) (Nat.le_of_ble_eq_true rfl) (Nat.zero_le _) (Nat.zero_le _) rfl (fun r54 hp53 n55 hq56 => ?_)
          obtain ⟨hnn55, ht58, hrr54⟩ := hq56
          subst n55 r54
          change Rn _ _ _ 54 _ [.int (iv (-3))] _ _ _ _ _
          exact r_iret (pc := 54) dX11_ways_54 rfl ⟨by omega, Γ, ct, (-3), th, kn, kd, ka, kf, kt, kw, kc, (-3), (Ext_refl Γ), ht58, hk, rfl, by exact an1_b (by omega) (by omega) (by omega), by omega, fun h9 => ⟨by omega, rfl, rfl⟩, fun h9 => absurd h9 (by omega)⟩
