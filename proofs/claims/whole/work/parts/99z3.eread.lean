set_option maxHeartbeats 4000000 in
set_option maxRecDepth 100000 in
theorem e_X11_refused {D : va_G} {cI cJ cZ cT : ClassId} {lo b L : Nat} {xs : Nat → Int32} {hp : MH} {n d : Nat} {Γ : TG} {a : Nat} {ct : Int} {rv : Int} {th : Nat → Option Nat} {dn : Int} {dd : Int} {da : Int} {df : Nat → Int} {dt : Nat → Int} {dw : Nat → Int} {dc : Nat → Int} {kn : Int} {kd : Int} {ka : Int} {kf : Nat → Int} {kt : Nat → Int} {kw : Nat → Int} {kc : Nat → Int} (hd0 : 0 ≤ d) (hk : EK Γ cI cJ cZ a ct th dn dd da df dt dw dc kn kd ka) (hrv : -2147483648 ≤ rv ∧ rv ≤ 2147483647) (hna : a + 84 ≤ n) (ht : Tw (CG Γ cI cJ cZ cT a ct rv th dn dd da df dt dw dc kn kd ka kf kt kw kc) hp)  : Mt (gG D cI cJ cZ cT lo b L xs) mX11_refused d 0 0 [.ref a] hp n (qE Γ cI cJ cZ cT a dn dd da df dt dw dc n (qI (-2147483648) 2147483647)) := by
  refine Mt.of rfl (Nat.le_of_ble_eq_true rfl) ?_
  refine Rn.pick (lv' := [(0, .ref a)]) [0] rfl ?_
  obtain ⟨hct, hth, ⟨hdn, hdd1, hda, har⟩, ⟨hkn, hkd, hka⟩, hsh, hse, hpr, hfl, hsm⟩ := id hk
  refine r_aload_n (pc := 0) dX11_refused_0 (i := 0) rfl rfl ?_
  refine t_getE (pc := 1) (.int (iv rv)) ht (rd_of CG_0) fX11_19 dX11_refused_1 rfl ?_
  exact r_iret (pc := 4) dX11_refused_4 rfl ⟨by omega, Γ, ct, rv, th, kn, kd, ka, kf, kt, kw, kc, (Ext_refl Γ), ht, hk, by omega, ⟨_, rfl, by omega, by omega⟩⟩
set_option maxHeartbeats 4000000 in
set_option maxRecDepth 100000 in
theorem e_X11_handles {D : va_G} {cI cJ cZ cT : ClassId} {lo b L : Nat} {xs : Nat → Int32} {hp : MH} {n d : Nat} {Γ : TG} {a : Nat} {ct : Int} {rv : Int} {th : Nat → Option Nat} {dn : Int} {dd : Int} {da : Int} {df : Nat → Int} {dt : Nat → Int} {dw : Nat → Int} {dc : Nat → Int} {kn : Int} {kd : Int} {ka : Int} {kf : Nat → Int} {kt : Nat → Int} {kw : Nat → Int} {kc : Nat → Int} (hd0 : 0 ≤ d) (hk : EK Γ cI cJ cZ a ct th dn dd da df dt dw dc kn kd ka) (hrv : -2147483648 ≤ rv ∧ rv ≤ 2147483647) (hna : a + 84 ≤ n) (ht : Tw (CG Γ cI cJ cZ cT a ct rv th dn dd da df dt dw dc kn kd ka kf kt kw kc) hp)  : Mt (gG D cI cJ cZ cT lo b L xs) mX11_handles d 0 0 [.ref a] hp n (qE Γ cI cJ cZ cT a dn dd da df dt dw dc n (qI (-2147483648) 2147483647)) := by
  refine Mt.of rfl (Nat.le_of_ble_eq_true rfl) ?_
  refine Rn.pick (lv' := [(0, .ref a)]) [0] rfl ?_
  obtain ⟨hct, hth, ⟨hdn, hdd1, hda, har⟩, ⟨hkn, hkd, hka⟩, hsh, hse, hpr, hfl, hsm⟩ := id hk
  refine r_aload_n (pc := 0) dX11_handles_0 (i := 0) rfl rfl ?_
  refine r_iconst (pc := 1) (v := iv 0) dX11_handles_1 (by decide) ?_
  refine t_putX (pc := 2) (ty := .int) ht CG_0 fX11_19 tyX11 tyX11_ok nmX11 (by decide +kernel) (Or.inl rfl) dX11_handles_2 (Nat.le_of_ble_eq_true rfl) rfl rfl rfl (fun hp1 ht2 => ?_)
  have ht3 := RGw_rv ht2
  refine r_aload_n (pc := 5) dX11_handles_5 (i := 0) rfl rfl ?_
  refine t_getE (pc := 6) (.int (iv ct)) ht3 (rd_of CG_0) fX11_15 dX11_handles_6 rfl ?_
  exact r_iret (pc := 9) dX11_handles_9 rfl ⟨by omega, Γ, ct, 0, th, kn, kd, ka, kf, kt, kw, kc, (Ext_refl Γ), ht3, hk, by omega, ⟨_, rfl, by omega, by omega⟩⟩
set_option maxHeartbeats 4000000 in
set_option maxRecDepth 100000 in
theorem e_X11_drop {D : va_G} {cI cJ cZ cT : ClassId} {lo b L : Nat} {xs : Nat → Int32} {hp : MH} {n d : Nat} {Γ : TG} {a : Nat} {ct : Int} {rv : Int} {th : Nat → Option Nat} {dn : Int} {dd : Int} {da : Int} {df : Nat → Int} {dt : Nat → Int} {dw : Nat → Int} {dc : Nat → Int} {kn : Int} {kd : Int} {ka : Int} {kf : Nat → Int} {kt : Nat → Int} {kw : Nat → Int} {kc : Nat → Int} (hd0 : 1 ≤ d) (hk : EK Γ cI cJ cZ a ct th dn dd da df dt dw dc kn kd ka) (hrv : -2147483648 ≤ rv ∧ rv ≤ 2147483647) (hna : a + 84 ≤ n) (ht : Tw (CG Γ cI cJ cZ cT a ct rv th dn dd da df dt dw dc kn kd ka kf kt kw kc) hp)  : Mt (gG D cI cJ cZ cT lo b L xs) mX11_drop d 0 0 [.ref a] hp n (qE Γ cI cJ cZ cT a dn dd da df dt dw dc n (qI (-2147483648) 2147483647)) := by
  refine Mt.of rfl (Nat.le_of_ble_eq_true rfl) ?_
  refine Rn.pick (lv' := [(0, .ref a)]) [0] rfl ?_
  obtain ⟨hct, hth, ⟨hdn, hdd1, hda, har⟩, ⟨hkn, hkd, hka⟩, hsh, hse, hpr, hfl, hsm⟩ := id hk
  refine r_aload_n (pc := 0) dX11_drop_0 (i := 0) rfl rfl ?_
  refine r_iconst (pc := 1) (v := iv 0) dX11_drop_1 (by decide) ?_
  refine t_putX (pc := 2) (ty := .int) ht CG_0 fX11_19 tyX11 tyX11_ok nmX11 (by decide +kernel) (Or.inl rfl) dX11_drop_2 (Nat.le_of_ble_eq_true rfl) rfl rfl rfl (fun hp1 ht2 => ?_)
  have ht3 := RGw_rv ht2
  refine r_aload_n (pc := 5) dX11_drop_5 (i := 0) rfl rfl ?_
  refine t_getE (pc := 6) (.int (iv ct)) ht3 (rd_of CG_0) fX11_15 dX11_drop_6 rfl ?_
  refine t_if_gt (pc := 9) (tgt := 18) dX11_drop_9 (by decide) (by omega) (fun c9 => ?_) (fun c9 => ?_)
  · refine r_aload_n (pc := 18) dX11_drop_18 (i := 0) rfl rfl ?_
    refine r_dup (pc := 19) dX11_drop_19 rfl ?_
    refine t_getE (pc := 20) (.int (iv ct)) ht3 (rd_of CG_0) fX11_15 dX11_drop_20 rfl ?_
    refine r_iconst (pc := 23) (v := iv 1) dX11_drop_23 (by decide) ?_
    refine r_isub (pc := 24) (v := iv (ct - 1)) dX11_drop_24 (iv_sub _ _) ?_
    refine t_putX (pc := 25) (ty := .int) ht3 CG_0 fX11_15 tyX11 tyX11_ok nmX11 (by decide +kernel) (Or.inl rfl) dX11_drop_25 (Nat.le_of_ble_eq_true rfl) rfl rfl rfl (fun hp4 ht5 => ?_)
    have ht6 := RGw_ct ht5
    refine r_aload_n (pc := 28) dX11_drop_28 (i := 0) rfl rfl ?_
    refine t_getE (pc := 29) (.ref (a + 1)) ht6 (rd_of CG_0) fX11_11 dX11_drop_29 rfl ?_
    refine r_aload_n (pc := 32) dX11_drop_32 (i := 0) rfl rfl ?_
    refine t_getE (pc := 33) (.int (iv (ct - 1))) ht6 (rd_of CG_0) fX11_15 dX11_drop_33 rfl ?_
    refine r_null (pc := 36) dX11_drop_36 ?_
    refine t_aastN (pc := 37) (t0 := 3) (x := ct - 1) ht6 CG_1 dX11_drop_37 rfl (by omega) (by omega) (fun hp9 ht7 => ?_)
    have ht8 := CGw_th ht7
    refine r_aload_n (pc := 38) dX11_drop_38 (i := 0) rfl rfl ?_
    refine t_getE (pc := 39) (.int (iv (ct - 1))) ht8 (rd_of CG_0) fX11_15 dX11_drop_39 rfl ?_
    exact r_iret (pc := 42) dX11_drop_42 rfl ⟨by omega, Γ, (ct - 1), 0, (va_up th (ct - 1).toNat none), kn, kd, ka, kf, kt, kw, kc, (Ext_refl Γ), ht8, (EK.drop hk (by omega)), by omega, ⟨_, rfl, by omega, by omega⟩⟩
  · refine r_aload_n (pc := 12) dX11_drop_12 (i := 0) rfl rfl ?_
    refine r_iconst (pc := 13) (v := iv (-1)) dX11_drop_13 (by decide) ?_
    obtain ⟨fs14, hfs14⟩ := t_obj ht3 (rd_of CG_0)
    refine r_callV (pc := 14) (as := [.int (iv (-1))]) (st := []) kX11_82 rfl dX11_drop_14 hfs14 (s_X11_refuse (d := d - 1) (x1 := (-1)) (by omega)  ht3 (by omega)) rfl (by omega) (Nat.le_of_ble_eq_true rfl) (Nat.zero_le _) (Nat.zero_le _) rfl (fun r11 hp10 n12 hq13 => ?_)
    obtain ⟨hnn12, ht15, hrr11⟩ := hq13
    subst n12 r11
    change Rn _ _ _ 17 _ [.int (iv (-1))] _ _ _ _ _
    exact r_iret (pc := 17) dX11_drop_17 rfl ⟨by omega, Γ, ct, (-1), th, kn, kd, ka, kf, kt, kw, kc, (Ext_refl Γ), ht15, hk, by omega, ⟨_, rfl, by omega, by omega⟩⟩
set_option maxHeartbeats 4000000 in
set_option maxRecDepth 100000 in
theorem e_X11_of {D : va_G} {cI cJ cZ cT : ClassId} {lo b L : Nat} {xs : Nat → Int32} {hp : MH} {n d : Nat} {Γ : TG} {a : Nat} {ct : Int} {rv : Int} {th : Nat → Option Nat} {dn : Int} {dd : Int} {da : Int} {df : Nat → Int} {dt : Nat → Int} {dw : Nat → Int} {dc : Nat → Int} {kn : Int} {kd : Int} {ka : Int} {kf : Nat → Int} {kt : Nat → Int} {kw : Nat → Int} {kc : Nat → Int} {x1 x2 x3 : Int} (hd0 : 4 ≤ d) (hk : EK Γ cI cJ cZ a ct th dn dd da df dt dw dc kn kd ka) (hrv : -2147483648 ≤ rv ∧ rv ≤ 2147483647) (hna : a + 84 ≤ n) (ht : Tw (CG Γ cI cJ cZ cT a ct rv th dn dd da df dt dw dc kn kd ka kf kt kw kc) hp) (hx1 : (-2147483648) ≤ x1 ∧ x1 ≤ 2147483647) (hx2 : (-2147483648) ≤ x2 ∧ x2 ≤ 2147483647) (hx3 : (-2147483648) ≤ x3 ∧ x3 ≤ 2147483647) : Mt (gG D cI cJ cZ cT lo b L xs) mX11_of d 0 0 [.ref a, .int (iv x1), .int (iv x2), .int (iv x3)] hp n (qE Γ cI cJ cZ cT a dn dd da df dt dw dc n (qI (-2147483648) 2147483647)) := by
  refine Mt.of rfl (Nat.le_of_ble_eq_true rfl) ?_
  refine Rn.pick (lv' := [(0, .ref a), (1, .int (iv x1)), (2, .int (iv x2)), (3, .int (iv x3))]) [0, 1, 2, 3] rfl ?_
  obtain ⟨hct, hth, ⟨hdn, hdd1, hda, har⟩, ⟨hkn, hkd, hka⟩, hsh, hse, hpr, hfl, hsm⟩ := id hk
  refine r_aload_n (pc := 0) dX11_of_0 (i := 0) rfl rfl ?_
  refine r_iconst (pc := 1) (v := iv 0) dX11_of_1 (by decide) ?_
  refine t_putX (pc := 2) (ty := .int) ht CG_0 fX11_19 tyX11 tyX11_ok nmX11 (by decide +kernel) (Or.inl rfl) dX11_of_2 (Nat.le_of_ble_eq_true rfl) rfl rfl rfl (fun hp1 ht2 => ?_)
  have ht3 := RGw_rv ht2
  refine r_aload_n (pc := 5) dX11_of_5 (i := 0) rfl rfl ?_
  refine r_iload_n (pc := 6) dX11_of_6 (i := 1) rfl rfl ?_
  refine t_graphAt (pc := 7) (x := x1) (st := []) hk ht3 kX11_106 dX11_of_7 (by omega) (Nat.le_of_ble_eq_true rfl) (by omega) (fun hp4 ht5 => ?_) (fun hp4 ga ht5 hTg => ?_)
  · refine r_astoreN (pc := 10) (lv' := [(4, .null), (0, .ref a), (1, .int (iv x1)), (2, .int (iv x2)), (3, .int (iv x3))]) dX11_of_10 (by decide) rfl ?_
    refine r_aloadN (pc := 12) dX11_of_12 rfl ?_
    refine r_ifnonnullN (pc := 14) dX11_of_14 ?_
    refine r_aload_n (pc := 17) dX11_of_17 (i := 0) rfl rfl ?_
    refine r_aload_n (pc := 18) dX11_of_18 (i := 0) rfl rfl ?_
    refine r_iload_n (pc := 19) dX11_of_19 (i := 1) rfl rfl ?_
    obtain ⟨fs10, hfs10⟩ := t_obj ht5 (rd_of CG_0)
    refine r_callV (pc := 20) (as := [.int (iv x1)]) (st := [.ref a]) kX11_110 rfl dX11_of_20 hfs10 (s_X11_whyNot (d := d - 1) (x1 := x1) (by omega)  ht5 (by omega) hk) rfl (by omega) (Nat.le_of_ble_eq_true rfl) (Nat.zero_le _) (Nat.zero_le _) rfl (fun r7 hp6 n8 hq9 => ?_)
    obtain ⟨hnn8, bb_12, ht11, hrr7, hhq90⟩ := hq9
    subst n8 r7
    have hhq90 : -2 ≤ bb_12 ∧ bb_12 ≤ -1 := hhq90
    change Rn _ _ _ 23 _ [.int (iv bb_12), .ref a] _ _ _ _ _
    obtain ⟨fs17, hfs17⟩ := t_obj ht11 (rd_of CG_0)
    refine r_callV (pc := 23) (as := [.int (iv bb_12)]) (st := []) kX11_203 rfl dX11_of_23 hfs17 (s_X11_deny (d := d - 1) (x1 := bb_12) (by omega)  ht11 (by omega)) rfl (by omega) (Nat.le_of_ble_eq_true rfl) (Nat.zero_le _) (Nat.zero_le _) rfl (fun r14 hp13 n15 hq16 => ?_)
    obtain ⟨hnn15, ht18, hrr14⟩ := hq16
    subst n15 r14
    change Rn _ _ _ 26 _ [.int (iv 0)] _ _ _ _ _
    exact r_iret (pc := 26) dX11_of_26 rfl ⟨by omega, Γ, ct, bb_12, th, kn, kd, ka, kf, kt, kw, kc, (Ext_refl Γ), ht18, hk, by omega, ⟨_, rfl, by omega, by omega⟩⟩
  · obtain ⟨gF, gT, gW, gC, gTl, gHd, gBy, gOu, gIn, gJo, gn, gm, gq, gdr, fF, fT, fW, fC, fTl, fHd, fBy, fOu, fIn, fJo, hg, hltg, hxg⟩ := id hTg
    obtain ⟨hg_O, hg_from, hg_to, hg_weight, hg_cost, hg_tail, hg_head, hg_by, hg_out, hg_in, hg_joined, hg_b⟩ := id hg
    refine r_astore (pc := 10) (lv' := [(4, .ref ga), (0, .ref a), (1, .int (iv x1)), (2, .int (iv x2)), (3, .int (iv x3))]) dX11_of_10 (by decide) rfl ?_
    refine r_aload (pc := 12) dX11_of_12 rfl ?_
    refine r_ifnonnull (pc := 14) (tgt := 27) dX11_of_14 (by decide) ?_
    refine r_iload_n (pc := 27) dX11_of_27 (i := 2) rfl rfl ?_
    refine t_if_lt (pc := 28) (tgt := 54) dX11_of_28 (by decide) (by omega) (fun c28 => ?_) (fun c28 => ?_)
    · refine r_aload_n (pc := 54) dX11_of_54 (i := 0) rfl rfl ?_
      refine r_bipush (pc := 55) (v := iv (-3)) dX11_of_55 (by decide) ?_
      obtain ⟨fs23, hfs23⟩ := t_obj ht5 (rd_of CG_0)
      refine r_callV (pc := 57) (as := [.int (iv (-3))]) (st := []) kX11_203 rfl dX11_of_57 hfs23 (s_X11_deny (d := d - 1) (x1 := (-3)) (by omega)  ht5 (by omega)) rfl (by omega) (Nat.le_of_ble_eq_true rfl) (Nat.zero_le _) (Nat.zero_le _) rfl (fun r20 hp19 n21 hq22 => ?_)
      obtain ⟨hnn21, ht24, hrr20⟩ := hq22
      subst n21 r20
      change Rn _ _ _ 60 _ [.int (iv 0)] _ _ _ _ _
      exact r_iret (pc := 60) dX11_of_60 rfl ⟨by omega, Γ, ct, (-3), th, kn, kd, ka, kf, kt, kw, kc, (Ext_refl Γ), ht24, hk, by omega, ⟨_, rfl, by omega, by omega⟩⟩
    · refine r_iload_n (pc := 31) dX11_of_31 (i := 2) rfl rfl ?_
      refine r_bipush (pc := 32) (v := iv 6) dX11_of_32 (by decide) ?_
      refine t_icmp_gt (pc := 34) (tgt := 54) dX11_of_34 (by decide) (by omega) (by omega) (fun c34 => ?_) (fun c34 => ?_)
      · refine r_aload_n (pc := 54) dX11_of_54 (i := 0) rfl rfl ?_
        refine r_bipush (pc := 55) (v := iv (-3)) dX11_of_55 (by decide) ?_
        obtain ⟨fs29, hfs29⟩ := t_obj ht5 (rd_of CG_0)
        refine r_callV (pc := 57) (as := [.int (iv (-3))]) (st := []) kX11_203 rfl dX11_of_57 hfs29 (s_X11_deny (d := d - 1) (x1 := (-3)) (by omega)  ht5 (by omega)) rfl (by omega) (Nat.le_of_ble_eq_true rfl) (Nat.zero_le _) (Nat.zero_le _) rfl (fun r26 hp25 n27 hq28 => ?_)
        obtain ⟨hnn27, ht30, hrr26⟩ := hq28
        subst n27 r26
        change Rn _ _ _ 60 _ [.int (iv 0)] _ _ _ _ _
        exact r_iret (pc := 60) dX11_of_60 rfl ⟨by omega, Γ, ct, (-3), th, kn, kd, ka, kf, kt, kw, kc, (Ext_refl Γ), ht30, hk, by omega, ⟨_, rfl, by omega, by omega⟩⟩
      · refine r_iload_n (pc := 37) dX11_of_37 (i := 2) rfl rfl ?_
        refine r_iconst (pc := 38) (v := iv 3) dX11_of_38 (by decide) ?_
        refine t_icmp_lt (pc := 39) (tgt := 61) dX11_of_39 (by decide) (by omega) (by omega) (fun c39 => ?_) (fun c39 => ?_)
        · refine r_aload (pc := 61) dX11_of_61 rfl ?_
          refine r_iload_n (pc := 63) dX11_of_63 (i := 2) rfl rfl ?_
          refine r_iload_n (pc := 64) dX11_of_64 (i := 3) rfl rfl ?_
          refine t_callVR (pc := 65) (as := [.int (iv x2), .int (iv x3)]) (st := []) ht5 (rd_CG (by omega) hg_O) kX11_210 rfl dX11_of_65 (t_X3_detail (d := d - 1) (x1 := x2) (x2 := x3) (by omega) (TyG.cg (by omega) hg)  ht5 (by omega) (by omega) (by omega)) rfl (by omega) (Nat.le_of_ble_eq_true rfl) rfl (fun hp31 y33 ht32 by33 => ?_)
          exact r_iret (pc := 68) dX11_of_68 rfl ⟨by omega, Γ, ct, 0, th, kn, kd, ka, kf, kt, kw, kc, (Ext_refl Γ), ht32, hk, by omega, ⟨_, rfl, by omega, by omega⟩⟩
        · refine r_iload_n (pc := 42) dX11_of_42 (i := 3) rfl rfl ?_
          refine r_aload (pc := 43) dX11_of_43 rfl ?_
          refine t_getE (pc := 45) (.int (iv (gm : Int))) ht5 (rd_CG (by omega) hg_O) fX11_135 dX11_of_45 rfl ?_
          refine t_callSI (pc := 48) (as := [.int (iv x3), .int (iv (gm : Int))]) (st := []) kX11_74 dX11_of_48 (t_X11_isNode (d := d - 1) (x0 := x3) (x1 := (gm : Int)) (by omega)   ht5 (by omega) (by omega) ) rfl (by omega) (Nat.le_of_ble_eq_true rfl) rfl (fun hp34 y36 ht35 by36 => ?_)
          obtain ⟨by361, by362⟩ := by36
          refine t_if_ne (pc := 51) (tgt := 61) dX11_of_51 (by decide) (by omega) (fun c51 => ?_) (fun c51 => ?_)
          · refine r_aload (pc := 61) dX11_of_61 rfl ?_
            refine r_iload_n (pc := 63) dX11_of_63 (i := 2) rfl rfl ?_
            refine r_iload_n (pc := 64) dX11_of_64 (i := 3) rfl rfl ?_
            refine t_callVR (pc := 65) (as := [.int (iv x2), .int (iv x3)]) (st := []) ht35 (rd_CG (by omega) hg_O) kX11_210 rfl dX11_of_65 (t_X3_detail (d := d - 1) (x1 := x2) (x2 := x3) (by omega) (TyG.cg (by omega) hg)  ht35 (by omega) (by omega) (by omega)) rfl (by omega) (Nat.le_of_ble_eq_true rfl) rfl (fun hp37 y39 ht38 by39 => ?_)
            exact r_iret (pc := 68) dX11_of_68 rfl ⟨by omega, Γ, ct, 0, th, kn, kd, ka, kf, kt, kw, kc, (Ext_refl Γ), ht38, hk, by omega, ⟨_, rfl, by omega, by omega⟩⟩
          · refine r_aload_n (pc := 54) dX11_of_54 (i := 0) rfl rfl ?_
            refine r_bipush (pc := 55) (v := iv (-3)) dX11_of_55 (by decide) ?_
            obtain ⟨fs44, hfs44⟩ := t_obj ht35 (rd_of CG_0)
            refine r_callV (pc := 57) (as := [.int (iv (-3))]) (st := []) kX11_203 rfl dX11_of_57 hfs44 (s_X11_deny (d := d - 1) (x1 := (-3)) (by omega)  ht35 (by omega)) rfl (by omega) (Nat.le_of_ble_eq_true rfl) (Nat.zero_le _) (Nat.zero_le _) rfl (fun r41 hp40 n42 hq43 => ?_)
            obtain ⟨hnn42, ht45, hrr41⟩ := hq43
            subst n42 r41
            change Rn _ _ _ 60 _ [.int (iv 0)] _ _ _ _ _
            exact r_iret (pc := 60) dX11_of_60 rfl ⟨by omega, Γ, ct, (-3), th, kn, kd, ka, kf, kt, kw, kc, (Ext_refl Γ), ht45, hk, by omega, ⟨_, rfl, by omega, by omega⟩⟩
set_option maxHeartbeats 4000000 in
set_option maxRecDepth 100000 in
theorem e_X11_at {D : va_G} {cI cJ cZ cT : ClassId} {lo b L : Nat} {xs : Nat → Int32} {hp : MH} {n d : Nat} {Γ : TG} {a : Nat} {ct : Int} {rv : Int} {th : Nat → Option Nat} {dn : Int} {dd : Int} {da : Int} {df : Nat → Int} {dt : Nat → Int} {dw : Nat → Int} {dc : Nat → Int} {kn : Int} {kd : Int} {ka : Int} {kf : Nat → Int} {kt : Nat → Int} {kw : Nat → Int} {kc : Nat → Int} {x1 x2 : Int} (hd0 : 4 ≤ d) (hk : EK Γ cI cJ cZ a ct th dn dd da df dt dw dc kn kd ka) (hrv : -2147483648 ≤ rv ∧ rv ≤ 2147483647) (hna : a + 84 ≤ n) (ht : Tw (CG Γ cI cJ cZ cT a ct rv th dn dd da df dt dw dc kn kd ka kf kt kw kc) hp) (hx1 : (-2147483648) ≤ x1 ∧ x1 ≤ 2147483647) (hx2 : (-2147483648) ≤ x2 ∧ x2 ≤ 2147483647) : Mt (gG D cI cJ cZ cT lo b L xs) mX11_at d 0 0 [.ref a, .int (iv x1), .int (iv x2)] hp n (qE Γ cI cJ cZ cT a dn dd da df dt dw dc n qL) := by
  refine Mt.of rfl (Nat.le_of_ble_eq_true rfl) ?_
  refine Rn.pick (lv' := [(0, .ref a), (1, .int (iv x1)), (2, .int (iv x2))]) [0, 1, 2] rfl ?_
  obtain ⟨hct, hth, ⟨hdn, hdd1, hda, har⟩, ⟨hkn, hkd, hka⟩, hsh, hse, hpr, hfl, hsm⟩ := id hk
  refine r_aload_n (pc := 0) dX11_at_0 (i := 0) rfl rfl ?_
  refine r_iconst (pc := 1) (v := iv 0) dX11_at_1 (by decide) ?_
  refine t_putX (pc := 2) (ty := .int) ht CG_0 fX11_19 tyX11 tyX11_ok nmX11 (by decide +kernel) (Or.inl rfl) dX11_at_2 (Nat.le_of_ble_eq_true rfl) rfl rfl rfl (fun hp1 ht2 => ?_)
  have ht3 := RGw_rv ht2
  refine r_aload_n (pc := 5) dX11_at_5 (i := 0) rfl rfl ?_
  refine r_iload_n (pc := 6) dX11_at_6 (i := 1) rfl rfl ?_
  refine t_columnAt (pc := 7) (x := x1) (st := []) hk ht3 kX11_170 dX11_at_7 (by omega) (Nat.le_of_ble_eq_true rfl) (by omega) (fun hp4 ht5 => ?_) (fun hp4 ca ht5 hTc => ?_)
  · refine r_astore_nN (pc := 10) (lv' := [(3, .null), (0, .ref a), (1, .int (iv x1)), (2, .int (iv x2))]) dX11_at_10 (i := 3) rfl (by decide) rfl ?_
    refine r_aload_nN (pc := 11) dX11_at_11 (i := 3) rfl rfl ?_
    refine r_ifnonnullN (pc := 12) dX11_at_12 ?_
    refine r_aload_n (pc := 15) dX11_at_15 (i := 0) rfl rfl ?_
    refine r_aload_n (pc := 16) dX11_at_16 (i := 0) rfl rfl ?_
    refine r_iload_n (pc := 17) dX11_at_17 (i := 1) rfl rfl ?_
    obtain ⟨fs10, hfs10⟩ := t_obj ht5 (rd_of CG_0)
    refine r_callV (pc := 18) (as := [.int (iv x1)]) (st := [.ref a]) kX11_110 rfl dX11_at_18 hfs10 (s_X11_whyNot (d := d - 1) (x1 := x1) (by omega)  ht5 (by omega) hk) rfl (by omega) (Nat.le_of_ble_eq_true rfl) (Nat.zero_le _) (Nat.zero_le _) rfl (fun r7 hp6 n8 hq9 => ?_)
    obtain ⟨hnn8, bb_12, ht11, hrr7, hhq90⟩ := hq9
    subst n8 r7
    have hhq90 : -2 ≤ bb_12 ∧ bb_12 ≤ -1 := hhq90
    change Rn _ _ _ 21 _ [.int (iv bb_12), .ref a] _ _ _ _ _
    obtain ⟨fs17, hfs17⟩ := t_obj ht11 (rd_of CG_0)
    refine r_callV (pc := 21) (as := [.int (iv bb_12)]) (st := []) kX11_203 rfl dX11_at_21 hfs17 (s_X11_deny (d := d - 1) (x1 := bb_12) (by omega)  ht11 (by omega)) rfl (by omega) (Nat.le_of_ble_eq_true rfl) (Nat.zero_le _) (Nat.zero_le _) rfl (fun r14 hp13 n15 hq16 => ?_)
    obtain ⟨hnn15, ht18, hrr14⟩ := hq16
    subst n15 r14
    change Rn _ _ _ 24 _ [.int (iv 0)] _ _ _ _ _
    refine r_i2l (pc := 24) (v := (iv 0).toInt64) dX11_at_24 rfl ?_
    exact r_lret (pc := 25) dX11_at_25 rfl ⟨by omega, Γ, ct, bb_12, th, kn, kd, ka, kf, kt, kw, kc, (Ext_refl Γ), ht18, hk, by omega, ⟨_, rfl⟩⟩
  · obtain ⟨cM, cn, hc, hltc⟩ := id hTc
    obtain ⟨hc_O, hc_numbers, hc_b⟩ := id hc
    refine r_astore_n (pc := 10) (lv' := [(3, .ref ca), (0, .ref a), (1, .int (iv x1)), (2, .int (iv x2))]) dX11_at_10 (i := 3) rfl (by decide) rfl ?_
    refine r_aload_n (pc := 11) dX11_at_11 (i := 3) rfl rfl ?_
    refine r_ifnonnull (pc := 12) (tgt := 26) dX11_at_12 (by decide) ?_
    refine r_iload_n (pc := 26) dX11_at_26 (i := 2) rfl rfl ?_
    refine r_iconst (pc := 27) (v := iv (-1)) dX11_at_27 (by decide) ?_
    refine t_icmp_ne (pc := 28) (tgt := 36) dX11_at_28 (by decide) (by omega) (by omega) (fun c28 => ?_) (fun c28 => ?_)
    · refine r_iload_n (pc := 36) dX11_at_36 (i := 2) rfl rfl ?_
      refine r_aload_n (pc := 37) dX11_at_37 (i := 3) rfl rfl ?_
      refine t_getE (pc := 38) (.int (iv (cn : Int))) ht5 (rd_CG (by omega) hc_O) fX11_174 dX11_at_38 rfl ?_
      refine t_callSI (pc := 41) (as := [.int (iv x2), .int (iv (cn : Int))]) (st := []) kX11_74 dX11_at_41 (t_X11_isNode (d := d - 1) (x0 := x2) (x1 := (cn : Int)) (by omega)   ht5 (by omega) (by omega) ) rfl (by omega) (Nat.le_of_ble_eq_true rfl) rfl (fun hp19 y21 ht20 by21 => ?_)
      obtain ⟨by211, by212⟩ := by21
      refine t_if_eq (pc := 44) (tgt := 56) dX11_at_44 (by decide) (by omega) (fun c44 => ?_) (fun c44 => ?_)
      · refine r_aload_n (pc := 56) dX11_at_56 (i := 0) rfl rfl ?_
        refine r_bipush (pc := 57) (v := iv (-3)) dX11_at_57 (by decide) ?_
        obtain ⟨fs26, hfs26⟩ := t_obj ht20 (rd_of CG_0)
        refine r_callV (pc := 59) (as := [.int (iv (-3))]) (st := []) kX11_203 rfl dX11_at_59 hfs26 (s_X11_deny (d := d - 1) (x1 := (-3)) (by omega)  ht20 (by omega)) rfl (by omega) (Nat.le_of_ble_eq_true rfl) (Nat.zero_le _) (Nat.zero_le _) rfl (fun r23 hp22 n24 hq25 => ?_)
        obtain ⟨hnn24, ht27, hrr23⟩ := hq25
        subst n24 r23
        change Rn _ _ _ 62 _ [.int (iv 0)] _ _ _ _ _
        refine r_i2l (pc := 62) (v := (iv 0).toInt64) dX11_at_62 rfl ?_
        exact r_lret (pc := 63) dX11_at_63 rfl ⟨by omega, Γ, ct, (-3), th, kn, kd, ka, kf, kt, kw, kc, (Ext_refl Γ), ht27, hk, by omega, ⟨_, rfl⟩⟩
      · refine r_aload_n (pc := 47) dX11_at_47 (i := 3) rfl rfl ?_
        refine t_getE (pc := 48) (.ref cM) ht20 (rd_CG (by omega) hc_O) fX11_160 dX11_at_48 rfl ?_
        refine r_iload_n (pc := 51) dX11_at_51 (i := 2) rfl rfl ?_
        refine t_lald (pc := 52) (t0 := 1) ht20 (rd_CG (by omega) hc_numbers) dX11_at_52 rfl (by omega) (by omega) (fun w28 _ => ?_)
        refine r_goto (pc := 53) (tgt := 63) dX11_at_53 (by decide) ?_
        exact r_lret (pc := 63) dX11_at_63 rfl ⟨by omega, Γ, ct, 0, th, kn, kd, ka, kf, kt, kw, kc, (Ext_refl Γ), ht20, hk, by omega, ⟨_, rfl⟩⟩
    · refine r_aload_n (pc := 31) dX11_at_31 (i := 3) rfl rfl ?_
      refine t_callVJ (pc := 32) (as := []) (st := []) ht5 (rd_CG (by omega) hc_O) kX11_213 rfl dX11_at_32 (t_X0_total (d := d - 1)  (by omega) (TyC.cg (by omega) hc)  ht5  ) rfl (by omega) (Nat.le_of_ble_eq_true rfl) rfl (fun hp29 y31 ht30 _ => ?_)
      exact r_lret (pc := 35) dX11_at_35 rfl ⟨by omega, Γ, ct, 0, th, kn, kd, ka, kf, kt, kw, kc, (Ext_refl Γ), ht30, hk, by omega, ⟨_, rfl⟩⟩
set_option maxHeartbeats 4000000 in
set_option maxRecDepth 100000 in
theorem e_X11_way {D : va_G} {cI cJ cZ cT : ClassId} {lo b L : Nat} {xs : Nat → Int32} {hp : MH} {n d : Nat} {Γ : TG} {a : Nat} {ct : Int} {rv : Int} {th : Nat → Option Nat} {dn : Int} {dd : Int} {da : Int} {df : Nat → Int} {dt : Nat → Int} {dw : Nat → Int} {dc : Nat → Int} {kn : Int} {kd : Int} {ka : Int} {kf : Nat → Int} {kt : Nat → Int} {kw : Nat → Int} {kc : Nat → Int} {x1 x2 x3 : Int} (hd0 : 4 ≤ d) (hk : EK Γ cI cJ cZ a ct th dn dd da df dt dw dc kn kd ka) (hrv : -2147483648 ≤ rv ∧ rv ≤ 2147483647) (hna : a + 84 ≤ n) (ht : Tw (CG Γ cI cJ cZ cT a ct rv th dn dd da df dt dw dc kn kd ka kf kt kw kc) hp) (hx1 : (-2147483648) ≤ x1 ∧ x1 ≤ 2147483647) (hx2 : (-2147483648) ≤ x2 ∧ x2 ≤ 2147483647) (hx3 : (-2147483648) ≤ x3 ∧ x3 ≤ 2147483647) : Mt (gG D cI cJ cZ cT lo b L xs) mX11_way d 0 0 [.ref a, .int (iv x1), .int (iv x2), .int (iv x3)] hp n (qE Γ cI cJ cZ cT a dn dd da df dt dw dc n qL) := by
  refine Mt.of rfl (Nat.le_of_ble_eq_true rfl) ?_
  refine Rn.pick (lv' := [(0, .ref a), (1, .int (iv x1)), (2, .int (iv x2)), (3, .int (iv x3))]) [0, 1, 2, 3] rfl ?_
  obtain ⟨hct, hth, ⟨hdn, hdd1, hda, har⟩, ⟨hkn, hkd, hka⟩, hsh, hse, hpr, hfl, hsm⟩ := id hk
  refine r_aload_n (pc := 0) dX11_way_0 (i := 0) rfl rfl ?_
  refine r_iconst (pc := 1) (v := iv 0) dX11_way_1 (by decide) ?_
  refine t_putX (pc := 2) (ty := .int) ht CG_0 fX11_19 tyX11 tyX11_ok nmX11 (by decide +kernel) (Or.inl rfl) dX11_way_2 (Nat.le_of_ble_eq_true rfl) rfl rfl rfl (fun hp1 ht2 => ?_)
  have ht3 := RGw_rv ht2
  refine r_aload_n (pc := 5) dX11_way_5 (i := 0) rfl rfl ?_
  refine r_iload_n (pc := 6) dX11_way_6 (i := 1) rfl rfl ?_
  refine t_waysAt (pc := 7) (x := x1) (st := []) hk ht3 kX11_217 dX11_way_7 (by omega) (Nat.le_of_ble_eq_true rfl) (by omega) (fun hp4 ht5 => ?_) (fun hp4 wa ht5 hTw => ?_)
  · refine r_astoreN (pc := 10) (lv' := [(4, .null), (0, .ref a), (1, .int (iv x1)), (2, .int (iv x2)), (3, .int (iv x3))]) dX11_way_10 (by decide) rfl ?_
    refine r_aloadN (pc := 12) dX11_way_12 rfl ?_
    refine r_ifnonnullN (pc := 14) dX11_way_14 ?_
    refine r_aload_n (pc := 17) dX11_way_17 (i := 0) rfl rfl ?_
    refine r_aload_n (pc := 18) dX11_way_18 (i := 0) rfl rfl ?_
    refine r_iload_n (pc := 19) dX11_way_19 (i := 1) rfl rfl ?_
    obtain ⟨fs10, hfs10⟩ := t_obj ht5 (rd_of CG_0)
    refine r_callV (pc := 20) (as := [.int (iv x1)]) (st := [.ref a]) kX11_110 rfl dX11_way_20 hfs10 (s_X11_whyNot (d := d - 1) (x1 := x1) (by omega)  ht5 (by omega) hk) rfl (by omega) (Nat.le_of_ble_eq_true rfl) (Nat.zero_le _) (Nat.zero_le _) rfl (fun r7 hp6 n8 hq9 => ?_)
    obtain ⟨hnn8, bb_12, ht11, hrr7, hhq90⟩ := hq9
    subst n8 r7
    have hhq90 : -2 ≤ bb_12 ∧ bb_12 ≤ -1 := hhq90
    change Rn _ _ _ 23 _ [.int (iv bb_12), .ref a] _ _ _ _ _
    obtain ⟨fs17, hfs17⟩ := t_obj ht11 (rd_of CG_0)
    refine r_callV (pc := 23) (as := [.int (iv bb_12)]) (st := []) kX11_203 rfl dX11_way_23 hfs17 (s_X11_deny (d := d - 1) (x1 := bb_12) (by omega)  ht11 (by omega)) rfl (by omega) (Nat.le_of_ble_eq_true rfl) (Nat.zero_le _) (Nat.zero_le _) rfl (fun r14 hp13 n15 hq16 => ?_)
    obtain ⟨hnn15, ht18, hrr14⟩ := hq16
    subst n15 r14
    change Rn _ _ _ 26 _ [.int (iv 0)] _ _ _ _ _
    refine r_i2l (pc := 26) (v := (iv 0).toInt64) dX11_way_26 rfl ?_
    exact r_lret (pc := 27) dX11_way_27 rfl ⟨by omega, Γ, ct, bb_12, th, kn, kd, ka, kf, kt, kw, kc, (Ext_refl Γ), ht18, hk, by omega, ⟨_, rfl⟩⟩
  · obtain ⟨wn, hw, hltw⟩ := id hTw
    obtain ⟨hw_O, hw_state, hw_worth, hw_length, hw_many, hw_rows, hw_b⟩ := id hw
    refine r_astore (pc := 10) (lv' := [(4, .ref wa), (0, .ref a), (1, .int (iv x1)), (2, .int (iv x2)), (3, .int (iv x3))]) dX11_way_10 (by decide) rfl ?_
    refine r_aload (pc := 12) dX11_way_12 rfl ?_
    refine r_ifnonnull (pc := 14) (tgt := 28) dX11_way_14 (by decide) ?_
    refine r_iload_n (pc := 28) dX11_way_28 (i := 2) rfl rfl ?_
    refine r_aload (pc := 29) dX11_way_29 rfl ?_
    refine t_getE (pc := 31) (.int (iv (wn : Int))) ht5 (rd_CG (by omega) hw_O) fX11_221 dX11_way_31 rfl ?_
    refine t_callSI (pc := 34) (as := [.int (iv x2), .int (iv (wn : Int))]) (st := []) kX11_74 dX11_way_34 (t_X11_isNode (d := d - 1) (x0 := x2) (x1 := (wn : Int)) (by omega)   ht5 (by omega) (by omega) ) rfl (by omega) (Nat.le_of_ble_eq_true rfl) rfl (fun hp19 y21 ht20 by21 => ?_)
    obtain ⟨by211, by212⟩ := by21
    refine t_if_eq (pc := 37) (tgt := 49) dX11_way_37 (by decide) (by omega) (fun c37 => ?_) (fun c37 => ?_)
    · refine r_aload_n (pc := 49) dX11_way_49 (i := 0) rfl rfl ?_
      refine r_bipush (pc := 50) (v := iv (-3)) dX11_way_50 (by decide) ?_
      obtain ⟨fs26, hfs26⟩ := t_obj ht20 (rd_of CG_0)
      refine r_callV (pc := 52) (as := [.int (iv (-3))]) (st := []) kX11_203 rfl dX11_way_52 hfs26 (s_X11_deny (d := d - 1) (x1 := (-3)) (by omega)  ht20 (by omega)) rfl (by omega) (Nat.le_of_ble_eq_true rfl) (Nat.zero_le _) (Nat.zero_le _) rfl (fun r23 hp22 n24 hq25 => ?_)
      obtain ⟨hnn24, ht27, hrr23⟩ := hq25
      subst n24 r23
      change Rn _ _ _ 55 _ [.int (iv 0)] _ _ _ _ _
      refine r_i2l (pc := 55) (v := (iv 0).toInt64) dX11_way_55 rfl ?_
      exact r_lret (pc := 56) dX11_way_56 rfl ⟨by omega, Γ, ct, (-3), th, kn, kd, ka, kf, kt, kw, kc, (Ext_refl Γ), ht27, hk, by omega, ⟨_, rfl⟩⟩
    · refine r_iload_n (pc := 40) dX11_way_40 (i := 3) rfl rfl ?_
      refine t_if_lt (pc := 41) (tgt := 49) dX11_way_41 (by decide) (by omega) (fun c41 => ?_) (fun c41 => ?_)
      · refine r_aload_n (pc := 49) dX11_way_49 (i := 0) rfl rfl ?_
        refine r_bipush (pc := 50) (v := iv (-3)) dX11_way_50 (by decide) ?_
        obtain ⟨fs32, hfs32⟩ := t_obj ht20 (rd_of CG_0)
        refine r_callV (pc := 52) (as := [.int (iv (-3))]) (st := []) kX11_203 rfl dX11_way_52 hfs32 (s_X11_deny (d := d - 1) (x1 := (-3)) (by omega)  ht20 (by omega)) rfl (by omega) (Nat.le_of_ble_eq_true rfl) (Nat.zero_le _) (Nat.zero_le _) rfl (fun r29 hp28 n30 hq31 => ?_)
        obtain ⟨hnn30, ht33, hrr29⟩ := hq31
        subst n30 r29
        change Rn _ _ _ 55 _ [.int (iv 0)] _ _ _ _ _
        refine r_i2l (pc := 55) (v := (iv 0).toInt64) dX11_way_55 rfl ?_
        exact r_lret (pc := 56) dX11_way_56 rfl ⟨by omega, Γ, ct, (-3), th, kn, kd, ka, kf, kt, kw, kc, (Ext_refl Γ), ht33, hk, by omega, ⟨_, rfl⟩⟩
      · refine r_iload_n (pc := 44) dX11_way_44 (i := 3) rfl rfl ?_
        refine r_iconst (pc := 45) (v := iv 3) dX11_way_45 (by decide) ?_
        refine t_icmp_le (pc := 46) (tgt := 57) dX11_way_46 (by decide) (by omega) (by omega) (fun c46 => ?_) (fun c46 => ?_)
        · refine r_aload (pc := 57) dX11_way_57 rfl ?_
          refine r_iload_n (pc := 59) dX11_way_59 (i := 2) rfl rfl ?_
          refine r_iload_n (pc := 60) dX11_way_60 (i := 3) rfl rfl ?_
          refine t_callVJ (pc := 61) (as := [.int (iv x2), .int (iv x3)]) (st := []) ht20 (rd_CG (by omega) hw_O) kX11_222 rfl dX11_way_61 (t_X10_detail (d := d - 1) (x1 := x2) (x2 := x3) (by omega) (rd_CG (by omega) hw_O) (rd_CG (by omega) hw_state) (rd_CG (by omega) hw_worth) (rd_CG (by omega) hw_length) (rd_CG (by omega) hw_many) (rd_CG (by omega) hw_rows) hw_b ht20 (by omega) (by omega)) rfl (by omega) (Nat.le_of_ble_eq_true rfl) rfl (fun hp35 y34 ht36 _ => ?_)
          exact r_lret (pc := 64) dX11_way_64 rfl ⟨by omega, Γ, ct, 0, th, kn, kd, ka, kf, kt, kw, kc, (Ext_refl Γ), ht36, hk, by omega, ⟨_, rfl⟩⟩
        · refine r_aload_n (pc := 49) dX11_way_49 (i := 0) rfl rfl ?_
          refine r_bipush (pc := 50) (v := iv (-3)) dX11_way_50 (by decide) ?_
          obtain ⟨fs41, hfs41⟩ := t_obj ht20 (rd_of CG_0)
          refine r_callV (pc := 52) (as := [.int (iv (-3))]) (st := []) kX11_203 rfl dX11_way_52 hfs41 (s_X11_deny (d := d - 1) (x1 := (-3)) (by omega)  ht20 (by omega)) rfl (by omega) (Nat.le_of_ble_eq_true rfl) (Nat.zero_le _) (Nat.zero_le _) rfl (fun r38 hp37 n39 hq40 => ?_)
          obtain ⟨hnn39, ht42, hrr38⟩ := hq40
          subst n39 r38
          change Rn _ _ _ 55 _ [.int (iv 0)] _ _ _ _ _
          refine r_i2l (pc := 55) (v := (iv 0).toInt64) dX11_way_55 rfl ?_
          exact r_lret (pc := 56) dX11_way_56 rfl ⟨by omega, Γ, ct, (-3), th, kn, kd, ka, kf, kt, kw, kc, (Ext_refl Γ), ht42, hk, by omega, ⟨_, rfl⟩⟩
set_option maxHeartbeats 4000000 in
set_option maxRecDepth 100000 in
theorem e_X11_step {D : va_G} {cI cJ cZ cT : ClassId} {lo b L : Nat} {xs : Nat → Int32} {hp : MH} {n d : Nat} {Γ : TG} {a : Nat} {ct : Int} {rv : Int} {th : Nat → Option Nat} {dn : Int} {dd : Int} {da : Int} {df : Nat → Int} {dt : Nat → Int} {dw : Nat → Int} {dc : Nat → Int} {kn : Int} {kd : Int} {ka : Int} {kf : Nat → Int} {kt : Nat → Int} {kw : Nat → Int} {kc : Nat → Int} {x1 x2 x3 : Int} (hd0 : 4 ≤ d) (hk : EK Γ cI cJ cZ a ct th dn dd da df dt dw dc kn kd ka) (hrv : -2147483648 ≤ rv ∧ rv ≤ 2147483647) (hna : a + 84 ≤ n) (ht : Tw (CG Γ cI cJ cZ cT a ct rv th dn dd da df dt dw dc kn kd ka kf kt kw kc) hp) (hx1 : (-2147483648) ≤ x1 ∧ x1 ≤ 2147483647) (hx2 : (-2147483648) ≤ x2 ∧ x2 ≤ 2147483647) (hx3 : (-2147483648) ≤ x3 ∧ x3 ≤ 2147483647) : Mt (gG D cI cJ cZ cT lo b L xs) mX11_step d 0 0 [.ref a, .int (iv x1), .int (iv x2), .int (iv x3)] hp n (qE Γ cI cJ cZ cT a dn dd da df dt dw dc n (qI (-2147483648) 2147483647)) := by
  refine Mt.of rfl (Nat.le_of_ble_eq_true rfl) ?_
  refine Rn.pick (lv' := [(0, .ref a), (1, .int (iv x1)), (2, .int (iv x2)), (3, .int (iv x3))]) [0, 1, 2, 3] rfl ?_
  obtain ⟨hct, hth, ⟨hdn, hdd1, hda, har⟩, ⟨hkn, hkd, hka⟩, hsh, hse, hpr, hfl, hsm⟩ := id hk
  refine r_aload_n (pc := 0) dX11_step_0 (i := 0) rfl rfl ?_
  refine r_iconst (pc := 1) (v := iv 0) dX11_step_1 (by decide) ?_
  refine t_putX (pc := 2) (ty := .int) ht CG_0 fX11_19 tyX11 tyX11_ok nmX11 (by decide +kernel) (Or.inl rfl) dX11_step_2 (Nat.le_of_ble_eq_true rfl) rfl rfl rfl (fun hp1 ht2 => ?_)
  have ht3 := RGw_rv ht2
  refine r_aload_n (pc := 5) dX11_step_5 (i := 0) rfl rfl ?_
  refine r_iload_n (pc := 6) dX11_step_6 (i := 1) rfl rfl ?_
  refine t_waysAt (pc := 7) (x := x1) (st := []) hk ht3 kX11_217 dX11_step_7 (by omega) (Nat.le_of_ble_eq_true rfl) (by omega) (fun hp4 ht5 => ?_) (fun hp4 wa ht5 hTw => ?_)
  · refine r_astoreN (pc := 10) (lv' := [(4, .null), (0, .ref a), (1, .int (iv x1)), (2, .int (iv x2)), (3, .int (iv x3))]) dX11_step_10 (by decide) rfl ?_
    refine r_aloadN (pc := 12) dX11_step_12 rfl ?_
    refine r_ifnonnullN (pc := 14) dX11_step_14 ?_
    refine r_aload_n (pc := 17) dX11_step_17 (i := 0) rfl rfl ?_
    refine r_aload_n (pc := 18) dX11_step_18 (i := 0) rfl rfl ?_
    refine r_iload_n (pc := 19) dX11_step_19 (i := 1) rfl rfl ?_
    obtain ⟨fs10, hfs10⟩ := t_obj ht5 (rd_of CG_0)
    refine r_callV (pc := 20) (as := [.int (iv x1)]) (st := [.ref a]) kX11_110 rfl dX11_step_20 hfs10 (s_X11_whyNot (d := d - 1) (x1 := x1) (by omega)  ht5 (by omega) hk) rfl (by omega) (Nat.le_of_ble_eq_true rfl) (Nat.zero_le _) (Nat.zero_le _) rfl (fun r7 hp6 n8 hq9 => ?_)
    obtain ⟨hnn8, bb_12, ht11, hrr7, hhq90⟩ := hq9
    subst n8 r7
    have hhq90 : -2 ≤ bb_12 ∧ bb_12 ≤ -1 := hhq90
    change Rn _ _ _ 23 _ [.int (iv bb_12), .ref a] _ _ _ _ _
    obtain ⟨fs17, hfs17⟩ := t_obj ht11 (rd_of CG_0)
    refine r_callV (pc := 23) (as := [.int (iv bb_12)]) (st := []) kX11_203 rfl dX11_step_23 hfs17 (s_X11_deny (d := d - 1) (x1 := bb_12) (by omega)  ht11 (by omega)) rfl (by omega) (Nat.le_of_ble_eq_true rfl) (Nat.zero_le _) (Nat.zero_le _) rfl (fun r14 hp13 n15 hq16 => ?_)
    obtain ⟨hnn15, ht18, hrr14⟩ := hq16
    subst n15 r14
    change Rn _ _ _ 26 _ [.int (iv 0)] _ _ _ _ _
    exact r_iret (pc := 26) dX11_step_26 rfl ⟨by omega, Γ, ct, bb_12, th, kn, kd, ka, kf, kt, kw, kc, (Ext_refl Γ), ht18, hk, by omega, ⟨_, rfl, by omega, by omega⟩⟩
  · obtain ⟨wn, hw, hltw⟩ := id hTw
    obtain ⟨hw_O, hw_state, hw_worth, hw_length, hw_many, hw_rows, hw_b⟩ := id hw
    refine r_astore (pc := 10) (lv' := [(4, .ref wa), (0, .ref a), (1, .int (iv x1)), (2, .int (iv x2)), (3, .int (iv x3))]) dX11_step_10 (by decide) rfl ?_
    refine r_aload (pc := 12) dX11_step_12 rfl ?_
    refine r_ifnonnull (pc := 14) (tgt := 27) dX11_step_14 (by decide) ?_
    refine r_iload_n (pc := 27) dX11_step_27 (i := 2) rfl rfl ?_
    refine r_aload (pc := 28) dX11_step_28 rfl ?_
    refine t_getE (pc := 30) (.int (iv (wn : Int))) ht5 (rd_CG (by omega) hw_O) fX11_221 dX11_step_30 rfl ?_
    refine t_callSI (pc := 33) (as := [.int (iv x2), .int (iv (wn : Int))]) (st := []) kX11_74 dX11_step_33 (t_X11_isNode (d := d - 1) (x0 := x2) (x1 := (wn : Int)) (by omega)   ht5 (by omega) (by omega) ) rfl (by omega) (Nat.le_of_ble_eq_true rfl) rfl (fun hp19 y21 ht20 by21 => ?_)
    obtain ⟨by211, by212⟩ := by21
    refine t_if_eq (pc := 36) (tgt := 49) dX11_step_36 (by decide) (by omega) (fun c36 => ?_) (fun c36 => ?_)
    · refine r_aload_n (pc := 49) dX11_step_49 (i := 0) rfl rfl ?_
      refine r_bipush (pc := 50) (v := iv (-3)) dX11_step_50 (by decide) ?_
      obtain ⟨fs26, hfs26⟩ := t_obj ht20 (rd_of CG_0)
      refine r_callV (pc := 52) (as := [.int (iv (-3))]) (st := []) kX11_203 rfl dX11_step_52 hfs26 (s_X11_deny (d := d - 1) (x1 := (-3)) (by omega)  ht20 (by omega)) rfl (by omega) (Nat.le_of_ble_eq_true rfl) (Nat.zero_le _) (Nat.zero_le _) rfl (fun r23 hp22 n24 hq25 => ?_)
      obtain ⟨hnn24, ht27, hrr23⟩ := hq25
      subst n24 r23
      change Rn _ _ _ 55 _ [.int (iv 0)] _ _ _ _ _
      exact r_iret (pc := 55) dX11_step_55 rfl ⟨by omega, Γ, ct, (-3), th, kn, kd, ka, kf, kt, kw, kc, (Ext_refl Γ), ht27, hk, by omega, ⟨_, rfl, by omega, by omega⟩⟩
    · refine r_aload (pc := 39) dX11_step_39 rfl ?_
      refine r_iload_n (pc := 41) dX11_step_41 (i := 2) rfl rfl ?_
      refine r_iload_n (pc := 42) dX11_step_42 (i := 3) rfl rfl ?_
      refine t_callVR (pc := 43) (as := [.int (iv x2), .int (iv x3)]) (st := []) ht20 (rd_CG (by omega) hw_O) kX11_225 rfl dX11_step_43 (t_X10_arcOnWay (d := d - 1) (x1 := x2) (x2 := x3) (by omega) (rd_CG (by omega) hw_O) (rd_CG (by omega) hw_state) (rd_CG (by omega) hw_worth) (rd_CG (by omega) hw_length) (rd_CG (by omega) hw_many) (rd_CG (by omega) hw_rows) hw_b ht20 (by omega) (by omega)) rfl (by omega) (Nat.le_of_ble_eq_true rfl) rfl (fun hp29 y28 ht30 by28 => ?_)
      refine r_goto (pc := 46) (tgt := 55) dX11_step_46 (by decide) ?_
      exact r_iret (pc := 55) dX11_step_55 rfl ⟨by omega, Γ, ct, 0, th, kn, kd, ka, kf, kt, kw, kc, (Ext_refl Γ), ht30, hk, by omega, ⟨_, rfl, by omega, by omega⟩⟩
set_option maxHeartbeats 4000000 in
set_option maxRecDepth 100000 in
theorem e_X11_part {D : va_G} {cI cJ cZ cT : ClassId} {lo b L : Nat} {xs : Nat → Int32} {hp : MH} {n d : Nat} {Γ : TG} {a : Nat} {ct : Int} {rv : Int} {th : Nat → Option Nat} {dn : Int} {dd : Int} {da : Int} {df : Nat → Int} {dt : Nat → Int} {dw : Nat → Int} {dc : Nat → Int} {kn : Int} {kd : Int} {ka : Int} {kf : Nat → Int} {kt : Nat → Int} {kw : Nat → Int} {kc : Nat → Int} {x1 x2 : Int} (hd0 : 4 ≤ d) (hk : EK Γ cI cJ cZ a ct th dn dd da df dt dw dc kn kd ka) (hrv : -2147483648 ≤ rv ∧ rv ≤ 2147483647) (hna : a + 84 ≤ n) (ht : Tw (CG Γ cI cJ cZ cT a ct rv th dn dd da df dt dw dc kn kd ka kf kt kw kc) hp) (hx1 : (-2147483648) ≤ x1 ∧ x1 ≤ 2147483647) (hx2 : (-2147483648) ≤ x2 ∧ x2 ≤ 2147483647) : Mt (gG D cI cJ cZ cT lo b L xs) mX11_part d 0 0 [.ref a, .int (iv x1), .int (iv x2)] hp n (qE Γ cI cJ cZ cT a dn dd da df dt dw dc n (qI (-2147483648) 2147483647)) := by
  refine Mt.of rfl (Nat.le_of_ble_eq_true rfl) ?_
  refine Rn.pick (lv' := [(0, .ref a), (1, .int (iv x1)), (2, .int (iv x2))]) [0, 1, 2] rfl ?_
  obtain ⟨hct, hth, ⟨hdn, hdd1, hda, har⟩, ⟨hkn, hkd, hka⟩, hsh, hse, hpr, hfl, hsm⟩ := id hk
  refine r_aload_n (pc := 0) dX11_part_0 (i := 0) rfl rfl ?_
  refine r_iconst (pc := 1) (v := iv 0) dX11_part_1 (by decide) ?_
  refine t_putX (pc := 2) (ty := .int) ht CG_0 fX11_19 tyX11 tyX11_ok nmX11 (by decide +kernel) (Or.inl rfl) dX11_part_2 (Nat.le_of_ble_eq_true rfl) rfl rfl rfl (fun hp1 ht2 => ?_)
  have ht3 := RGw_rv ht2
  refine r_aload_n (pc := 5) dX11_part_5 (i := 0) rfl rfl ?_
  refine r_iload_n (pc := 6) dX11_part_6 (i := 1) rfl rfl ?_
  refine t_partsAt (pc := 7) (x := x1) (st := []) hk ht3 kX11_140 dX11_part_7 (by omega) (Nat.le_of_ble_eq_true rfl) (by omega) (fun hp4 ht5 => ?_) (fun hp4 ra ht5 hTr => ?_)
  · refine r_astore_nN (pc := 10) (lv' := [(3, .null), (0, .ref a), (1, .int (iv x1)), (2, .int (iv x2))]) dX11_part_10 (i := 3) rfl (by decide) rfl ?_
    refine r_aload_nN (pc := 11) dX11_part_11 (i := 3) rfl rfl ?_
    refine r_ifnonnullN (pc := 12) dX11_part_12 ?_
    refine r_aload_n (pc := 15) dX11_part_15 (i := 0) rfl rfl ?_
    refine r_aload_n (pc := 16) dX11_part_16 (i := 0) rfl rfl ?_
    refine r_iload_n (pc := 17) dX11_part_17 (i := 1) rfl rfl ?_
    obtain ⟨fs10, hfs10⟩ := t_obj ht5 (rd_of CG_0)
    refine r_callV (pc := 18) (as := [.int (iv x1)]) (st := [.ref a]) kX11_110 rfl dX11_part_18 hfs10 (s_X11_whyNot (d := d - 1) (x1 := x1) (by omega)  ht5 (by omega) hk) rfl (by omega) (Nat.le_of_ble_eq_true rfl) (Nat.zero_le _) (Nat.zero_le _) rfl (fun r7 hp6 n8 hq9 => ?_)
    obtain ⟨hnn8, bb_12, ht11, hrr7, hhq90⟩ := hq9
    subst n8 r7
    have hhq90 : -2 ≤ bb_12 ∧ bb_12 ≤ -1 := hhq90
    change Rn _ _ _ 21 _ [.int (iv bb_12), .ref a] _ _ _ _ _
    obtain ⟨fs17, hfs17⟩ := t_obj ht11 (rd_of CG_0)
    refine r_callV (pc := 21) (as := [.int (iv bb_12)]) (st := []) kX11_203 rfl dX11_part_21 hfs17 (s_X11_deny (d := d - 1) (x1 := bb_12) (by omega)  ht11 (by omega)) rfl (by omega) (Nat.le_of_ble_eq_true rfl) (Nat.zero_le _) (Nat.zero_le _) rfl (fun r14 hp13 n15 hq16 => ?_)
    obtain ⟨hnn15, ht18, hrr14⟩ := hq16
    subst n15 r14
    change Rn _ _ _ 24 _ [.int (iv 0)] _ _ _ _ _
    exact r_iret (pc := 24) dX11_part_24 rfl ⟨by omega, Γ, ct, bb_12, th, kn, kd, ka, kf, kt, kw, kc, (Ext_refl Γ), ht18, hk, by omega, ⟨_, rfl, by omega, by omega⟩⟩
  · obtain ⟨rN, rO, rn, rz, hr, hltr⟩ := id hTr
    obtain ⟨hr_O, hr_number, hr_nodesOf, hr_b⟩ := id hr
    refine r_astore_n (pc := 10) (lv' := [(3, .ref ra), (0, .ref a), (1, .int (iv x1)), (2, .int (iv x2))]) dX11_part_10 (i := 3) rfl (by decide) rfl ?_
    refine r_aload_n (pc := 11) dX11_part_11 (i := 3) rfl rfl ?_
    refine r_ifnonnull (pc := 12) (tgt := 25) dX11_part_12 (by decide) ?_
    refine r_iload_n (pc := 25) dX11_part_25 (i := 2) rfl rfl ?_
    refine r_iconst (pc := 26) (v := iv (-1)) dX11_part_26 (by decide) ?_
    refine t_icmp_ne (pc := 27) (tgt := 35) dX11_part_27 (by decide) (by omega) (by omega) (fun c27 => ?_) (fun c27 => ?_)
    · refine r_iload_n (pc := 35) dX11_part_35 (i := 2) rfl rfl ?_
      refine r_aload_n (pc := 36) dX11_part_36 (i := 3) rfl rfl ?_
      refine t_getE (pc := 37) (.int (iv (rn : Int))) ht5 (rd_CG (by omega) hr_O) fX11_144 dX11_part_37 rfl ?_
      refine t_callSI (pc := 40) (as := [.int (iv x2), .int (iv (rn : Int))]) (st := []) kX11_74 dX11_part_40 (t_X11_isNode (d := d - 1) (x0 := x2) (x1 := (rn : Int)) (by omega)   ht5 (by omega) (by omega) ) rfl (by omega) (Nat.le_of_ble_eq_true rfl) rfl (fun hp19 y21 ht20 by21 => ?_)
      obtain ⟨by211, by212⟩ := by21
      refine t_if_eq (pc := 43) (tgt := 55) dX11_part_43 (by decide) (by omega) (fun c43 => ?_) (fun c43 => ?_)
      · refine r_aload_n (pc := 55) dX11_part_55 (i := 0) rfl rfl ?_
        refine r_bipush (pc := 56) (v := iv (-3)) dX11_part_56 (by decide) ?_
        obtain ⟨fs26, hfs26⟩ := t_obj ht20 (rd_of CG_0)
        refine r_callV (pc := 58) (as := [.int (iv (-3))]) (st := []) kX11_203 rfl dX11_part_58 hfs26 (s_X11_deny (d := d - 1) (x1 := (-3)) (by omega)  ht20 (by omega)) rfl (by omega) (Nat.le_of_ble_eq_true rfl) (Nat.zero_le _) (Nat.zero_le _) rfl (fun r23 hp22 n24 hq25 => ?_)
        obtain ⟨hnn24, ht27, hrr23⟩ := hq25
        subst n24 r23
        change Rn _ _ _ 61 _ [.int (iv 0)] _ _ _ _ _
        exact r_iret (pc := 61) dX11_part_61 rfl ⟨by omega, Γ, ct, (-3), th, kn, kd, ka, kf, kt, kw, kc, (Ext_refl Γ), ht27, hk, by omega, ⟨_, rfl, by omega, by omega⟩⟩
      · refine r_aload_n (pc := 46) dX11_part_46 (i := 3) rfl rfl ?_
        refine t_getE (pc := 47) (.ref rN) ht20 (rd_CG (by omega) hr_O) fX11_231 dX11_part_47 rfl ?_
        refine r_iload_n (pc := 50) dX11_part_50 (i := 2) rfl rfl ?_
        refine t_ialdR (pc := 51) (t0 := 0) ht20 (rd_CG (by omega) hr_number) dX11_part_51 rfl (by omega) (by omega) (fun y28 by28 => ?_)
        refine r_goto (pc := 52) (tgt := 61) dX11_part_52 (by decide) ?_
        exact r_iret (pc := 61) dX11_part_61 rfl ⟨by omega, Γ, ct, 0, th, kn, kd, ka, kf, kt, kw, kc, (Ext_refl Γ), ht20, hk, by omega, ⟨_, rfl, by omega, by omega⟩⟩
    · refine r_aload_n (pc := 30) dX11_part_30 (i := 3) rfl rfl ?_
      refine t_getE (pc := 31) (.int (iv (rz : Int))) ht5 (rd_CG (by omega) hr_O) fX11_228 dX11_part_31 rfl ?_
      exact r_iret (pc := 34) dX11_part_34 rfl ⟨by omega, Γ, ct, 0, th, kn, kd, ka, kf, kt, kw, kc, (Ext_refl Γ), ht5, hk, by omega, ⟨_, rfl, by omega, by omega⟩⟩
set_option maxHeartbeats 4000000 in
set_option maxRecDepth 100000 in
theorem e_X11_members {D : va_G} {cI cJ cZ cT : ClassId} {lo b L : Nat} {xs : Nat → Int32} {hp : MH} {n d : Nat} {Γ : TG} {a : Nat} {ct : Int} {rv : Int} {th : Nat → Option Nat} {dn : Int} {dd : Int} {da : Int} {df : Nat → Int} {dt : Nat → Int} {dw : Nat → Int} {dc : Nat → Int} {kn : Int} {kd : Int} {ka : Int} {kf : Nat → Int} {kt : Nat → Int} {kw : Nat → Int} {kc : Nat → Int} {x1 x2 : Int} (hd0 : 4 ≤ d) (hk : EK Γ cI cJ cZ a ct th dn dd da df dt dw dc kn kd ka) (hrv : -2147483648 ≤ rv ∧ rv ≤ 2147483647) (hna : a + 84 ≤ n) (ht : Tw (CG Γ cI cJ cZ cT a ct rv th dn dd da df dt dw dc kn kd ka kf kt kw kc) hp) (hx1 : (-2147483648) ≤ x1 ∧ x1 ≤ 2147483647) (hx2 : (-2147483648) ≤ x2 ∧ x2 ≤ 2147483647) : Mt (gG D cI cJ cZ cT lo b L xs) mX11_members d 0 0 [.ref a, .int (iv x1), .int (iv x2)] hp n (qE Γ cI cJ cZ cT a dn dd da df dt dw dc n (qI (-2147483648) 2147483647)) := by
  refine Mt.of rfl (Nat.le_of_ble_eq_true rfl) ?_
  refine Rn.pick (lv' := [(0, .ref a), (1, .int (iv x1)), (2, .int (iv x2))]) [0, 1, 2] rfl ?_
  obtain ⟨hct, hth, ⟨hdn, hdd1, hda, har⟩, ⟨hkn, hkd, hka⟩, hsh, hse, hpr, hfl, hsm⟩ := id hk
  refine r_aload_n (pc := 0) dX11_members_0 (i := 0) rfl rfl ?_
  refine r_iconst (pc := 1) (v := iv 0) dX11_members_1 (by decide) ?_
  refine t_putX (pc := 2) (ty := .int) ht CG_0 fX11_19 tyX11 tyX11_ok nmX11 (by decide +kernel) (Or.inl rfl) dX11_members_2 (Nat.le_of_ble_eq_true rfl) rfl rfl rfl (fun hp1 ht2 => ?_)
  have ht3 := RGw_rv ht2
  refine r_aload_n (pc := 5) dX11_members_5 (i := 0) rfl rfl ?_
  refine r_iload_n (pc := 6) dX11_members_6 (i := 1) rfl rfl ?_
  refine t_partsAt (pc := 7) (x := x1) (st := []) hk ht3 kX11_140 dX11_members_7 (by omega) (Nat.le_of_ble_eq_true rfl) (by omega) (fun hp4 ht5 => ?_) (fun hp4 ra ht5 hTr => ?_)
  · refine r_astore_nN (pc := 10) (lv' := [(3, .null), (0, .ref a), (1, .int (iv x1)), (2, .int (iv x2))]) dX11_members_10 (i := 3) rfl (by decide) rfl ?_
    refine r_aload_nN (pc := 11) dX11_members_11 (i := 3) rfl rfl ?_
    refine r_ifnonnullN (pc := 12) dX11_members_12 ?_
    refine r_aload_n (pc := 15) dX11_members_15 (i := 0) rfl rfl ?_
    refine r_aload_n (pc := 16) dX11_members_16 (i := 0) rfl rfl ?_
    refine r_iload_n (pc := 17) dX11_members_17 (i := 1) rfl rfl ?_
    obtain ⟨fs10, hfs10⟩ := t_obj ht5 (rd_of CG_0)
    refine r_callV (pc := 18) (as := [.int (iv x1)]) (st := [.ref a]) kX11_110 rfl dX11_members_18 hfs10 (s_X11_whyNot (d := d - 1) (x1 := x1) (by omega)  ht5 (by omega) hk) rfl (by omega) (Nat.le_of_ble_eq_true rfl) (Nat.zero_le _) (Nat.zero_le _) rfl (fun r7 hp6 n8 hq9 => ?_)
    obtain ⟨hnn8, bb_12, ht11, hrr7, hhq90⟩ := hq9
    subst n8 r7
    have hhq90 : -2 ≤ bb_12 ∧ bb_12 ≤ -1 := hhq90
    change Rn _ _ _ 21 _ [.int (iv bb_12), .ref a] _ _ _ _ _
    obtain ⟨fs17, hfs17⟩ := t_obj ht11 (rd_of CG_0)
    refine r_callV (pc := 21) (as := [.int (iv bb_12)]) (st := []) kX11_203 rfl dX11_members_21 hfs17 (s_X11_deny (d := d - 1) (x1 := bb_12) (by omega)  ht11 (by omega)) rfl (by omega) (Nat.le_of_ble_eq_true rfl) (Nat.zero_le _) (Nat.zero_le _) rfl (fun r14 hp13 n15 hq16 => ?_)
    obtain ⟨hnn15, ht18, hrr14⟩ := hq16
    subst n15 r14
    change Rn _ _ _ 24 _ [.int (iv 0)] _ _ _ _ _
    exact r_iret (pc := 24) dX11_members_24 rfl ⟨by omega, Γ, ct, bb_12, th, kn, kd, ka, kf, kt, kw, kc, (Ext_refl Γ), ht18, hk, by omega, ⟨_, rfl, by omega, by omega⟩⟩
  · obtain ⟨rN, rO, rn, rz, hr, hltr⟩ := id hTr
    obtain ⟨hr_O, hr_number, hr_nodesOf, hr_b⟩ := id hr
    refine r_astore_n (pc := 10) (lv' := [(3, .ref ra), (0, .ref a), (1, .int (iv x1)), (2, .int (iv x2))]) dX11_members_10 (i := 3) rfl (by decide) rfl ?_
    refine r_aload_n (pc := 11) dX11_members_11 (i := 3) rfl rfl ?_
    refine r_ifnonnull (pc := 12) (tgt := 25) dX11_members_12 (by decide) ?_
    refine r_iload_n (pc := 25) dX11_members_25 (i := 2) rfl rfl ?_
    refine r_aload_n (pc := 26) dX11_members_26 (i := 3) rfl rfl ?_
    refine t_getE (pc := 27) (.int (iv (rz : Int))) ht5 (rd_CG (by omega) hr_O) fX11_228 dX11_members_27 rfl ?_
    refine t_callSI (pc := 30) (as := [.int (iv x2), .int (iv (rz : Int))]) (st := []) kX11_74 dX11_members_30 (t_X11_isNode (d := d - 1) (x0 := x2) (x1 := (rz : Int)) (by omega)   ht5 (by omega) (by omega) ) rfl (by omega) (Nat.le_of_ble_eq_true rfl) rfl (fun hp19 y21 ht20 by21 => ?_)
    obtain ⟨by211, by212⟩ := by21
    refine t_if_eq (pc := 33) (tgt := 45) dX11_members_33 (by decide) (by omega) (fun c33 => ?_) (fun c33 => ?_)
    · refine r_iconst (pc := 45) (v := iv 0) dX11_members_45 (by decide) ?_
      exact r_iret (pc := 46) dX11_members_46 rfl ⟨by omega, Γ, ct, 0, th, kn, kd, ka, kf, kt, kw, kc, (Ext_refl Γ), ht20, hk, by omega, ⟨_, rfl, by omega, by omega⟩⟩
    · refine r_aload_n (pc := 36) dX11_members_36 (i := 3) rfl rfl ?_
      refine t_getE (pc := 37) (.ref rO) ht20 (rd_CG (by omega) hr_O) fX11_235 dX11_members_37 rfl ?_
      refine r_iload_n (pc := 40) dX11_members_40 (i := 2) rfl rfl ?_
      refine t_ialdR (pc := 41) (t0 := 0) ht20 (rd_CG (by omega) hr_nodesOf) dX11_members_41 rfl (by omega) (by omega) (fun y22 by22 => ?_)
      refine r_goto (pc := 42) (tgt := 46) dX11_members_42 (by decide) ?_
      exact r_iret (pc := 46) dX11_members_46 rfl ⟨by omega, Γ, ct, 0, th, kn, kd, ka, kf, kt, kw, kc, (Ext_refl Γ), ht20, hk, by omega, ⟨_, rfl, by omega, by omega⟩⟩
set_option maxHeartbeats 4000000 in
set_option maxRecDepth 100000 in
theorem e_X11_answer {D : va_G} {cI cJ cZ cT : ClassId} {lo b L : Nat} {xs : Nat → Int32} {hp : MH} {n d : Nat} {Γ : TG} {a : Nat} {ct : Int} {rv : Int} {th : Nat → Option Nat} {dn : Int} {dd : Int} {da : Int} {df : Nat → Int} {dt : Nat → Int} {dw : Nat → Int} {dc : Nat → Int} {kn : Int} {kd : Int} {ka : Int} {kf : Nat → Int} {kt : Nat → Int} {kw : Nat → Int} {kc : Nat → Int} {ga : Nat} {gF : Nat} {gT : Nat} {gW : Nat} {gC : Nat} {gTl : Nat} {gHd : Nat} {gBy : Nat} {gOu : Nat} {gIn : Nat} {gJo : Nat} {gn : Nat} {gm : Nat} {gq : Nat} {gdr : Int} {x2 x3 x4 : Int} (hd0 : 22 ≤ d) (hk : EK Γ cI cJ cZ a ct th dn dd da df dt dw dc kn kd ka) (hg : TyG Γ cI cJ cZ ga gF gT gW gC gTl gHd gBy gOu gIn gJo gn gm gq gdr) (hltg : a + 84 ≤ ga ∧ a + 84 ≤ gF ∧ a + 84 ≤ gT ∧ a + 84 ≤ gW ∧ a + 84 ≤ gC ∧ a + 84 ≤ gTl ∧ a + 84 ≤ gHd ∧ a + 84 ≤ gBy ∧ a + 84 ≤ gOu ∧ a + 84 ≤ gIn ∧ a + 84 ≤ gJo) (hq : (x2 = 0 ∨ x2 = 2 → 0 ≤ x3 ∧ x3 < (gn : Int)) ∧ (x2 = 11 → 0 ≤ x3 ∧ x3 < (gm : Int)) ∧ (12 ≤ x2 ∧ x2 ≤ 15 → 0 ≤ x3 ∧ x3 < (gn : Int) ∧ 0 ≤ x4 ∧ x4 < (gn : Int))) (ht : Tw (CG Γ cI cJ cZ cT a ct rv th dn dd da df dt dw dc kn kd ka kf kt kw kc) hp) (hx2 : 0 ≤ x2 ∧ x2 ≤ 15) (hx3 : -2147483648 ≤ x3 ∧ x3 ≤ 2147483647) (hx4 : -2147483648 ≤ x4 ∧ x4 ≤ 2147483647) : Mt (gG D cI cJ cZ cT lo b L xs) mX11_answer d 1 16 [.ref a, .ref ga, .int (iv x2), .int (iv x3), .int (iv x4)] hp n (pJu (CG Γ cI cJ cZ cT a ct rv th dn dd da df dt dw dc kn kd ka kf kt kw kc) n) := by
  refine Mt.of rfl (Nat.le_of_ble_eq_true rfl) ?_
  refine Rn.pick (lv' := [(0, .ref a), (1, .ref ga), (2, .int (iv x2)), (3, .int (iv x3)), (4, .int (iv x4))]) [0, 1, 2, 3, 4] rfl ?_
  obtain ⟨hct, hth, ⟨hdn, hdd1, hda, har⟩, ⟨hkn, hkd, hka⟩, hsh, hse, hpr, hfl, hsm⟩ := id hk
  obtain ⟨hg_O, hg_from, hg_to, hg_weight, hg_cost, hg_tail, hg_head, hg_by, hg_out, hg_in, hg_joined, hg_b⟩ := id hg
  refine r_iload_n (pc := 0) dX11_answer_0 (i := 2) rfl rfl ?_
  by_cases c1 : x2 = 0
  · refine r_tableIn (pc := 1) (off := 75) (tgt := 76) dX11_answer_1 (by rw [iv_toInt (by omega) (by omega)]; omega) (by rw [iv_toInt (by omega) (by omega)]; omega) (by rw [iv_toInt (by omega) (by omega), c1]; decide) (by decide) ?_
    refine r_aload_n (pc := 76) dX11_answer_76 (i := 1) rfl rfl ?_
    refine r_iload_n (pc := 77) dX11_answer_77 (i := 3) rfl rfl ?_
    refine t_callSR (pc := 78) (as := [.ref ga, .int (iv x3)]) (st := []) kX11_259 dX11_answer_78 (t_X8_order (d := d - 1) (x1 := x3) (by omega) (TyG.cg (by omega) hg)  ht (by omega) ) rfl (by omega) (Nat.le_of_ble_eq_true rfl) rfl (fun hp2 y4 ht3 by4 => ?_)
    refine r_i2l (pc := 81) (v := (iv y4).toInt64) dX11_answer_81 rfl ?_
    exact r_lret (pc := 82) dX11_answer_82 rfl ⟨by omega, ht3, _, rfl⟩
  by_cases c5 : x2 = 1
  · refine r_tableIn (pc := 1) (off := 82) (tgt := 83) dX11_answer_1 (by rw [iv_toInt (by omega) (by omega)]; omega) (by rw [iv_toInt (by omega) (by omega)]; omega) (by rw [iv_toInt (by omega) (by omega), c5]; decide) (by decide) ?_
    refine r_aload_n (pc := 83) dX11_answer_83 (i := 1) rfl rfl ?_
    refine r_callS (pc := 84) (as := [.ref ga]) (st := []) kX11_263 dX11_answer_84 (t_X8_ring (d := d - 1) (by omega) (TyG.cg (by omega) hg) ht) rfl (by omega) (Nat.le_of_ble_eq_true rfl) (by omega) (by omega) rfl (fun r6 hp7 n8 hq9 => ?_)
    obtain ⟨hnn8, ht10, y11, hrr6, bly11, bhy11⟩ := hq9
    subst r6
    change Rn _ _ _ 87 _ [.int (iv y11)] _ _ _ _ _
    refine r_i2l (pc := 87) (v := (iv y11).toInt64) dX11_answer_87 rfl ?_
    exact r_lret (pc := 88) dX11_answer_88 rfl ⟨by omega, ht10, _, rfl⟩
  by_cases c12 : x2 = 2
  · refine r_tableIn (pc := 1) (off := 88) (tgt := 89) dX11_answer_1 (by rw [iv_toInt (by omega) (by omega)]; omega) (by rw [iv_toInt (by omega) (by omega)]; omega) (by rw [iv_toInt (by omega) (by omega), c12]; decide) (by decide) ?_
    refine r_aload_n (pc := 89) dX11_answer_89 (i := 1) rfl rfl ?_
    refine r_iload_n (pc := 90) dX11_answer_90 (i := 3) rfl rfl ?_
    refine t_callSR (pc := 91) (as := [.ref ga, .int (iv x3)]) (st := []) kX11_267 dX11_answer_91 (t_X8_side (d := d - 1) (x1 := x3) (by omega) (TyG.cg (by omega) hg)  ht (by omega) ) rfl (by omega) (Nat.le_of_ble_eq_true rfl) rfl (fun hp13 y15 ht14 by15 => ?_)
    refine r_i2l (pc := 94) (v := (iv y15).toInt64) dX11_answer_94 rfl ?_
    exact r_lret (pc := 95) dX11_answer_95 rfl ⟨by omega, ht14, _, rfl⟩
  by_cases c16 : x2 = 3
  · refine r_tableIn (pc := 1) (off := 95) (tgt := 96) dX11_answer_1 (by rw [iv_toInt (by omega) (by omega)]; omega) (by rw [iv_toInt (by omega) (by omega)]; omega) (by rw [iv_toInt (by omega) (by omega), c16]; decide) (by decide) ?_
    refine r_aload_n (pc := 96) dX11_answer_96 (i := 0) rfl rfl ?_
    refine t_getE (pc := 97) (.ref (a + 16)) ht (rd_of CG_0) fX11_42 dX11_answer_97 rfl ?_
    refine r_aload_n (pc := 100) dX11_answer_100 (i := 1) rfl rfl ?_
    refine t_callVR (pc := 101) (as := [.ref ga]) (st := []) ht (rd_CG (by omega) (rd_of hse.1)) kX11_270 rfl dX11_answer_101 (t_X7_greatestJoined (d := d - 1)  (by omega) (TySets.cg (by omega) hse) (TyG.cg (by omega) hg)  ht  ) rfl (by omega) (Nat.le_of_ble_eq_true rfl) rfl (fun hp17 y19 ht18 by19 => ?_)
    refine r_i2l (pc := 104) (v := (iv y19).toInt64) dX11_answer_104 rfl ?_
    exact r_lret (pc := 105) dX11_answer_105 rfl ⟨by omega, ht18, _, rfl⟩
  by_cases c20 : x2 = 4
  · refine r_tableIn (pc := 1) (off := 105) (tgt := 106) dX11_answer_1 (by rw [iv_toInt (by omega) (by omega)]; omega) (by rw [iv_toInt (by omega) (by omega)]; omega) (by rw [iv_toInt (by omega) (by omega), c20]; decide) (by decide) ?_
    refine r_aload_n (pc := 106) dX11_answer_106 (i := 0) rfl rfl ?_
    refine t_getE (pc := 107) (.ref (a + 16)) ht (rd_of CG_0) fX11_42 dX11_answer_107 rfl ?_
    refine r_aload_n (pc := 110) dX11_answer_110 (i := 1) rfl rfl ?_
    refine t_callVR (pc := 111) (as := [.ref ga]) (st := []) ht (rd_CG (by omega) (rd_of hse.1)) kX11_273 rfl dX11_answer_111 (t_X7_greatestApart (d := d - 1)  (by omega) (TySets.cg (by omega) hse) (TyG.cg (by omega) hg)  ht  ) rfl (by omega) (Nat.le_of_ble_eq_true rfl) rfl (fun hp21 y23 ht22 by23 => ?_)
    refine r_i2l (pc := 114) (v := (iv y23).toInt64) dX11_answer_114 rfl ?_
    exact r_lret (pc := 115) dX11_answer_115 rfl ⟨by omega, ht22, _, rfl⟩
  by_cases c24 : x2 = 5
  · refine r_tableIn (pc := 1) (off := 115) (tgt := 116) dX11_answer_1 (by rw [iv_toInt (by omega) (by omega)]; omega) (by rw [iv_toInt (by omega) (by omega)]; omega) (by rw [iv_toInt (by omega) (by omega), c24]; decide) (by decide) ?_
    refine r_aload_n (pc := 116) dX11_answer_116 (i := 0) rfl rfl ?_
    refine t_getE (pc := 117) (.ref (a + 16)) ht (rd_of CG_0) fX11_42 dX11_answer_117 rfl ?_
    refine r_aload_n (pc := 120) dX11_answer_120 (i := 1) rfl rfl ?_
    refine t_callVR (pc := 121) (as := [.ref ga]) (st := []) ht (rd_CG (by omega) (rd_of hse.1)) kX11_276 rfl dX11_answer_121 (t_X7_colours (d := d - 1)  (by omega) (TySets.cg (by omega) hse) (TyG.cg (by omega) hg)  ht  ) rfl (by omega) (Nat.le_of_ble_eq_true rfl) rfl (fun hp25 y27 ht26 by27 => ?_)
    refine r_i2l (pc := 124) (v := (iv y27).toInt64) dX11_answer_124 rfl ?_
    exact r_lret (pc := 125) dX11_answer_125 rfl ⟨by omega, ht26, _, rfl⟩
  by_cases c28 : x2 = 6
  · refine r_tableIn (pc := 1) (off := 125) (tgt := 126) dX11_answer_1 (by rw [iv_toInt (by omega) (by omega)]; omega) (by rw [iv_toInt (by omega) (by omega)]; omega) (by rw [iv_toInt (by omega) (by omega), c28]; decide) (by decide) ?_
    refine r_aload_n (pc := 126) dX11_answer_126 (i := 0) rfl rfl ?_
    refine t_getE (pc := 127) (.ref (a + 16)) ht (rd_of CG_0) fX11_42 dX11_answer_127 rfl ?_
    refine r_aload_n (pc := 130) dX11_answer_130 (i := 1) rfl rfl ?_
    refine t_callVR (pc := 131) (as := [.ref ga]) (st := []) ht (rd_CG (by omega) (rd_of hse.1)) kX11_279 rfl dX11_answer_131 (t_X7_width (d := d - 1)  (by omega) (TySets.cg (by omega) hse) (TyG.cg (by omega) hg)  ht  ) rfl (by omega) (Nat.le_of_ble_eq_true rfl) rfl (fun hp29 y31 ht30 by31 => ?_)
    refine r_i2l (pc := 134) (v := (iv y31).toInt64) dX11_answer_134 rfl ?_
    exact r_lret (pc := 135) dX11_answer_135 rfl ⟨by omega, ht30, _, rfl⟩
  by_cases c32 : x2 = 7
  · refine r_tableIn (pc := 1) (off := 135) (tgt := 136) dX11_answer_1 (by rw [iv_toInt (by omega) (by omega)]; omega) (by rw [iv_toInt (by omega) (by omega)]; omega) (by rw [iv_toInt (by omega) (by omega), c32]; decide) (by decide) ?_
    refine r_aload_n (pc := 136) dX11_answer_136 (i := 0) rfl rfl ?_
    refine t_getE (pc := 137) (.ref (a + 22)) ht (rd_of CG_0) fX11_49 dX11_answer_137 rfl ?_
    refine r_aload_n (pc := 140) dX11_answer_140 (i := 1) rfl rfl ?_
    obtain ⟨fs39, hfs39⟩ := t_obj ht (rd_CG (by omega) (rd_of hpr.1))
    refine r_callV (pc := 141) (as := [.ref ga]) (st := []) kX11_282 rfl dX11_answer_141 hfs39 (t_X4_greatest (d := d - 1) (s := a + 22) (by omega) (eq_CG (by omega) hpr.1) (eq_CG (by omega) hpr.2.1) (eq_CG (by omega) hpr.2.2.1) (eq_CG (by omega) hpr.2.2.2.1) (eq_CG (by omega) hpr.2.2.2.2) (TyG.cg (by omega) hg) (by omega) ht) rfl (by omega) (Nat.le_of_ble_eq_true rfl) (Nat.zero_le _) (Nat.zero_le _) rfl (fun r33 hp34 n35 hq36 => ?_)
    obtain ⟨hnn35, ht37, y38, hrr33, bly38, bhy38⟩ := hq36
    subst n35 r33
    have ht40 := Tw.weak ht37 (eq_CG (by omega) hpr.2.1) (tI_imp (fun i v _ h => ⟨h.1, Int.le_trans h.2 (by omega)⟩))
    change Rn _ _ _ 144 _ [.int (iv y38)] _ _ _ _ _
    refine r_i2l (pc := 144) (v := (iv y38).toInt64) dX11_answer_144 rfl ?_
    exact r_lret (pc := 145) dX11_answer_145 rfl ⟨by omega, ht40, _, rfl⟩
  by_cases c41 : x2 = 8
  · refine r_tableIn (pc := 1) (off := 145) (tgt := 146) dX11_answer_1 (by rw [iv_toInt (by omega) (by omega)]; omega) (by rw [iv_toInt (by omega) (by omega)]; omega) (by rw [iv_toInt (by omega) (by omega), c41]; decide) (by decide) ?_
    refine r_aload_n (pc := 146) dX11_answer_146 (i := 0) rfl rfl ?_
    refine t_getE (pc := 147) (.ref (a + 22)) ht (rd_of CG_0) fX11_49 dX11_answer_147 rfl ?_
    refine r_aload_n (pc := 150) dX11_answer_150 (i := 1) rfl rfl ?_
    obtain ⟨fs48, hfs48⟩ := t_obj ht (rd_CG (by omega) (rd_of hpr.1))
    refine r_callV (pc := 151) (as := [.ref ga]) (st := []) kX11_285 rfl dX11_answer_151 hfs48 (t_X4_missed (d := d - 1) (s := a + 22) (by omega) (eq_CG (by omega) hpr.1) (eq_CG (by omega) hpr.2.1) (eq_CG (by omega) hpr.2.2.1) (eq_CG (by omega) hpr.2.2.2.1) (eq_CG (by omega) hpr.2.2.2.2) (TyG.cg (by omega) hg) (by omega) ht) rfl (by omega) (Nat.le_of_ble_eq_true rfl) (Nat.zero_le _) (Nat.zero_le _) rfl (fun r42 hp43 n44 hq45 => ?_)
    obtain ⟨hnn44, ht46, y47, hrr42, bly47, bhy47⟩ := hq45
    subst n44 r42
    have ht49 := Tw.weak ht46 (eq_CG (by omega) hpr.2.1) (tI_imp (fun i v _ h => ⟨h.1, Int.le_trans h.2 (by omega)⟩))
    change Rn _ _ _ 154 _ [.int (iv y47)] _ _ _ _ _
    refine r_i2l (pc := 154) (v := (iv y47).toInt64) dX11_answer_154 rfl ?_
    exact r_lret (pc := 155) dX11_answer_155 rfl ⟨by omega, ht49, _, rfl⟩
  by_cases c50 : x2 = 9
  · refine r_tableIn (pc := 1) (off := 155) (tgt := 156) dX11_answer_1 (by rw [iv_toInt (by omega) (by omega)]; omega) (by rw [iv_toInt (by omega) (by omega)]; omega) (by rw [iv_toInt (by omega) (by omega), c50]; decide) (by decide) ?_
    refine r_aload_n (pc := 156) dX11_answer_156 (i := 0) rfl rfl ?_
    refine t_getE (pc := 157) (.ref (a + 14)) ht (rd_of CG_0) fX11_35 dX11_answer_157 rfl ?_
    refine r_aload_n (pc := 160) dX11_answer_160 (i := 1) rfl rfl ?_
    refine t_callVJ (pc := 161) (as := [.ref ga]) (st := []) ht (rd_CG (by omega) (rd_of hsh.1)) kX11_288 rfl dX11_answer_161 (t_X8_trees (d := d - 1)  (by omega) (TyShape.cg (by omega) hsh) (TyG.cg (by omega) hg)  ht  ) rfl (by omega) (Nat.le_of_ble_eq_true rfl) rfl (fun hp51 y53 ht52 _ => ?_)
    exact r_lret (pc := 164) dX11_answer_164 rfl ⟨by omega, ht52, _, rfl⟩
  by_cases c54 : x2 = 10
  · refine r_tableIn (pc := 1) (off := 164) (tgt := 165) dX11_answer_1 (by rw [iv_toInt (by omega) (by omega)]; omega) (by rw [iv_toInt (by omega) (by omega)]; omega) (by rw [iv_toInt (by omega) (by omega), c54]; decide) (by decide) ?_
    refine r_aload_n (pc := 165) dX11_answer_165 (i := 1) rfl rfl ?_
    refine t_callSJN (pc := 166) (as := [.ref ga]) (st := []) kX11_292 dX11_answer_166 (t_X8_lightWeight (d := d - 1)  (by omega) (TyG.cg (by omega) hg)  ht  ) rfl (by omega) (Nat.le_of_ble_eq_true rfl) rfl (by omega) (by omega) (fun hp55 y57 ht56 _ => ?_)
    exact r_lret (pc := 169) dX11_answer_169 rfl ⟨by omega, ht56, _, rfl⟩
  by_cases c58 : x2 = 11
  · refine r_tableIn (pc := 1) (off := 169) (tgt := 170) dX11_answer_1 (by rw [iv_toInt (by omega) (by omega)]; omega) (by rw [iv_toInt (by omega) (by omega)]; omega) (by rw [iv_toInt (by omega) (by omega), c58]; decide) (by decide) ?_
    refine r_aload_n (pc := 170) dX11_answer_170 (i := 1) rfl rfl ?_
    refine t_callSJN (pc := 171) (as := [.ref ga]) (st := []) kX11_295 dX11_answer_171 (t_X8_lightArcs (d := d - 1)  (by omega) (TyG.cg (by omega) hg)  ht  ) rfl (by omega) (Nat.le_of_ble_eq_true rfl) rfl (by omega) (by omega) (fun hp59 y61 ht60 _ => ?_)
    refine r_iload_n (pc := 174) dX11_answer_174 (i := 3) rfl rfl ?_
    refine r_lshr (pc := 175) dX11_answer_175 ?_
    refine r_lconst (pc := 176) (v := 1) dX11_answer_176 (by decide) ?_
    refine r_land (pc := 177) (v := (y61 >>> ((iv x3).toInt64 &&& 63)) &&& (1 : Int64)) dX11_answer_177 rfl ?_
    exact r_lret (pc := 178) dX11_answer_178 rfl ⟨by omega, ht60, _, rfl⟩
  by_cases c62 : x2 = 12
  · refine r_tableIn (pc := 1) (off := 178) (tgt := 179) dX11_answer_1 (by rw [iv_toInt (by omega) (by omega)]; omega) (by rw [iv_toInt (by omega) (by omega)]; omega) (by rw [iv_toInt (by omega) (by omega), c62]; decide) (by decide) ?_
    refine r_aload_n (pc := 179) dX11_answer_179 (i := 0) rfl rfl ?_
    refine t_getE (pc := 180) (.ref (a + 27)) ht (rd_of CG_0) fX11_56 dX11_answer_180 rfl ?_
    refine r_aload_n (pc := 183) dX11_answer_183 (i := 1) rfl rfl ?_
    refine r_iconst (pc := 184) (v := iv 0) dX11_answer_184 (by decide) ?_
    refine r_iload_n (pc := 185) dX11_answer_185 (i := 3) rfl rfl ?_
    refine r_iload (pc := 186) dX11_answer_186 rfl ?_
    refine t_callVJ (pc := 188) (as := [.ref ga, .int (iv 0), .int (iv x3), .int (iv x4)]) (st := []) ht (rd_CG (by omega) (rd_of hfl.1)) kX11_298 rfl dX11_answer_188 (t_X2_most (d := d - 1) (x2 := 0) (x3 := x3) (x4 := x4) (by omega) (TyFlows.cg (by omega) hfl) (TyG.cg (by omega) hg)  ht (by omega) (by omega) (by omega) ) rfl (by omega) (Nat.le_of_ble_eq_true rfl) rfl (fun hp63 y65 ht64 _ => ?_)
    exact r_lret (pc := 191) dX11_answer_191 rfl ⟨by omega, ht64, _, rfl⟩
  by_cases c66 : x2 = 13
  · refine r_tableIn (pc := 1) (off := 191) (tgt := 192) dX11_answer_1 (by rw [iv_toInt (by omega) (by omega)]; omega) (by rw [iv_toInt (by omega) (by omega)]; omega) (by rw [iv_toInt (by omega) (by omega), c66]; decide) (by decide) ?_
    refine r_aload_n (pc := 192) dX11_answer_192 (i := 0) rfl rfl ?_
    refine t_getE (pc := 193) (.ref (a + 27)) ht (rd_of CG_0) fX11_56 dX11_answer_193 rfl ?_
    refine r_aload_n (pc := 196) dX11_answer_196 (i := 1) rfl rfl ?_
    refine r_iload_n (pc := 197) dX11_answer_197 (i := 3) rfl rfl ?_
    refine r_iload (pc := 198) dX11_answer_198 rfl ?_
    refine t_callVR (pc := 200) (as := [.ref ga, .int (iv x3), .int (iv x4)]) (st := []) ht (rd_CG (by omega) (rd_of hfl.1)) kX11_302 rfl dX11_answer_200 (t_X2_cut (d := d - 1) (x2 := x3) (x3 := x4) (by omega) (TyFlows.cg (by omega) hfl) (TyG.cg (by omega) hg)  ht (by omega) (by omega) ) rfl (by omega) (Nat.le_of_ble_eq_true rfl) rfl (fun hp67 y69 ht68 by69 => ?_)
    refine r_i2l (pc := 203) (v := (iv y69).toInt64) dX11_answer_203 rfl ?_
    exact r_lret (pc := 204) dX11_answer_204 rfl ⟨by omega, ht68, _, rfl⟩
  by_cases c70 : x2 = 14
  · refine r_tableIn (pc := 1) (off := 204) (tgt := 205) dX11_answer_1 (by rw [iv_toInt (by omega) (by omega)]; omega) (by rw [iv_toInt (by omega) (by omega)]; omega) (by rw [iv_toInt (by omega) (by omega), c70]; decide) (by decide) ?_
    refine r_aload_n (pc := 205) dX11_answer_205 (i := 0) rfl rfl ?_
    refine t_getE (pc := 206) (.ref (a + 27)) ht (rd_of CG_0) fX11_56 dX11_answer_206 rfl ?_
    refine r_aload_n (pc := 209) dX11_answer_209 (i := 1) rfl rfl ?_
    refine r_iload_n (pc := 210) dX11_answer_210 (i := 3) rfl rfl ?_
    refine r_iload (pc := 211) dX11_answer_211 rfl ?_
    refine t_callVJ (pc := 213) (as := [.ref ga, .int (iv x3), .int (iv x4)]) (st := []) ht (rd_CG (by omega) (rd_of hfl.1)) kX11_306 rfl dX11_answer_213 (t_X2_price (d := d - 1) (x2 := x3) (x3 := x4) (by omega) (TyFlows.cg (by omega) hfl) (TyG.cg (by omega) hg)  ht (by omega) (by omega) ) rfl (by omega) (Nat.le_of_ble_eq_true rfl) rfl (fun hp71 y73 ht72 _ => ?_)
    exact r_lret (pc := 216) dX11_answer_216 rfl ⟨by omega, ht72, _, rfl⟩
  refine r_tableOut (pc := 1) (tgt := 217) dX11_answer_1 (by rw [iv_toInt (by omega) (by omega)]; omega) (by decide) ?_
  refine r_aload_n (pc := 217) dX11_answer_217 (i := 0) rfl rfl ?_
  refine t_getE (pc := 218) (.ref (a + 27)) ht (rd_of CG_0) fX11_56 dX11_answer_218 rfl ?_
  refine r_aload_n (pc := 221) dX11_answer_221 (i := 1) rfl rfl ?_
  refine r_iconst (pc := 222) (v := iv 1) dX11_answer_222 (by decide) ?_
  refine r_iload_n (pc := 223) dX11_answer_223 (i := 3) rfl rfl ?_
  refine r_iload (pc := 224) dX11_answer_224 rfl ?_
  refine t_callVJ (pc := 226) (as := [.ref ga, .int (iv 1), .int (iv x3), .int (iv x4)]) (st := []) ht (rd_CG (by omega) (rd_of hfl.1)) kX11_298 rfl dX11_answer_226 (t_X2_most (d := d - 1) (x2 := 1) (x3 := x3) (x4 := x4) (by omega) (TyFlows.cg (by omega) hfl) (TyG.cg (by omega) hg)  ht (by omega) (by omega) (by omega) ) rfl (by omega) (Nat.le_of_ble_eq_true rfl) rfl (fun hp74 y76 ht75 _ => ?_)
  exact r_lret (pc := 229) dX11_answer_229 rfl ⟨by omega, ht75, _, rfl⟩
set_option maxHeartbeats 4000000 in
set_option maxRecDepth 100000 in
theorem e_X11_askSameness {D : va_G} {cI cJ cZ cT : ClassId} {lo b L : Nat} {xs : Nat → Int32} {hp : MH} {n d : Nat} {Γ : TG} {a : Nat} {ct : Int} {rv : Int} {th : Nat → Option Nat} {dn : Int} {dd : Int} {da : Int} {df : Nat → Int} {dt : Nat → Int} {dw : Nat → Int} {dc : Nat → Int} {kn : Int} {kd : Int} {ka : Int} {kf : Nat → Int} {kt : Nat → Int} {kw : Nat → Int} {kc : Nat → Int} {x1 x2 x3 x4 : Int} (hd0 : 22 ≤ d) (hk : EK Γ cI cJ cZ a ct th dn dd da df dt dw dc kn kd ka) (hrv : -2147483648 ≤ rv ∧ rv ≤ 2147483647) (hna : a + 84 ≤ n) (ht : Tw (CG Γ cI cJ cZ cT a ct rv th dn dd da df dt dw dc kn kd ka kf kt kw kc) hp) (hx1 : (-2147483648) ≤ x1 ∧ x1 ≤ 2147483647) (hx2 : (-2147483648) ≤ x2 ∧ x2 ≤ 2147483647) (hx3 : (-2147483648) ≤ x3 ∧ x3 ≤ 2147483647) (hx4 : (-2147483648) ≤ x4 ∧ x4 ≤ 2147483647) : Mt (gG D cI cJ cZ cT lo b L xs) mX11_askSameness d 0 0 [.ref a, .int (iv x1), .int (iv x2), .int (iv x3), .int (iv x4)] hp n (qE Γ cI cJ cZ cT a dn dd da df dt dw dc n qL) := by
  refine Mt.of rfl (Nat.le_of_ble_eq_true rfl) ?_
  refine Rn.pick (lv' := [(0, .ref a), (1, .int (iv x1)), (2, .int (iv x2)), (3, .int (iv x3)), (4, .int (iv x4))]) [0, 1, 2, 3, 4] rfl ?_
  obtain ⟨hct, hth, ⟨hdn, hdd1, hda, har⟩, ⟨hkn, hkd, hka⟩, hsh, hse, hpr, hfl, hsm⟩ := id hk
  refine r_aload_n (pc := 0) dX11_askSameness_0 (i := 0) rfl rfl ?_
  refine r_iload_n (pc := 1) dX11_askSameness_1 (i := 1) rfl rfl ?_
  refine t_graphAt (pc := 2) (x := x1) (st := []) hk ht kX11_106 dX11_askSameness_2 (by omega) (Nat.le_of_ble_eq_true rfl) (by omega) (fun hp1 ht2 => ?_) (fun hp1 ga ht2 hTg => ?_)
  · refine r_astoreN (pc := 5) (lv' := [(5, .null), (0, .ref a), (1, .int (iv x1)), (2, .int (iv x2)), (3, .int (iv x3)), (4, .int (iv x4))]) dX11_askSameness_5 (by decide) rfl ?_
    refine r_aload_n (pc := 7) dX11_askSameness_7 (i := 0) rfl rfl ?_
    refine r_iload (pc := 8) dX11_askSameness_8 rfl ?_
    refine t_graphAt (pc := 10) (x := x4) (st := []) hk ht2 kX11_106 dX11_askSameness_10 (by omega) (Nat.le_of_ble_eq_true rfl) (by omega) (fun hp3 ht4 => ?_) (fun hp3 ja ht4 hTj => ?_)
    · refine r_astoreN (pc := 13) (lv' := [(6, .null), (5, .null), (0, .ref a), (1, .int (iv x1)), (2, .int (iv x2)), (3, .int (iv x3)), (4, .int (iv x4))]) dX11_askSameness_13 (by decide) rfl ?_
      refine r_aloadN (pc := 15) dX11_askSameness_15 rfl ?_
      refine r_ifnullN (pc := 17) (tgt := 25) dX11_askSameness_17 (by decide) ?_
      refine r_aload_n (pc := 25) dX11_askSameness_25 (i := 0) rfl rfl ?_
      refine r_aload_n (pc := 26) dX11_askSameness_26 (i := 0) rfl rfl ?_
      refine r_iload_n (pc := 27) dX11_askSameness_27 (i := 1) rfl rfl ?_
      refine r_iload (pc := 28) dX11_askSameness_28 rfl ?_
      obtain ⟨fs9, hfs9⟩ := t_obj ht4 (rd_of CG_0)
      refine r_callV (pc := 30) (as := [.int (iv x1), .int (iv x4)]) (st := [.ref a]) kX11_127 rfl dX11_askSameness_30 hfs9 (s_X11_whyNotBoth (d := d - 1) (x1 := x1) (x2 := x4) (by omega)  ht4 (by omega) (by omega) hk) rfl (by omega) (Nat.le_of_ble_eq_true rfl) (Nat.zero_le _) (Nat.zero_le _) rfl (fun r6 hp5 n7 hq8 => ?_)
      obtain ⟨hnn7, bb_11, ht10, hrr6, hhq80⟩ := hq8
      subst n7 r6
      have hhq80 : -2 ≤ bb_11 ∧ bb_11 ≤ -1 := hhq80
      change Rn _ _ _ 33 _ [.int (iv bb_11), .ref a] _ _ _ _ _
      obtain ⟨fs16, hfs16⟩ := t_obj ht10 (rd_of CG_0)
      refine r_callV (pc := 33) (as := [.int (iv bb_11)]) (st := []) kX11_203 rfl dX11_askSameness_33 hfs16 (s_X11_deny (d := d - 1) (x1 := bb_11) (by omega)  ht10 (by omega)) rfl (by omega) (Nat.le_of_ble_eq_true rfl) (Nat.zero_le _) (Nat.zero_le _) rfl (fun r13 hp12 n14 hq15 => ?_)
      obtain ⟨hnn14, ht17, hrr13⟩ := hq15
      subst n14 r13
      change Rn _ _ _ 36 _ [.int (iv 0)] _ _ _ _ _
      refine r_i2l (pc := 36) (v := (iv 0).toInt64) dX11_askSameness_36 rfl ?_
      exact r_lret (pc := 37) dX11_askSameness_37 rfl ⟨by omega, Γ, ct, bb_11, th, kn, kd, ka, kf, kt, kw, kc, (Ext_refl Γ), ht17, hk, by omega, ⟨_, rfl⟩⟩
    · obtain ⟨jF, jT, jW, jC, jTl, jHd, jBy, jOu, jIn, jJo, jn, jm, jq, jdr, oF, oT, oW, oC, oTl, oHd, oBy, oOu, oIn, oJo, hj, hltj, hxj⟩ := id hTj
      obtain ⟨hj_O, hj_from, hj_to, hj_weight, hj_cost, hj_tail, hj_head, hj_by, hj_out, hj_in, hj_joined, hj_b⟩ := id hj
      refine r_astore (pc := 13) (lv' := [(6, .ref ja), (5, .null), (0, .ref a), (1, .int (iv x1)), (2, .int (iv x2)), (3, .int (iv x3)), (4, .int (iv x4))]) dX11_askSameness_13 (by decide) rfl ?_
      refine r_aloadN (pc := 15) dX11_askSameness_15 rfl ?_
      refine r_ifnullN (pc := 17) (tgt := 25) dX11_askSameness_17 (by decide) ?_
      refine r_aload_n (pc := 25) dX11_askSameness_25 (i := 0) rfl rfl ?_
      refine r_aload_n (pc := 26) dX11_askSameness_26 (i := 0) rfl rfl ?_
      refine r_iload_n (pc := 27) dX11_askSameness_27 (i := 1) rfl rfl ?_
      refine r_iload (pc := 28) dX11_askSameness_28 rfl ?_
      obtain ⟨fs22, hfs22⟩ := t_obj ht4 (rd_of CG_0)
      refine r_callV (pc := 30) (as := [.int (iv x1), .int (iv x4)]) (st := [.ref a]) kX11_127 rfl dX11_askSameness_30 hfs22 (s_X11_whyNotBoth (d := d - 1) (x1 := x1) (x2 := x4) (by omega)  ht4 (by omega) (by omega) hk) rfl (by omega) (Nat.le_of_ble_eq_true rfl) (Nat.zero_le _) (Nat.zero_le _) rfl (fun r19 hp18 n20 hq21 => ?_)
      obtain ⟨hnn20, bb_24, ht23, hrr19, hhq210⟩ := hq21
      subst n20 r19
      have hhq210 : -2 ≤ bb_24 ∧ bb_24 ≤ -1 := hhq210
      change Rn _ _ _ 33 _ [.int (iv bb_24), .ref a] _ _ _ _ _
      obtain ⟨fs29, hfs29⟩ := t_obj ht23 (rd_of CG_0)
      refine r_callV (pc := 33) (as := [.int (iv bb_24)]) (st := []) kX11_203 rfl dX11_askSameness_33 hfs29 (s_X11_deny (d := d - 1) (x1 := bb_24) (by omega)  ht23 (by omega)) rfl (by omega) (Nat.le_of_ble_eq_true rfl) (Nat.zero_le _) (Nat.zero_le _) rfl (fun r26 hp25 n27 hq28 => ?_)
      obtain ⟨hnn27, ht30, hrr26⟩ := hq28
      subst n27 r26
      change Rn _ _ _ 36 _ [.int (iv 0)] _ _ _ _ _
      refine r_i2l (pc := 36) (v := (iv 0).toInt64) dX11_askSameness_36 rfl ?_
      exact r_lret (pc := 37) dX11_askSameness_37 rfl ⟨by omega, Γ, ct, bb_24, th, kn, kd, ka, kf, kt, kw, kc, (Ext_refl Γ), ht30, hk, by omega, ⟨_, rfl⟩⟩
  · obtain ⟨gF, gT, gW, gC, gTl, gHd, gBy, gOu, gIn, gJo, gn, gm, gq, gdr, fF, fT, fW, fC, fTl, fHd, fBy, fOu, fIn, fJo, hg, hltg, hxg⟩ := id hTg
    obtain ⟨hg_O, hg_from, hg_to, hg_weight, hg_cost, hg_tail, hg_head, hg_by, hg_out, hg_in, hg_joined, hg_b⟩ := id hg
    refine r_astore (pc := 5) (lv' := [(5, .ref ga), (0, .ref a), (1, .int (iv x1)), (2, .int (iv x2)), (3, .int (iv x3)), (4, .int (iv x4))]) dX11_askSameness_5 (by decide) rfl ?_
    refine r_aload_n (pc := 7) dX11_askSameness_7 (i := 0) rfl rfl ?_
    refine r_iload (pc := 8) dX11_askSameness_8 rfl ?_
    refine t_graphAt (pc := 10) (x := x4) (st := []) hk ht2 kX11_106 dX11_askSameness_10 (by omega) (Nat.le_of_ble_eq_true rfl) (by omega) (fun hp31 ht32 => ?_) (fun hp31 ja ht32 hTj => ?_)
    · refine r_astoreN (pc := 13) (lv' := [(6, .null), (5, .ref ga), (0, .ref a), (1, .int (iv x1)), (2, .int (iv x2)), (3, .int (iv x3)), (4, .int (iv x4))]) dX11_askSameness_13 (by decide) rfl ?_
      refine r_aload (pc := 15) dX11_askSameness_15 rfl ?_
      refine r_ifnull (pc := 17) dX11_askSameness_17 ?_
      refine r_aloadN (pc := 20) dX11_askSameness_20 rfl ?_
      refine r_ifnonnullN (pc := 22) dX11_askSameness_22 ?_
      refine r_aload_n (pc := 25) dX11_askSameness_25 (i := 0) rfl rfl ?_
      refine r_aload_n (pc := 26) dX11_askSameness_26 (i := 0) rfl rfl ?_
      refine r_iload_n (pc := 27) dX11_askSameness_27 (i := 1) rfl rfl ?_
      refine r_iload (pc := 28) dX11_askSameness_28 rfl ?_
      obtain ⟨fs37, hfs37⟩ := t_obj ht32 (rd_of CG_0)
      refine r_callV (pc := 30) (as := [.int (iv x1), .int (iv x4)]) (st := [.ref a]) kX11_127 rfl dX11_askSameness_30 hfs37 (s_X11_whyNotBoth (d := d - 1) (x1 := x1) (x2 := x4) (by omega)  ht32 (by omega) (by omega) hk) rfl (by omega) (Nat.le_of_ble_eq_true rfl) (Nat.zero_le _) (Nat.zero_le _) rfl (fun r34 hp33 n35 hq36 => ?_)
      obtain ⟨hnn35, bb_39, ht38, hrr34, hhq360⟩ := hq36
      subst n35 r34
      have hhq360 : -2 ≤ bb_39 ∧ bb_39 ≤ -1 := hhq360
      change Rn _ _ _ 33 _ [.int (iv bb_39), .ref a] _ _ _ _ _
      obtain ⟨fs44, hfs44⟩ := t_obj ht38 (rd_of CG_0)
      refine r_callV (pc := 33) (as := [.int (iv bb_39)]) (st := []) kX11_203 rfl dX11_askSameness_33 hfs44 (s_X11_deny (d := d - 1) (x1 := bb_39) (by omega)  ht38 (by omega)) rfl (by omega) (Nat.le_of_ble_eq_true rfl) (Nat.zero_le _) (Nat.zero_le _) rfl (fun r41 hp40 n42 hq43 => ?_)
      obtain ⟨hnn42, ht45, hrr41⟩ := hq43
      subst n42 r41
      change Rn _ _ _ 36 _ [.int (iv 0)] _ _ _ _ _
      refine r_i2l (pc := 36) (v := (iv 0).toInt64) dX11_askSameness_36 rfl ?_
      exact r_lret (pc := 37) dX11_askSameness_37 rfl ⟨by omega, Γ, ct, bb_39, th, kn, kd, ka, kf, kt, kw, kc, (Ext_refl Γ), ht45, hk, by omega, ⟨_, rfl⟩⟩
    · obtain ⟨jF, jT, jW, jC, jTl, jHd, jBy, jOu, jIn, jJo, jn, jm, jq, jdr, oF, oT, oW, oC, oTl, oHd, oBy, oOu, oIn, oJo, hj, hltj, hxj⟩ := id hTj
      obtain ⟨hj_O, hj_from, hj_to, hj_weight, hj_cost, hj_tail, hj_head, hj_by, hj_out, hj_in, hj_joined, hj_b⟩ := id hj
      refine r_astore (pc := 13) (lv' := [(6, .ref ja), (5, .ref ga), (0, .ref a), (1, .int (iv x1)), (2, .int (iv x2)), (3, .int (iv x3)), (4, .int (iv x4))]) dX11_askSameness_13 (by decide) rfl ?_
      refine r_aload (pc := 15) dX11_askSameness_15 rfl ?_
      refine r_ifnull (pc := 17) dX11_askSameness_17 ?_
      refine r_aload (pc := 20) dX11_askSameness_20 rfl ?_
      refine r_ifnonnull (pc := 22) (tgt := 38) dX11_askSameness_22 (by decide) ?_
      refine r_iload_n (pc := 38) dX11_askSameness_38 (i := 2) rfl rfl ?_
      refine r_bipush (pc := 39) (v := iv 16) dX11_askSameness_39 (by decide) ?_
      refine t_icmp_ne (pc := 41) (tgt := 64) dX11_askSameness_41 (by decide) (by omega) (by omega) (fun c41 => ?_) (fun c41 => ?_)
      · refine r_iload_n (pc := 64) dX11_askSameness_64 (i := 3) rfl rfl ?_
        refine r_aload (pc := 65) dX11_askSameness_65 rfl ?_
        refine t_getE (pc := 67) (.int (iv (gn : Int))) ht32 (rd_CG (by omega) hg_O) fX11_134 dX11_askSameness_67 rfl ?_
        refine t_callSI (pc := 70) (as := [.int (iv x3), .int (iv (gn : Int))]) (st := []) kX11_74 dX11_askSameness_70 (t_X11_isNode (d := d - 1) (x0 := x3) (x1 := (gn : Int)) (by omega)   ht32 (by omega) (by omega) ) rfl (by omega) (Nat.le_of_ble_eq_true rfl) rfl (fun hp46 y48 ht47 by48 => ?_)
        obtain ⟨by481, by482⟩ := by48
        refine t_if_ne (pc := 73) (tgt := 84) dX11_askSameness_73 (by decide) (by omega) (fun c73 => ?_) (fun c73 => ?_)
        · refine r_aload_n (pc := 84) dX11_askSameness_84 (i := 0) rfl rfl ?_
          refine t_getE (pc := 85) (.ref (a + 36)) ht47 (rd_of CG_0) fX11_63 dX11_askSameness_85 rfl ?_
          refine r_aload (pc := 88) dX11_askSameness_88 rfl ?_
          refine r_aload (pc := 90) dX11_askSameness_90 rfl ?_
          refine t_callVR (pc := 92) (as := [.ref ga, .ref ja]) (st := []) ht47 (rd_CG (by omega) (rd_of hsm.1)) kX11_250 rfl dX11_askSameness_92 (t_X6_find (d := d - 1) (s := a + 36) (by omega) (eq_CG (by omega) hsm.1) (eq_CG (by omega) hsm.2.1) (eq_CG (by omega) hsm.2.2.1) (eq_CG (by omega) hsm.2.2.2.1) (eq_CG (by omega) hsm.2.2.2.2) (TyG.cg (by omega) hg) (TyG.cg (by omega) hj) (by omega) (by omega) ht47) rfl (by omega) (Nat.le_of_ble_eq_true rfl) rfl (fun hp50 y49 ht51 by49 => ?_)
          refine t_if_eq (pc := 95) (tgt := 110) dX11_askSameness_95 (by decide) (by omega) (fun c95 => ?_) (fun c95 => ?_)
          · refine r_ldc2 (pc := 110) (v := (-1)) dX11_askSameness_110 kX11_257 ?_
            exact r_lret (pc := 113) dX11_askSameness_113 rfl ⟨by omega, Γ, ct, rv, th, kn, kd, ka, kf, kt, kw, kc, (Ext_refl Γ), ht51, hk, by omega, ⟨_, rfl⟩⟩
          · refine r_aload_n (pc := 98) dX11_askSameness_98 (i := 0) rfl rfl ?_
            refine t_getE (pc := 99) (.ref (a + 36)) ht51 (rd_of CG_0) fX11_63 dX11_askSameness_99 rfl ?_
            refine r_iload_n (pc := 102) dX11_askSameness_102 (i := 3) rfl rfl ?_
            refine t_callVR (pc := 103) (as := [.int (iv x3)]) (st := []) ht51 (rd_CG (by omega) (rd_of hsm.1)) kX11_254 rfl dX11_askSameness_103 (t_X6_newNumberw (d := d - 1) (s := a + 36) (x1 := x3) (by omega) (rd_CG (by omega) (rd_of hsm.1)) (rd_CG (by omega) (rd_of hsm.2.2.2.2)) ht51 (by omega)) rfl (by omega) (Nat.le_of_ble_eq_true rfl) rfl (fun hp53 y52 ht54 by52 => ?_)
            refine r_i2l (pc := 106) (v := (iv y52).toInt64) dX11_askSameness_106 rfl ?_
            refine r_goto (pc := 107) (tgt := 113) dX11_askSameness_107 (by decide) ?_
            exact r_lret (pc := 113) dX11_askSameness_113 rfl ⟨by omega, Γ, ct, rv, th, kn, kd, ka, kf, kt, kw, kc, (Ext_refl Γ), ht54, hk, by omega, ⟨_, rfl⟩⟩
        · refine r_aload_n (pc := 76) dX11_askSameness_76 (i := 0) rfl rfl ?_
          refine r_bipush (pc := 77) (v := iv (-3)) dX11_askSameness_77 (by decide) ?_
          obtain ⟨fs59, hfs59⟩ := t_obj ht47 (rd_of CG_0)
          refine r_callV (pc := 79) (as := [.int (iv (-3))]) (st := []) kX11_203 rfl dX11_askSameness_79 hfs59 (s_X11_deny (d := d - 1) (x1 := (-3)) (by omega)  ht47 (by omega)) rfl (by omega) (Nat.le_of_ble_eq_true rfl) (Nat.zero_le _) (Nat.zero_le _) rfl (fun r56 hp55 n57 hq58 => ?_)
          obtain ⟨hnn57, ht60, hrr56⟩ := hq58
          subst n57 r56
          change Rn _ _ _ 82 _ [.int (iv 0)] _ _ _ _ _
          refine r_i2l (pc := 82) (v := (iv 0).toInt64) dX11_askSameness_82 rfl ?_
          exact r_lret (pc := 83) dX11_askSameness_83 rfl ⟨by omega, Γ, ct, (-3), th, kn, kd, ka, kf, kt, kw, kc, (Ext_refl Γ), ht60, hk, by omega, ⟨_, rfl⟩⟩
      · refine r_aload_n (pc := 44) dX11_askSameness_44 (i := 0) rfl rfl ?_
        refine t_getE (pc := 45) (.ref (a + 36)) ht32 (rd_of CG_0) fX11_63 dX11_askSameness_45 rfl ?_
        refine r_aload (pc := 48) dX11_askSameness_48 rfl ?_
        refine r_aload (pc := 50) dX11_askSameness_50 rfl ?_
        refine t_callVR (pc := 52) (as := [.ref ga, .ref ja]) (st := []) ht32 (rd_CG (by omega) (rd_of hsm.1)) kX11_250 rfl dX11_askSameness_52 (t_X6_find (d := d - 1) (s := a + 36) (by omega) (eq_CG (by omega) hsm.1) (eq_CG (by omega) hsm.2.1) (eq_CG (by omega) hsm.2.2.1) (eq_CG (by omega) hsm.2.2.2.1) (eq_CG (by omega) hsm.2.2.2.2) (TyG.cg (by omega) hg) (TyG.cg (by omega) hj) (by omega) (by omega) ht32) rfl (by omega) (Nat.le_of_ble_eq_true rfl) rfl (fun hp62 y61 ht63 by61 => ?_)
        refine t_if_eq (pc := 55) (tgt := 62) dX11_askSameness_55 (by decide) (by omega) (fun c55 => ?_) (fun c55 => ?_)
        · refine r_lconst (pc := 62) (v := 0) dX11_askSameness_62 (by decide) ?_
          exact r_lret (pc := 63) dX11_askSameness_63 rfl ⟨by omega, Γ, ct, rv, th, kn, kd, ka, kf, kt, kw, kc, (Ext_refl Γ), ht63, hk, by omega, ⟨_, rfl⟩⟩
        · refine r_lconst (pc := 58) (v := 1) dX11_askSameness_58 (by decide) ?_
          refine r_goto (pc := 59) (tgt := 63) dX11_askSameness_59 (by decide) ?_
          exact r_lret (pc := 63) dX11_askSameness_63 rfl ⟨by omega, Γ, ct, rv, th, kn, kd, ka, kf, kt, kw, kc, (Ext_refl Γ), ht63, hk, by omega, ⟨_, rfl⟩⟩
set_option maxHeartbeats 4000000 in
set_option maxRecDepth 100000 in
theorem e_X11_ask {D : va_G} {cI cJ cZ cT : ClassId} {lo b L : Nat} {xs : Nat → Int32} {hp : MH} {n d : Nat} {Γ : TG} {a : Nat} {ct : Int} {rv : Int} {th : Nat → Option Nat} {dn : Int} {dd : Int} {da : Int} {df : Nat → Int} {dt : Nat → Int} {dw : Nat → Int} {dc : Nat → Int} {kn : Int} {kd : Int} {ka : Int} {kf : Nat → Int} {kt : Nat → Int} {kw : Nat → Int} {kc : Nat → Int} {x1 x2 x3 x4 : Int} (hd0 : 23 ≤ d) (hk : EK Γ cI cJ cZ a ct th dn dd da df dt dw dc kn kd ka) (hrv : -2147483648 ≤ rv ∧ rv ≤ 2147483647) (hna : a + 84 ≤ n) (ht : Tw (CG Γ cI cJ cZ cT a ct rv th dn dd da df dt dw dc kn kd ka kf kt kw kc) hp) (hx1 : (-2147483648) ≤ x1 ∧ x1 ≤ 2147483647) (hx2 : (-2147483648) ≤ x2 ∧ x2 ≤ 2147483647) (hx3 : (-2147483648) ≤ x3 ∧ x3 ≤ 2147483647) (hx4 : (-2147483648) ≤ x4 ∧ x4 ≤ 2147483647) : Mt (gG D cI cJ cZ cT lo b L xs) mX11_ask d 1 16 [.ref a, .int (iv x1), .int (iv x2), .int (iv x3), .int (iv x4)] hp n (qE Γ cI cJ cZ cT a dn dd da df dt dw dc n qL) := by
  refine Mt.of rfl (Nat.le_of_ble_eq_true rfl) ?_
  refine Rn.pick (lv' := [(0, .ref a), (1, .int (iv x1)), (2, .int (iv x2)), (3, .int (iv x3)), (4, .int (iv x4))]) [0, 1, 2, 3, 4] rfl ?_
  obtain ⟨hct, hth, ⟨hdn, hdd1, hda, har⟩, ⟨hkn, hkd, hka⟩, hsh, hse, hpr, hfl, hsm⟩ := id hk
  refine r_aload_n (pc := 0) dX11_ask_0 (i := 0) rfl rfl ?_
  refine r_iconst (pc := 1) (v := iv 0) dX11_ask_1 (by decide) ?_
  refine t_putX (pc := 2) (ty := .int) ht CG_0 fX11_19 tyX11 tyX11_ok nmX11 (by decide +kernel) (Or.inl rfl) dX11_ask_2 (Nat.le_of_ble_eq_true rfl) rfl rfl rfl (fun hp1 ht2 => ?_)
  have ht3 := RGw_rv ht2
  refine r_iload_n (pc := 5) dX11_ask_5 (i := 2) rfl rfl ?_
  refine r_bipush (pc := 6) (v := iv 16) dX11_ask_6 (by decide) ?_
  refine t_icmp_eq (pc := 8) (tgt := 17) dX11_ask_8 (by decide) (by omega) (by omega) (fun c8 => ?_) (fun c8 => ?_)
  · refine r_aload_n (pc := 17) dX11_ask_17 (i := 0) rfl rfl ?_
    refine r_iload_n (pc := 18) dX11_ask_18 (i := 1) rfl rfl ?_
    refine r_iload_n (pc := 19) dX11_ask_19 (i := 2) rfl rfl ?_
    refine r_iload_n (pc := 20) dX11_ask_20 (i := 3) rfl rfl ?_
    refine r_iload (pc := 21) dX11_ask_21 rfl ?_
    obtain ⟨fs9, hfs9⟩ := t_obj ht3 (rd_of CG_0)
    refine r_callV (pc := 23) (as := [.int (iv x1), .int (iv x2), .int (iv x3), .int (iv x4)]) (st := []) kX11_238 rfl dX11_ask_23 hfs9 (e_X11_askSameness (d := d - 1) (x1 := x1) (x2 := x2) (x3 := x3) (x4 := x4) (by omega) hk (by omega) (by omega) ht3 (by omega) (by omega) (by omega) (by omega)) rfl (by omega) (Nat.le_of_ble_eq_true rfl) (by omega) (by omega) rfl (fun r4 hp5 n6 hq7 => ?_)
    obtain ⟨hnn6, Γ8, ct8, rv8, th8, kn8, kd8, ka8, kf8, kt8, kw8, kc8, hE8, ht8, hk8, hrv8, v10, hrr4⟩ := hq7
    subst r4
    change Rn _ _ _ 26 _ [.long v10] _ _ _ _ _
    exact r_lret (pc := 26) dX11_ask_26 rfl ⟨by omega, Γ8, ct8, rv8, th8, kn8, kd8, ka8, kf8, kt8, kw8, kc8, (Ext_tr (Ext_refl Γ) hE8), ht8, hk8, by omega, ⟨_, rfl⟩⟩
  · refine r_iload_n (pc := 11) dX11_ask_11 (i := 2) rfl rfl ?_
    refine r_bipush (pc := 12) (v := iv 17) dX11_ask_12 (by decide) ?_
    refine t_icmp_ne (pc := 14) (tgt := 27) dX11_ask_14 (by decide) (by omega) (by omega) (fun c14 => ?_) (fun c14 => ?_)
    · refine r_aload_n (pc := 27) dX11_ask_27 (i := 0) rfl rfl ?_
      refine r_iload_n (pc := 28) dX11_ask_28 (i := 1) rfl rfl ?_
      refine t_graphAt (pc := 29) (x := x1) (st := []) hk ht3 kX11_106 dX11_ask_29 (by omega) (Nat.le_of_ble_eq_true rfl) (by omega) (fun hp11 ht12 => ?_) (fun hp11 ga ht12 hTg => ?_)
      · refine r_astoreN (pc := 32) (lv' := [(5, .null), (0, .ref a), (1, .int (iv x1)), (2, .int (iv x2)), (3, .int (iv x3)), (4, .int (iv x4))]) dX11_ask_32 (by decide) rfl ?_
        refine r_aloadN (pc := 34) dX11_ask_34 rfl ?_
        refine r_ifnonnullN (pc := 36) dX11_ask_36 ?_
        refine r_aload_n (pc := 39) dX11_ask_39 (i := 0) rfl rfl ?_
        refine r_aload_n (pc := 40) dX11_ask_40 (i := 0) rfl rfl ?_
        refine r_iload_n (pc := 41) dX11_ask_41 (i := 1) rfl rfl ?_
        obtain ⟨fs17, hfs17⟩ := t_obj ht12 (rd_of CG_0)
        refine r_callV (pc := 42) (as := [.int (iv x1)]) (st := [.ref a]) kX11_110 rfl dX11_ask_42 hfs17 (s_X11_whyNot (d := d - 1) (x1 := x1) (by omega)  ht12 (by omega) hk) rfl (by omega) (Nat.le_of_ble_eq_true rfl) (Nat.zero_le _) (Nat.zero_le _) rfl (fun r14 hp13 n15 hq16 => ?_)
        obtain ⟨hnn15, bb_19, ht18, hrr14, hhq160⟩ := hq16
        subst n15 r14
        have hhq160 : -2 ≤ bb_19 ∧ bb_19 ≤ -1 := hhq160
        change Rn _ _ _ 45 _ [.int (iv bb_19), .ref a] _ _ _ _ _
        obtain ⟨fs24, hfs24⟩ := t_obj ht18 (rd_of CG_0)
        refine r_callV (pc := 45) (as := [.int (iv bb_19)]) (st := []) kX11_203 rfl dX11_ask_45 hfs24 (s_X11_deny (d := d - 1) (x1 := bb_19) (by omega)  ht18 (by omega)) rfl (by omega) (Nat.le_of_ble_eq_true rfl) (Nat.zero_le _) (Nat.zero_le _) rfl (fun r21 hp20 n22 hq23 => ?_)
        obtain ⟨hnn22, ht25, hrr21⟩ := hq23
        subst n22 r21
        change Rn _ _ _ 48 _ [.int (iv 0)] _ _ _ _ _
        refine r_i2l (pc := 48) (v := (iv 0).toInt64) dX11_ask_48 rfl ?_
        exact r_lret (pc := 49) dX11_ask_49 rfl ⟨by omega, Γ, ct, bb_19, th, kn, kd, ka, kf, kt, kw, kc, (Ext_refl Γ), ht25, hk, by omega, ⟨_, rfl⟩⟩
      · obtain ⟨gF, gT, gW, gC, gTl, gHd, gBy, gOu, gIn, gJo, gn, gm, gq, gdr, fF, fT, fW, fC, fTl, fHd, fBy, fOu, fIn, fJo, hg, hltg, hxg⟩ := id hTg
        obtain ⟨hg_O, hg_from, hg_to, hg_weight, hg_cost, hg_tail, hg_head, hg_by, hg_out, hg_in, hg_joined, hg_b⟩ := id hg
        refine r_astore (pc := 32) (lv' := [(5, .ref ga), (0, .ref a), (1, .int (iv x1)), (2, .int (iv x2)), (3, .int (iv x3)), (4, .int (iv x4))]) dX11_ask_32 (by decide) rfl ?_
        refine r_aload (pc := 34) dX11_ask_34 rfl ?_
        refine r_ifnonnull (pc := 36) (tgt := 50) dX11_ask_36 (by decide) ?_
        refine r_aload (pc := 50) dX11_ask_50 rfl ?_
        refine r_iload_n (pc := 52) dX11_ask_52 (i := 2) rfl rfl ?_
        refine r_iload_n (pc := 53) dX11_ask_53 (i := 3) rfl rfl ?_
        refine r_iload (pc := 54) dX11_ask_54 rfl ?_
        refine t_callSI (pc := 56) (as := [.ref ga, .int (iv x2), .int (iv x3), .int (iv x4)]) (st := []) kX11_242 dX11_ask_56 (t_X11_isQuestion (d := d - 1) (x1 := x2) (x2 := x3) (x3 := x4) (by omega) (TyG.cg (by omega) hg)  ht12 (by omega) (by omega) (by omega) ) rfl (by omega) (Nat.le_of_ble_eq_true rfl) rfl (fun hp26 y28 ht27 by28 => ?_)
        obtain ⟨by281, by282⟩ := by28
        refine t_if_eq (pc := 59) (tgt := 75) dX11_ask_59 (by decide) (by omega) (fun c59 => ?_) (fun c59 => ?_)
        · refine r_aload_n (pc := 75) dX11_ask_75 (i := 0) rfl rfl ?_
          refine r_bipush (pc := 76) (v := iv (-3)) dX11_ask_76 (by decide) ?_
          obtain ⟨fs33, hfs33⟩ := t_obj ht27 (rd_of CG_0)
          refine r_callV (pc := 78) (as := [.int (iv (-3))]) (st := []) kX11_203 rfl dX11_ask_78 hfs33 (s_X11_deny (d := d - 1) (x1 := (-3)) (by omega)  ht27 (by omega)) rfl (by omega) (Nat.le_of_ble_eq_true rfl) (Nat.zero_le _) (Nat.zero_le _) rfl (fun r30 hp29 n31 hq32 => ?_)
          obtain ⟨hnn31, ht34, hrr30⟩ := hq32
          subst n31 r30
          change Rn _ _ _ 81 _ [.int (iv 0)] _ _ _ _ _
          refine r_i2l (pc := 81) (v := (iv 0).toInt64) dX11_ask_81 rfl ?_
          exact r_lret (pc := 82) dX11_ask_82 rfl ⟨by omega, Γ, ct, (-3), th, kn, kd, ka, kf, kt, kw, kc, (Ext_refl Γ), ht34, hk, by omega, ⟨_, rfl⟩⟩
        · refine r_aload_n (pc := 62) dX11_ask_62 (i := 0) rfl rfl ?_
          refine r_aload (pc := 63) dX11_ask_63 rfl ?_
          refine r_iload_n (pc := 65) dX11_ask_65 (i := 2) rfl rfl ?_
          refine r_iload_n (pc := 66) dX11_ask_66 (i := 3) rfl rfl ?_
          refine r_iload (pc := 67) dX11_ask_67 rfl ?_
          obtain ⟨fs40, hfs40⟩ := t_obj ht27 (rd_of CG_0)
          refine r_callV (pc := 69) (as := [.ref ga, .int (iv x2), .int (iv x3), .int (iv x4)]) (st := []) kX11_246 rfl dX11_ask_69 hfs40 (e_X11_answer (d := d - 1) (x2 := x2) (x3 := x3) (x4 := x4) (by omega) hk hg (by omega) (by omega) ht27 (by omega) (by omega) (by omega)) rfl (by omega) (Nat.le_of_ble_eq_true rfl) (by omega) (by omega) rfl (fun r35 hp36 n37 hq38 => ?_)
          obtain ⟨hnn37, ht39, v41, hrr35⟩ := hq38
          subst r35
          change Rn _ _ _ 72 _ [.long v41] _ _ _ _ _
          refine r_goto (pc := 72) (tgt := 82) dX11_ask_72 (by decide) ?_
          exact r_lret (pc := 82) dX11_ask_82 rfl ⟨by omega, Γ, ct, 0, th, kn, kd, ka, kf, kt, kw, kc, (Ext_refl Γ), ht39, hk, by omega, ⟨_, rfl⟩⟩
    · refine r_aload_n (pc := 17) dX11_ask_17 (i := 0) rfl rfl ?_
      refine r_iload_n (pc := 18) dX11_ask_18 (i := 1) rfl rfl ?_
      refine r_iload_n (pc := 19) dX11_ask_19 (i := 2) rfl rfl ?_
      refine r_iload_n (pc := 20) dX11_ask_20 (i := 3) rfl rfl ?_
      refine r_iload (pc := 21) dX11_ask_21 rfl ?_
      obtain ⟨fs47, hfs47⟩ := t_obj ht3 (rd_of CG_0)
      refine r_callV (pc := 23) (as := [.int (iv x1), .int (iv x2), .int (iv x3), .int (iv x4)]) (st := []) kX11_238 rfl dX11_ask_23 hfs47 (e_X11_askSameness (d := d - 1) (x1 := x1) (x2 := x2) (x3 := x3) (x4 := x4) (by omega) hk (by omega) (by omega) ht3 (by omega) (by omega) (by omega) (by omega)) rfl (by omega) (Nat.le_of_ble_eq_true rfl) (by omega) (by omega) rfl (fun r42 hp43 n44 hq45 => ?_)
      obtain ⟨hnn44, Γ8, ct8, rv8, th8, kn8, kd8, ka8, kf8, kt8, kw8, kc8, hE8, ht46, hk8, hrv8, v48, hrr42⟩ := hq45
      subst r42
      change Rn _ _ _ 26 _ [.long v48] _ _ _ _ _
      exact r_lret (pc := 26) dX11_ask_26 rfl ⟨by omega, Γ8, ct8, rv8, th8, kn8, kd8, ka8, kf8, kt8, kw8, kc8, (Ext_tr (Ext_refl Γ) hE8), ht46, hk8, by omega, ⟨_, rfl⟩⟩
def qBg (Γ : TG) (cI cJ cZ cT : ClassId) (a : Nat) (ct : Int) (th : Nat → Option Nat) (dn : Int) (dd : Int) (da : Int) (df : Nat → Int) (dt : Nat → Int) (dw : Nat → Int) (dc : Nat → Int) (kn : Int) (kd : Int) (ka : Int) (kf : Nat → Int) (kt : Nat → Int) (kw : Nat → Int) (kc : Nat → Int) (x1 x2 : Int) (n : Nat) : Option Value → MH → Nat → Prop := fun r hp1 n1 => n1 = n ∧ ∃ rv dn1 dd1 da1 v : Int, Tw (CG Γ cI cJ cZ cT a ct rv th dn1 dd1 da1 df dt dw dc kn kd ka kf kt kw kc) hp1 ∧ (-2147483648 ≤ rv ∧ rv ≤ 2147483647) ∧ r = some (.int (iv v)) ∧ (((1 ≤ x1 ∧ x1 ≤ 16) ∧ dn1 = x1 ∧ dd1 = x2 ∧ da1 = 0 ∧ v = 1) ∨ (¬ (1 ≤ x1 ∧ x1 ≤ 16) ∧ dn1 = dn ∧ dd1 = dd ∧ da1 = da ∧ v = 0))
def qAr (Γ : TG) (cI cJ cZ cT : ClassId) (a : Nat) (ct : Int) (th : Nat → Option Nat) (dn : Int) (dd : Int) (da : Int) (df : Nat → Int) (dt : Nat → Int) (dw : Nat → Int) (dc : Nat → Int) (kn : Int) (kd : Int) (ka : Int) (kf : Nat → Int) (kt : Nat → Int) (kw : Nat → Int) (kc : Nat → Int) (x1 x2 x3 x4 : Int) (n : Nat) : Option Value → MH → Nat → Prop := fun r hp1 n1 => n1 = n ∧ ∃ (rv da1 : Int) (df1 dt1 dw1 dc1 : Nat → Int) (v : Int), Tw (CG Γ cI cJ cZ cT a ct rv th dn dd da1 df1 dt1 dw1 dc1 kn kd ka kf kt kw kc) hp1 ∧ (-2147483648 ≤ rv ∧ rv ≤ 2147483647) ∧ r = some (.int (iv v)) ∧ ((((0 ≤ x1 ∧ x1 < dn) ∧ (0 ≤ x2 ∧ x2 < dn) ∧ (-1000 ≤ x3 ∧ x3 ≤ 1000) ∧ (-1000 ≤ x4 ∧ x4 ≤ 1000)) ∧ da < 60 ∧ v = da ∧ da1 = da + 1 ∧ df1 = fup df da.toNat x1 ∧ dt1 = fup dt da.toNat x2 ∧ dw1 = fup dw da.toNat x3 ∧ dc1 = fup dc da.toNat x4) ∨ (((0 ≤ x1 ∧ x1 < dn) ∧ (0 ≤ x2 ∧ x2 < dn) ∧ (-1000 ≤ x3 ∧ x3 ≤ 1000) ∧ (-1000 ≤ x4 ∧ x4 ≤ 1000)) ∧ 60 ≤ da ∧ v = -4 ∧ da1 = da ∧ df1 = df ∧ dt1 = dt ∧ dw1 = dw ∧ dc1 = dc) ∨ (¬ ((0 ≤ x1 ∧ x1 < dn) ∧ (0 ≤ x2 ∧ x2 < dn) ∧ (-1000 ≤ x3 ∧ x3 ≤ 1000) ∧ (-1000 ≤ x4 ∧ x4 ≤ 1000)) ∧ v = -3 ∧ da1 = da ∧ df1 = df ∧ dt1 = dt ∧ dw1 = dw ∧ dc1 = dc))
set_option maxHeartbeats 4000000 in
set_option maxRecDepth 100000 in
theorem e_X11_begin {D : va_G} {cI cJ cZ cT : ClassId} {lo b L : Nat} {xs : Nat → Int32} {hp : MH} {n d : Nat} {Γ : TG} {a : Nat} {ct : Int} {rv : Int} {th : Nat → Option Nat} {dn : Int} {dd : Int} {da : Int} {df : Nat → Int} {dt : Nat → Int} {dw : Nat → Int} {dc : Nat → Int} {kn : Int} {kd : Int} {ka : Int} {kf : Nat → Int} {kt : Nat → Int} {kw : Nat → Int} {kc : Nat → Int} {x1 x2 : Int} (hd0 : 1 ≤ d) (hk : EK Γ cI cJ cZ a ct th dn dd da df dt dw dc kn kd ka) (hrv : -2147483648 ≤ rv ∧ rv ≤ 2147483647) (ht : Tw (CG Γ cI cJ cZ cT a ct rv th dn dd da df dt dw dc kn kd ka kf kt kw kc) hp) (hx1 : (-2147483648) ≤ x1 ∧ x1 ≤ 2147483647) (hx2 : 0 ≤ x2 ∧ x2 ≤ 1) : Mt (gG D cI cJ cZ cT lo b L xs) mX11_begin d 0 0 [.ref a, .int (iv x1), .int (iv x2)] hp n (qBg Γ cI cJ cZ cT a ct th dn dd da df dt dw dc kn kd ka kf kt kw kc x1 x2 n) := by
  refine Mt.of rfl (Nat.le_of_ble_eq_true rfl) ?_
  refine Rn.pick (lv' := [(0, .ref a), (1, .int (iv x1)), (2, .int (iv x2))]) [0, 1, 2] rfl ?_
  obtain ⟨hct, hth, ⟨hdn, hdd1, hda, har⟩, ⟨hkn, hkd, hka⟩, hsh, hse, hpr, hfl, hsm⟩ := id hk
  refine r_aload_n (pc := 0) dX11_begin_0 (i := 0) rfl rfl ?_
  refine r_iconst (pc := 1) (v := iv 0) dX11_begin_1 (by decide) ?_
  refine t_putX (pc := 2) (ty := .int) ht CG_0 fX11_19 tyX11 tyX11_ok nmX11 (by decide +kernel) (Or.inl rfl) dX11_begin_2 (Nat.le_of_ble_eq_true rfl) rfl rfl rfl (fun hp1 ht2 => ?_)
  have ht3 := RGw_rv ht2
  refine r_iload_n (pc := 5) dX11_begin_5 (i := 1) rfl rfl ?_
  refine r_iconst (pc := 6) (v := iv 1) dX11_begin_6 (by decide) ?_
  refine t_icmp_lt (pc := 7) (tgt := 16) dX11_begin_7 (by decide) (by omega) (by omega) (fun c7 => ?_) (fun c7 => ?_)
  · refine r_aload_n (pc := 16) dX11_begin_16 (i := 0) rfl rfl ?_
    refine r_bipush (pc := 17) (v := iv (-3)) dX11_begin_17 (by decide) ?_
    refine t_putX (pc := 19) (ty := .int) ht3 CG_0 fX11_19 tyX11 tyX11_ok nmX11 (by decide +kernel) (Or.inl rfl) dX11_begin_19 (Nat.le_of_ble_eq_true rfl) rfl rfl rfl (fun hp4 ht5 => ?_)
    have ht6 := RGw_rv ht5
    refine r_iconst (pc := 22) (v := iv 0) dX11_begin_22 (by decide) ?_
    exact r_zret (pc := 23) dX11_begin_23 rfl (iv_nar (by omega)) ⟨rfl, (-3), dn, dd, da, 0, ht6, by omega, rfl, Or.inr ⟨by omega, rfl, rfl, rfl, rfl⟩⟩
  · refine r_iload_n (pc := 10) dX11_begin_10 (i := 1) rfl rfl ?_
    refine r_bipush (pc := 11) (v := iv 16) dX11_begin_11 (by decide) ?_
    refine t_icmp_le (pc := 13) (tgt := 24) dX11_begin_13 (by decide) (by omega) (by omega) (fun c13 => ?_) (fun c13 => ?_)
    · refine r_aload_n (pc := 24) dX11_begin_24 (i := 0) rfl rfl ?_
      refine t_getE (pc := 25) (.ref (a + 2)) ht3 (rd_of CG_0) fX11_25 dX11_begin_25 rfl ?_
      refine r_iload_n (pc := 28) dX11_begin_28 (i := 1) rfl rfl ?_
      refine r_iload_n (pc := 29) dX11_begin_29 (i := 2) rfl rfl ?_
      have hd9 := Tw_eq (Γ1 := DG (CG Γ cI cJ cZ cT a ct 0 th dn dd da df dt dw dc kn kd ka kf kt kw kc) cI cJ cZ cT (a + 2) dn dd da df dt dw dc) CG_dr.symm ht3
      obtain ⟨fs12, hfs12⟩ := t_obj hd9 (rd_of DG_0)
      refine r_callV (pc := 30) (as := [.int (iv x1), .int (iv x2)]) (st := []) kX11_67 rfl dX11_begin_30 hfs12 (s_X1_restart (d := d - 1) (x1 := x1) (x2 := x2) (by omega) hd9 (by omega) (by omega)) rfl (by omega) (Nat.le_of_ble_eq_true rfl) (Nat.zero_le _) (Nat.zero_le _) rfl (fun r7 hp8 n9 hq10 => ?_)
      obtain ⟨hnn9, ht11, hrr7⟩ := hq10
      subst n9 r7
      rw [CG_dr] at ht11
      change Rn _ _ _ 33 _ [] _ _ _ _ _
      refine r_iconst (pc := 33) (v := iv 1) dX11_begin_33 (by decide) ?_
      exact r_zret (pc := 34) dX11_begin_34 rfl (iv_nar (by omega)) ⟨rfl, 0, x1, x2, 0, 1, ht11, by omega, rfl, Or.inl ⟨by omega, rfl, rfl, rfl, rfl⟩⟩
    · refine r_aload_n (pc := 16) dX11_begin_16 (i := 0) rfl rfl ?_
      refine r_bipush (pc := 17) (v := iv (-3)) dX11_begin_17 (by decide) ?_
      refine t_putX (pc := 19) (ty := .int) ht3 CG_0 fX11_19 tyX11 tyX11_ok nmX11 (by decide +kernel) (Or.inl rfl) dX11_begin_19 (Nat.le_of_ble_eq_true rfl) rfl rfl rfl (fun hp13 ht14 => ?_)
      have ht15 := RGw_rv ht14
      refine r_iconst (pc := 22) (v := iv 0) dX11_begin_22 (by decide) ?_
      exact r_zret (pc := 23) dX11_begin_23 rfl (iv_nar (by omega)) ⟨rfl, (-3), dn, dd, da, 0, ht15, by omega, rfl, Or.inr ⟨by omega, rfl, rfl, rfl, rfl⟩⟩
set_option maxHeartbeats 4000000 in
set_option maxRecDepth 100000 in
theorem e_X11_arc {D : va_G} {cI cJ cZ cT : ClassId} {lo b L : Nat} {xs : Nat → Int32} {hp : MH} {n d : Nat} {Γ : TG} {a : Nat} {ct : Int} {rv : Int} {th : Nat → Option Nat} {dn : Int} {dd : Int} {da : Int} {df : Nat → Int} {dt : Nat → Int} {dw : Nat → Int} {dc : Nat → Int} {kn : Int} {kd : Int} {ka : Int} {kf : Nat → Int} {kt : Nat → Int} {kw : Nat → Int} {kc : Nat → Int} {x1 x2 x3 x4 : Int} (hd0 : 1 ≤ d) (hk : EK Γ cI cJ cZ a ct th dn dd da df dt dw dc kn kd ka) (hrv : -2147483648 ≤ rv ∧ rv ≤ 2147483647) (ht : Tw (CG Γ cI cJ cZ cT a ct rv th dn dd da df dt dw dc kn kd ka kf kt kw kc) hp) (hx1 : (-2147483648) ≤ x1 ∧ x1 ≤ 2147483647) (hx2 : (-2147483648) ≤ x2 ∧ x2 ≤ 2147483647) (hx3 : (-2147483648) ≤ x3 ∧ x3 ≤ 2147483647) (hx4 : (-2147483648) ≤ x4 ∧ x4 ≤ 2147483647) : Mt (gG D cI cJ cZ cT lo b L xs) mX11_arc d 0 0 [.ref a, .int (iv x1), .int (iv x2), .int (iv x3), .int (iv x4)] hp n (qAr Γ cI cJ cZ cT a ct th dn dd da df dt dw dc kn kd ka kf kt kw kc x1 x2 x3 x4 n) := by
  refine Mt.of rfl (Nat.le_of_ble_eq_true rfl) ?_
  refine Rn.pick (lv' := [(0, .ref a), (1, .int (iv x1)), (2, .int (iv x2)), (3, .int (iv x3)), (4, .int (iv x4))]) [0, 1, 2, 3, 4] rfl ?_
  obtain ⟨hct, hth, ⟨hdn, hdd1, hda, har⟩, ⟨hkn, hkd, hka⟩, hsh, hse, hpr, hfl, hsm⟩ := id hk
  refine r_aload_n (pc := 0) dX11_arc_0 (i := 0) rfl rfl ?_
  refine r_iconst (pc := 1) (v := iv 0) dX11_arc_1 (by decide) ?_
  refine t_putX (pc := 2) (ty := .int) ht CG_0 fX11_19 tyX11 tyX11_ok nmX11 (by decide +kernel) (Or.inl rfl) dX11_arc_2 (Nat.le_of_ble_eq_true rfl) rfl rfl rfl (fun hp1 ht2 => ?_)
  have ht3 := RGw_rv ht2
  refine r_iload_n (pc := 5) dX11_arc_5 (i := 1) rfl rfl ?_
  refine r_aload_n (pc := 6) dX11_arc_6 (i := 0) rfl rfl ?_
  refine t_getE (pc := 7) (.ref (a + 2)) ht3 (rd_of CG_0) fX11_25 dX11_arc_7 rfl ?_
  refine t_getE (pc := 10) (.int (iv dn)) ht3 (rd_of CG_2) fX11_71 dX11_arc_10 rfl ?_
  refine t_callSI (pc := 13) (as := [.int (iv x1), .int (iv dn)]) (st := []) kX11_74 dX11_arc_13 (t_X11_isNode (d := d - 1) (x0 := x1) (x1 := dn) (by omega)   ht3 (by omega) (by omega) ) rfl (by omega) (Nat.le_of_ble_eq_true rfl) rfl (fun hp4 y6 ht5 by6 => ?_)
  obtain ⟨by61, by62⟩ := by6
  refine t_if_eq (pc := 16) (tgt := 48) dX11_arc_16 (by decide) (by omega) (fun c16 => ?_) (fun c16 => ?_)
  · refine r_aload_n (pc := 48) dX11_arc_48 (i := 0) rfl rfl ?_
    refine r_bipush (pc := 49) (v := iv (-3)) dX11_arc_49 (by decide) ?_
    obtain ⟨fs11, hfs11⟩ := t_obj ht5 (rd_of CG_0)
    refine r_callV (pc := 51) (as := [.int (iv (-3))]) (st := []) kX11_82 rfl dX11_arc_51 hfs11 (s_X11_refuse (d := d - 1) (x1 := (-3)) (by omega)  ht5 (by omega)) rfl (by omega) (Nat.le_of_ble_eq_true rfl) (Nat.zero_le _) (Nat.zero_le _) rfl (fun r8 hp7 n9 hq10 => ?_)
    obtain ⟨hnn9, ht12, hrr8⟩ := hq10
    subst n9 r8
    change Rn _ _ _ 54 _ [.int (iv (-3))] _ _ _ _ _
    exact r_iret (pc := 54) dX11_arc_54 rfl ⟨rfl, (-3), da, df, dt, dw, dc, (-3), ht12, by omega, rfl, Or.inr (Or.inr ⟨by omega, rfl, rfl, rfl, rfl, rfl, rfl⟩)⟩
  · refine r_iload_n (pc := 19) dX11_arc_19 (i := 2) rfl rfl ?_
    refine r_aload_n (pc := 20) dX11_arc_20 (i := 0) rfl rfl ?_
    refine t_getE (pc := 21) (.ref (a + 2)) ht5 (rd_of CG_0) fX11_25 dX11_arc_21 rfl ?_
    refine t_getE (pc := 24) (.int (iv dn)) ht5 (rd_of CG_2) fX11_71 dX11_arc_24 rfl ?_
    refine t_callSI (pc := 27) (as := [.int (iv x2), .int (iv dn)]) (st := []) kX11_74 dX11_arc_27 (t_X11_isNode (d := d - 1) (x0 := x2) (x1 := dn) (by omega)   ht5 (by omega) (by omega) ) rfl (by omega) (Nat.le_of_ble_eq_true rfl) rfl (fun hp13 y15 ht14 by15 => ?_)
    obtain ⟨by151, by152⟩ := by15
    refine t_if_eq (pc := 30) (tgt := 48) dX11_arc_30 (by decide) (by omega) (fun c30 => ?_) (fun c30 => ?_)
    · refine r_aload_n (pc := 48) dX11_arc_48 (i := 0) rfl rfl ?_
      refine r_bipush (pc := 49) (v := iv (-3)) dX11_arc_49 (by decide) ?_
      obtain ⟨fs20, hfs20⟩ := t_obj ht14 (rd_of CG_0)
      refine r_callV (pc := 51) (as := [.int (iv (-3))]) (st := []) kX11_82 rfl dX11_arc_51 hfs20 (s_X11_refuse (d := d - 1) (x1 := (-3)) (by omega)  ht14 (by omega)) rfl (by omega) (Nat.le_of_ble_eq_true rfl) (Nat.zero_le _) (Nat.zero_le _) rfl (fun r17 hp16 n18 hq19 => ?_)
      obtain ⟨hnn18, ht21, hrr17⟩ := hq19
      subst n18 r17
      change Rn _ _ _ 54 _ [.int (iv (-3))] _ _ _ _ _
      exact r_iret (pc := 54) dX11_arc_54 rfl ⟨rfl, (-3), da, df, dt, dw, dc, (-3), ht21, by omega, rfl, Or.inr (Or.inr ⟨by omega, rfl, rfl, rfl, rfl, rfl, rfl⟩)⟩
    · refine r_iload_n (pc := 33) dX11_arc_33 (i := 3) rfl rfl ?_
      refine t_callSI (pc := 34) (as := [.int (iv x3)]) (st := []) kX11_78 dX11_arc_34 (t_X11_isWeight (d := d - 1) (x0 := x3) (by omega)   ht14 (by omega) ) rfl (by omega) (Nat.le_of_ble_eq_true rfl) rfl (fun hp22 y24 ht23 by24 => ?_)
      obtain ⟨by241, by242⟩ := by24
      refine t_if_eq (pc := 37) (tgt := 48) dX11_arc_37 (by decide) (by omega) (fun c37 => ?_) (fun c37 => ?_)
      · refine r_aload_n (pc := 48) dX11_arc_48 (i := 0) rfl rfl ?_
        refine r_bipush (pc := 49) (v := iv (-3)) dX11_arc_49 (by decide) ?_
        obtain ⟨fs29, hfs29⟩ := t_obj ht23 (rd_of CG_0)
        refine r_callV (pc := 51) (as := [.int (iv (-3))]) (st := []) kX11_82 rfl dX11_arc_51 hfs29 (s_X11_refuse (d := d - 1) (x1 := (-3)) (by omega)  ht23 (by omega)) rfl (by omega) (Nat.le_of_ble_eq_true rfl) (Nat.zero_le _) (Nat.zero_le _) rfl (fun r26 hp25 n27 hq28 => ?_)
        obtain ⟨hnn27, ht30, hrr26⟩ := hq28
        subst n27 r26
        change Rn _ _ _ 54 _ [.int (iv (-3))] _ _ _ _ _
        exact r_iret (pc := 54) dX11_arc_54 rfl ⟨rfl, (-3), da, df, dt, dw, dc, (-3), ht30, by omega, rfl, Or.inr (Or.inr ⟨by omega, rfl, rfl, rfl, rfl, rfl, rfl⟩)⟩
      · refine r_iload (pc := 40) dX11_arc_40 rfl ?_
        refine t_callSI (pc := 42) (as := [.int (iv x4)]) (st := []) kX11_78 dX11_arc_42 (t_X11_isWeight (d := d - 1) (x0 := x4) (by omega)   ht23 (by omega) ) rfl (by omega) (Nat.le_of_ble_eq_true rfl) rfl (fun hp31 y33 ht32 by33 => ?_)
        obtain ⟨by331, by332⟩ := by33
        refine t_if_ne (pc := 45) (tgt := 55) dX11_arc_45 (by decide) (by omega) (fun c45 => ?_) (fun c45 => ?_)
        · refine r_aload_n (pc := 55) dX11_arc_55 (i := 0) rfl rfl ?_
          refine t_getE (pc := 56) (.ref (a + 2)) ht32 (rd_of CG_0) fX11_25 dX11_arc_56 rfl ?_
          refine t_getE (pc := 59) (.int (iv da)) ht32 (rd_of CG_2) fX11_86 dX11_arc_59 rfl ?_
          refine r_istore (pc := 62) (lv' := [(5, .int (iv da)), (0, .ref a), (1, .int (iv x1)), (2, .int (iv x2)), (3, .int (iv x3)), (4, .int (iv x4))]) dX11_arc_62 (by decide) rfl ?_
          refine r_aload_n (pc := 64) dX11_arc_64 (i := 0) rfl rfl ?_
          refine t_getE (pc := 65) (.ref (a + 2)) ht32 (rd_of CG_0) fX11_25 dX11_arc_65 rfl ?_
          refine r_iload_n (pc := 68) dX11_arc_68 (i := 1) rfl rfl ?_
          refine r_iload_n (pc := 69) dX11_arc_69 (i := 2) rfl rfl ?_
          refine r_iload_n (pc := 70) dX11_arc_70 (i := 3) rfl rfl ?_
          refine r_iload (pc := 71) dX11_arc_71 rfl ?_
          have hd9 := Tw_eq (Γ1 := DG (CG Γ cI cJ cZ cT a ct 0 th dn dd da df dt dw dc kn kd ka kf kt kw kc) cI cJ cZ cT (a + 2) dn dd da df dt dw dc) CG_dr.symm ht32
          obtain ⟨fs39, hfs39⟩ := t_obj hd9 (rd_of DG_0)
          refine r_callV (pc := 73) (as := [.int (iv x1), .int (iv x2), .int (iv x3), .int (iv x4)]) (st := []) kX11_89 rfl dX11_arc_73 hfs39 (s_X1_add (d := d - 1) (x1 := x1) (x2 := x2) (x3 := x3) (x4 := x4) (by omega) (by omega) hd9 (by omega) (by omega) (by omega) (by omega)) rfl (by omega) (Nat.le_of_ble_eq_true rfl) (Nat.zero_le _) (Nat.zero_le _) rfl (fun r34 hp35 n36 hq37 => ?_)
          obtain ⟨hnn36, bb9, da9, df9, dt9, dw9, dc9, ht38, hrr34, hq1, hq2, hq3, hq4⟩ := hq37
          subst n36 r34
          rw [CG_dr] at ht38
          change Rn _ _ _ 76 _ [.int (iv bb9)] _ _ _ _ _
          refine t_if_eq (pc := 76) (tgt := 84) dX11_arc_76 (by decide) (by omega) (fun c76 => ?_) (fun c76 => ?_)
          · refine r_aload_n (pc := 84) dX11_arc_84 (i := 0) rfl rfl ?_
            refine r_bipush (pc := 85) (v := iv (-4)) dX11_arc_85 (by decide) ?_
            obtain ⟨fs44, hfs44⟩ := t_obj ht38 (rd_of CG_0)
            refine r_callV (pc := 87) (as := [.int (iv (-4))]) (st := []) kX11_82 rfl dX11_arc_87 hfs44 (s_X11_refuse (d := d - 1) (x1 := (-4)) (by omega)  ht38 (by omega)) rfl (by omega) (Nat.le_of_ble_eq_true rfl) (Nat.zero_le _) (Nat.zero_le _) rfl (fun r41 hp40 n42 hq43 => ?_)
            obtain ⟨hnn42, ht45, hrr41⟩ := hq43
            subst n42 r41
            change Rn _ _ _ 90 _ [.int (iv (-4))] _ _ _ _ _
            exact r_iret (pc := 90) dX11_arc_90 rfl ⟨rfl, (-4), da9, df9, dt9, dw9, dc9, (-4), ht45, by omega, rfl, Or.inr (Or.inl ⟨by omega, by omega, rfl, by omega, (hq3 (by omega)).1, (hq3 (by omega)).2.1, (hq3 (by omega)).2.2.1, (hq3 (by omega)).2.2.2⟩)⟩
          · refine r_iload (pc := 79) dX11_arc_79 rfl ?_
            refine r_goto (pc := 81) (tgt := 90) dX11_arc_81 (by decide) ?_
            exact r_iret (pc := 90) dX11_arc_90 rfl ⟨rfl, 0, da9, df9, dt9, dw9, dc9, da, ht38, by omega, rfl, Or.inl ⟨by omega, by omega, rfl, by omega, (hq2 (by omega)).1, (hq2 (by omega)).2.1, (hq2 (by omega)).2.2.1, (hq2 (by omega)).2.2.2⟩⟩
        · refine r_aload_n (pc := 48) dX11_arc_48 (i := 0) rfl rfl ?_
          refine r_bipush (pc := 49) (v := iv (-3)) dX11_arc_49 (by decide) ?_
          obtain ⟨fs50, hfs50⟩ := t_obj ht32 (rd_of CG_0)
          refine r_callV (pc := 51) (as := [.int (iv (-3))]) (st := []) kX11_82 rfl dX11_arc_51 hfs50 (s_X11_refuse (d := d - 1) (x1 := (-3)) (by omega)  ht32 (by omega)) rfl (by omega) (Nat.le_of_ble_eq_true rfl) (Nat.zero_le _) (Nat.zero_le _) rfl (fun r47 hp46 n48 hq49 => ?_)
          obtain ⟨hnn48, ht51, hrr47⟩ := hq49
          subst n48 r47
          change Rn _ _ _ 54 _ [.int (iv (-3))] _ _ _ _ _
          exact r_iret (pc := 54) dX11_arc_54 rfl ⟨rfl, (-3), da, df, dt, dw, dc, (-3), ht51, by omega, rfl, Or.inr (Or.inr ⟨by omega, rfl, rfl, rfl, rfl, rfl, rfl⟩)⟩
