theorem al_cl {gn gm kn km : Nat} {gdr kdr N D M N' D' M' : Int} {F T W C F' T' W' C' Nu : Nat → Int} {v what x r : Int} (eN : N = (gn : Int)) (eD : D = gdr) (eM : M = (gm : Int)) (eN' : N' = (kn : Int)) (eD' : D' = kdr) (eM' : M' = (km : Int)) (h : (v = 1 ∧ (kn = gn ∧ kdr = gdr ∧ km = gm) ∧ lxA (isP gm gdr F T W C F' T' W' C') (gn : Int) Nu) ∨ (v = 0 ∧ ¬ ((kn = gn ∧ kdr = gdr ∧ km = gm) ∧ ∃ im, vaP (isP gm gdr F T W C F' T' W' C') (gn : Int) im))) (hr : (v = 1 ∧ r = (if what = 17 then Nu x.toNat else 1)) ∨ (v = 0 ∧ r = (if what = 17 then -1 else 0))) : alB N D M N' D' M' F T W C F' T' W' C' what x r := by
  subst eN eD eM eN' eD' eM'
  rcases h with ⟨h0, h1, h2⟩ | ⟨h0, h1⟩
  · rcases hr with ⟨_, g1⟩ | ⟨g0, _⟩
    · exact Or.inl ⟨⟨by omega, h1.2.1, by omega⟩, Nu, h2, g1⟩
    · omega
  · rcases hr with ⟨g0, _⟩ | ⟨_, g1⟩
    · omega
    · refine Or.inr ⟨fun q => h1 ⟨⟨by omega, q.1.2.1, by omega⟩, q.2⟩, g1⟩
set_option maxHeartbeats 4000000 in
set_option maxRecDepth 100000 in
theorem c_X6_newNumberx {D : va_G} {cI cJ cZ cT : ClassId} {lo b L : Nat} {xs : Nat → Int32} {hp : MH} {n d : Nat} {Γ : TG} {s : Nat} {Nu : Nat → Int} {x1 : Int} (hd0 : 0 ≤ d) (hO : rd Γ s (tO 6 (smnR s))) (hA4 : rd Γ (s + 4) (xI cI 16 Nu)) (hNR : Rfx 16 0 15 Nu) (ht : Tw Γ hp) (hx1 : 0 ≤ x1 ∧ x1 ≤ 15) : Mt (gG D cI cJ cZ cT lo b L xs) mX6_newNumber d 0 0 [.ref s, .int (iv x1)] hp n (pI Γ n (fun r => r = Nu (Int.toNat x1))) := by
  refine Mt.of rfl (Nat.le_of_ble_eq_true rfl) ?_
  refine Rn.pick (lv' := [(0, .ref s), (1, .int (iv x1))]) [0, 1] rfl ?_
  refine r_aload_n (pc := 0) dX6_newNumber_0 (i := 0) rfl rfl ?_
  refine t_getE (pc := 1) (.ref (s + 4)) ht hO fX6_21 dX6_newNumber_1 rfl ?_
  refine r_iload_n (pc := 4) dX6_newNumber_4 (i := 1) rfl rfl ?_
  refine t_ialdX (pc := 5) (t0 := 0) ht hA4 dX6_newNumber_5 rfl (by decide) (by omega) (fun b1 => ?_)
  have rb1 := (show Rfx 16 0 15 Nu by assumption) (Int.toNat x1) (by omega)
  exact r_iret (pc := 6) dX6_newNumber_6 rfl ⟨rfl, ht, _, rfl, rfl⟩
set_option maxHeartbeats 4000000 in
set_option maxRecDepth 100000 in
theorem y5_X11_askSameness {D : va_G} {cI cJ cZ cT : ClassId} {lo b L : Nat} {xs : Nat → Int32} {hp : MH} {n d : Nat} {Γ : TG} {a : Nat} {ct : Int} {rv : Int} {th : Nat → Option Nat} {dn : Int} {dd : Int} {da : Int} {df : Nat → Int} {dt : Nat → Int} {dw : Nat → Int} {dc : Nat → Int} {kn : Int} {kd : Int} {ka : Int} {kf : Nat → Int} {kt : Nat → Int} {kw : Nat → Int} {kc : Nat → Int} {so sz dr mn fr tt wt co : Nat → Int} {nu : Nat → Int64} {qi qc : Nat → Int} {x1 x2 x3 x4 : Int} (hd0 : 22 ≤ d) (hk : EK Γ cI cJ cZ a ct th dn dd da df dt dw dc kn kd ka) (hm : HM Γ cI cJ cZ a ct th so sz dr mn fr tt wt co nu qi qc) (hrv : -2147483648 ≤ rv ∧ rv ≤ 2147483647) (hna : a + 84 ≤ n) (ht : Tw (CG Γ cI cJ cZ cT a ct rv th dn dd da df dt dw dc kn kd ka kf kt kw kc) hp) (hx1 : (-2147483648) ≤ x1 ∧ x1 ≤ 2147483647) (hx2 : (-2147483648) ≤ x2 ∧ x2 ≤ 2147483647) (hx3 : (-2147483648) ≤ x3 ∧ x3 ≤ 2147483647) (hx4 : (-2147483648) ≤ x4 ∧ x4 ≤ 2147483647) (h17 : x2 = 16 ∨ x2 = 17) (hr0 : rv = 0) : Mt (gG D cI cJ cZ cT lo b L xs) mX11_askSameness d 0 0 [.ref a, .int (iv x1), .int (iv x2), .int (iv x3), .int (iv x4)] hp n (qA Γ cI cJ cZ cT a dn dd da df dt dw dc n ct th (fun r w9 => ∃ v : Int64, r = some (.long v) ∧ w9 = dn2 ct so x1 1 x4 1 (x2 = 17 ∧ (x3 < 0 ∨ (sz (Int.toNat x1)) ≤ x3)) ∧ (w9 ≠ 0 → v = 0) ∧ (w9 = 0 → akN sz dr mn fr tt wt co x1 x2 x3 x4 v.toInt))) := by
  refine Mt.of rfl (Nat.le_of_ble_eq_true rfl) ?_
  refine Rn.pick (lv' := [(0, .ref a), (1, .int (iv x1)), (2, .int (iv x2)), (3, .int (iv x3)), (4, .int (iv x4))]) [0, 1, 2, 3, 4] rfl ?_
  obtain ⟨hct, hth, ⟨hdn, hdd1, hda, har⟩, ⟨hkn, hkd, hka⟩, hsh, hse, hpr, hfl, hsm⟩ := id hk
  refine r_aload_n (pc := 0) dX11_askSameness_0 (i := 0) rfl rfl ?_
  refine r_iload_n (pc := 1) dX11_askSameness_1 (i := 1) rfl rfl ?_
  refine u_graphAt (pc := 2) (x := x1) (st := []) hct hm ht kX11_106 dX11_askSameness_2 (by omega) (Nat.le_of_ble_eq_true rfl) (by omega) (fun hp1 ht2 hnog => ?_) (fun hp1 ga ht2 hyeg hTg => ?_)
  · refine r_astoreN (pc := 5) (lv' := [(5, .null), (0, .ref a), (1, .int (iv x1)), (2, .int (iv x2)), (3, .int (iv x3)), (4, .int (iv x4))]) dX11_askSameness_5 (by decide) rfl ?_
    refine r_aload_n (pc := 7) dX11_askSameness_7 (i := 0) rfl rfl ?_
    refine r_iload (pc := 8) dX11_askSameness_8 rfl ?_
    refine u_graphAt (pc := 10) (x := x4) (st := []) hct hm ht2 kX11_106 dX11_askSameness_10 (by omega) (Nat.le_of_ble_eq_true rfl) (by omega) (fun hp3 ht4 hnoj => ?_) (fun hp3 ja ht4 hyej hTj => ?_)
    · refine r_astoreN (pc := 13) (lv' := [(6, .null), (5, .null), (0, .ref a), (1, .int (iv x1)), (2, .int (iv x2)), (3, .int (iv x3)), (4, .int (iv x4))]) dX11_askSameness_13 (by decide) rfl ?_
      refine r_aloadN (pc := 15) dX11_askSameness_15 rfl ?_
      refine r_ifnullN (pc := 17) (tgt := 25) dX11_askSameness_17 (by decide) ?_
      refine r_aload_n (pc := 25) dX11_askSameness_25 (i := 0) rfl rfl ?_
      refine r_aload_n (pc := 26) dX11_askSameness_26 (i := 0) rfl rfl ?_
      refine r_iload_n (pc := 27) dX11_askSameness_27 (i := 1) rfl rfl ?_
      refine r_iload (pc := 28) dX11_askSameness_28 rfl ?_
      obtain ⟨fs9, hfs9⟩ := t_obj ht4 (rd_of CG_0)
      refine r_callV (pc := 30) (as := [.int (iv x1), .int (iv x4)]) (st := [.ref a]) kX11_127 rfl dX11_askSameness_30 hfs9 (uw_X11_whyNotBoth (d := d - 1) (x1 := x1) (x2 := x4) (by omega)  ht4 (by omega) (by omega) (by omega) hm) rfl (by omega) (Nat.le_of_ble_eq_true rfl) (Nat.zero_le _) (Nat.zero_le _) rfl (fun r6 hp5 n7 hq8 => ?_)
      obtain ⟨hnn7, bb_11, ht10, hrr6, hhq80, hhq81⟩ := hq8
      subst n7 r6
      have hhq80 : -2 ≤ bb_11 ∧ bb_11 ≤ -1 := hhq80
      have hhq81 : (bb_11 = -1 ∧ ¬ (0 ≤ x1 ∧ x1 < ct ∧ 0 ≤ x4 ∧ x4 < ct)) ∨ (bb_11 = -2 ∧ 0 ≤ x1 ∧ x1 < ct ∧ 0 ≤ x4 ∧ x4 < ct) := hhq81
      change Rn _ _ _ 33 _ [.int (iv bb_11), .ref a] _ _ _ _ _
      obtain ⟨fs16, hfs16⟩ := t_obj ht10 (rd_of CG_0)
      refine r_callV (pc := 33) (as := [.int (iv bb_11)]) (st := []) kX11_203 rfl dX11_askSameness_33 hfs16 (s_X11_deny (d := d - 1) (x1 := bb_11) (by omega)  ht10 (by omega)) rfl (by omega) (Nat.le_of_ble_eq_true rfl) (Nat.zero_le _) (Nat.zero_le _) rfl (fun r13 hp12 n14 hq15 => ?_)
      obtain ⟨hnn14, ht17, hrr13⟩ := hq15
      subst n14 r13
      change Rn _ _ _ 36 _ [.int (iv 0)] _ _ _ _ _
      refine r_i2l (pc := 36) (v := (iv 0).toInt64) dX11_askSameness_36 rfl ?_
      exact r_lret (pc := 37) dX11_askSameness_37 rfl ⟨by omega, Γ, bb_11, kn, kd, ka, kf, kt, kw, kc, (Ext_refl Γ), ht17, hk, by omega, ((iv 0).toInt64), rfl, by exact dn2_r (by omega), by (intro h9; first | rfl | omega | (exfalso; omega)), by (intro h9; exfalso; omega)⟩
    · obtain ⟨jF, jT, jW, jC, jTl, jHd, jBy, jOu, jIn, jJo, jn, jm, jq, jdr, Tl2, Hd2, By2, Ou2, In2, Jo2, jpos, hj, hltj, hxj, hgoj, houj, hinj, hjoj, heNj, heDj, heMj⟩ := id hTj
      have hfNj : Int.toNat (sz (Int.toNat x4)) = jn := by omega
      have hfMj : Int.toNat (mn (Int.toNat x4)) = jm := by omega
      obtain ⟨hj_O, hj_from, hj_to, hj_weight, hj_cost, hj_tail, hj_head, hj_by, hj_out, hj_in, hj_joined, hj_b⟩ := id hj
      refine r_astore (pc := 13) (lv' := [(6, .ref ja), (5, .null), (0, .ref a), (1, .int (iv x1)), (2, .int (iv x2)), (3, .int (iv x3)), (4, .int (iv x4))]) dX11_askSameness_13 (by decide) rfl ?_
      refine r_aloadN (pc := 15) dX11_askSameness_15 rfl ?_
      refine r_ifnullN (pc := 17) (tgt := 25) dX11_askSameness_17 (by decide) ?_
      refine r_aload_n (pc := 25) dX11_askSameness_25 (i := 0) rfl rfl ?_
      refine r_aload_n (pc := 26) dX11_askSameness_26 (i := 0) rfl rfl ?_
      refine r_iload_n (pc := 27) dX11_askSameness_27 (i := 1) rfl rfl ?_
      refine r_iload (pc := 28) dX11_askSameness_28 rfl ?_
      obtain ⟨fs22, hfs22⟩ := t_obj ht4 (rd_of CG_0)
      refine r_callV (pc := 30) (as := [.int (iv x1), .int (iv x4)]) (st := [.ref a]) kX11_127 rfl dX11_askSameness_30 hfs22 (uw_X11_whyNotBoth (d := d - 1) (x1 := x1) (x2 := x4) (by omega)  ht4 (by omega) (by omega) (by omega) hm) rfl (by omega) (Nat.le_of_ble_eq_true rfl) (Nat.zero_le _) (Nat.zero_le _) rfl (fun r19 hp18 n20 hq21 => ?_)
      obtain ⟨hnn20, bb_24, ht23, hrr19, hhq210, hhq211⟩ := hq21
      subst n20 r19
      have hhq210 : -2 ≤ bb_24 ∧ bb_24 ≤ -1 := hhq210
      have hhq211 : (bb_24 = -1 ∧ ¬ (0 ≤ x1 ∧ x1 < ct ∧ 0 ≤ x4 ∧ x4 < ct)) ∨ (bb_24 = -2 ∧ 0 ≤ x1 ∧ x1 < ct ∧ 0 ≤ x4 ∧ x4 < ct) := hhq211
      change Rn _ _ _ 33 _ [.int (iv bb_24), .ref a] _ _ _ _ _
      obtain ⟨fs29, hfs29⟩ := t_obj ht23 (rd_of CG_0)
      refine r_callV (pc := 33) (as := [.int (iv bb_24)]) (st := []) kX11_203 rfl dX11_askSameness_33 hfs29 (s_X11_deny (d := d - 1) (x1 := bb_24) (by omega)  ht23 (by omega)) rfl (by omega) (Nat.le_of_ble_eq_true rfl) (Nat.zero_le _) (Nat.zero_le _) rfl (fun r26 hp25 n27 hq28 => ?_)
      obtain ⟨hnn27, ht30, hrr26⟩ := hq28
      subst n27 r26
      change Rn _ _ _ 36 _ [.int (iv 0)] _ _ _ _ _
      refine r_i2l (pc := 36) (v := (iv 0).toInt64) dX11_askSameness_36 rfl ?_
      exact r_lret (pc := 37) dX11_askSameness_37 rfl ⟨by omega, Γ, bb_24, kn, kd, ka, kf, kt, kw, kc, (Ext_refl Γ), ht30, hk, by omega, ((iv 0).toInt64), rfl, by exact dn2_r (by omega), by (intro h9; first | rfl | omega | (exfalso; omega)), by (intro h9; exfalso; omega)⟩
  · obtain ⟨gF, gT, gW, gC, gTl, gHd, gBy, gOu, gIn, gJo, gn, gm, gq, gdr, Tl, Hd, By, Ou, In, Jo, gpos, hg, hltg, hxg, hgog, houg, hing, hjog, heNg, heDg, heMg⟩ := id hTg
    have hfNg : Int.toNat (sz (Int.toNat x1)) = gn := by omega
    have hfMg : Int.toNat (mn (Int.toNat x1)) = gm := by omega
    obtain ⟨hg_O, hg_from, hg_to, hg_weight, hg_cost, hg_tail, hg_head, hg_by, hg_out, hg_in, hg_joined, hg_b⟩ := id hg
    refine r_astore (pc := 5) (lv' := [(5, .ref ga), (0, .ref a), (1, .int (iv x1)), (2, .int (iv x2)), (3, .int (iv x3)), (4, .int (iv x4))]) dX11_askSameness_5 (by decide) rfl ?_
    refine r_aload_n (pc := 7) dX11_askSameness_7 (i := 0) rfl rfl ?_
    refine r_iload (pc := 8) dX11_askSameness_8 rfl ?_
    refine u_graphAt (pc := 10) (x := x4) (st := []) hct hm ht2 kX11_106 dX11_askSameness_10 (by omega) (Nat.le_of_ble_eq_true rfl) (by omega) (fun hp31 ht32 hnoj => ?_) (fun hp31 ja ht32 hyej hTj => ?_)
    · refine r_astoreN (pc := 13) (lv' := [(6, .null), (5, .ref ga), (0, .ref a), (1, .int (iv x1)), (2, .int (iv x2)), (3, .int (iv x3)), (4, .int (iv x4))]) dX11_askSameness_13 (by decide) rfl ?_
      refine r_aload (pc := 15) dX11_askSameness_15 rfl ?_
      refine r_ifnull (pc := 17) dX11_askSameness_17 ?_
      refine r_aloadN (pc := 20) dX11_askSameness_20 rfl ?_
      refine r_ifnonnullN (pc := 22) dX11_askSameness_22 ?_
      refine r_aload_n (pc := 25) dX11_askSameness_25 (i := 0) rfl rfl ?_
      refine r_aload_n (pc := 26) dX11_askSameness_26 (i := 0) rfl rfl ?_
      refine r_iload_n (pc := 27) dX11_askSameness_27 (i := 1) rfl rfl ?_
      refine r_iload (pc := 28) dX11_askSameness_28 rfl ?_
      obtain ⟨fs37, hfs37⟩ := t_obj ht32 (rd_of CG_0)
      refine r_callV (pc := 30) (as := [.int (iv x1), .int (iv x4)]) (st := [.ref a]) kX11_127 rfl dX11_askSameness_30 hfs37 (uw_X11_whyNotBoth (d := d - 1) (x1 := x1) (x2 := x4) (by omega)  ht32 (by omega) (by omega) (by omega) hm) rfl (by omega) (Nat.le_of_ble_eq_true rfl) (Nat.zero_le _) (Nat.zero_le _) rfl (fun r34 hp33 n35 hq36 => ?_)
      obtain ⟨hnn35, bb_39, ht38, hrr34, hhq360, hhq361⟩ := hq36
      subst n35 r34
      have hhq360 : -2 ≤ bb_39 ∧ bb_39 ≤ -1 := hhq360
      have hhq361 : (bb_39 = -1 ∧ ¬ (0 ≤ x1 ∧ x1 < ct ∧ 0 ≤ x4 ∧ x4 < ct)) ∨ (bb_39 = -2 ∧ 0 ≤ x1 ∧ x1 < ct ∧ 0 ≤ x4 ∧ x4 < ct) := hhq361
      change Rn _ _ _ 33 _ [.int (iv bb_39), .ref a] _ _ _ _ _
      obtain ⟨fs44, hfs44⟩ := t_obj ht38 (rd_of CG_0)
      refine r_callV (pc := 33) (as := [.int (iv bb_39)]) (st := []) kX11_203 rfl dX11_askSameness_33 hfs44 (s_X11_deny (d := d - 1) (x1 := bb_39) (by omega)  ht38 (by omega)) rfl (by omega) (Nat.le_of_ble_eq_true rfl) (Nat.zero_le _) (Nat.zero_le _) rfl (fun r41 hp40 n42 hq43 => ?_)
      obtain ⟨hnn42, ht45, hrr41⟩ := hq43
      subst n42 r41
      change Rn _ _ _ 36 _ [.int (iv 0)] _ _ _ _ _
      refine r_i2l (pc := 36) (v := (iv 0).toInt64) dX11_askSameness_36 rfl ?_
      exact r_lret (pc := 37) dX11_askSameness_37 rfl ⟨by omega, Γ, bb_39, kn, kd, ka, kf, kt, kw, kc, (Ext_refl Γ), ht45, hk, by omega, ((iv 0).toInt64), rfl, by exact dn2_r (by omega), by (intro h9; first | rfl | omega | (exfalso; omega)), by (intro h9; exfalso; omega)⟩
    · obtain ⟨jF, jT, jW, jC, jTl, jHd, jBy, jOu, jIn, jJo, jn, jm, jq, jdr, Tl2, Hd2, By2, Ou2, In2, Jo2, jpos, hj, hltj, hxj, hgoj, houj, hinj, hjoj, heNj, heDj, heMj⟩ := id hTj
      have hfNj : Int.toNat (sz (Int.toNat x4)) = jn := by omega
      have hfMj : Int.toNat (mn (Int.toNat x4)) = jm := by omega
      obtain ⟨hj_O, hj_from, hj_to, hj_weight, hj_cost, hj_tail, hj_head, hj_by, hj_out, hj_in, hj_joined, hj_b⟩ := id hj
      refine r_astore (pc := 13) (lv' := [(6, .ref ja), (5, .ref ga), (0, .ref a), (1, .int (iv x1)), (2, .int (iv x2)), (3, .int (iv x3)), (4, .int (iv x4))]) dX11_askSameness_13 (by decide) rfl ?_
      refine r_aload (pc := 15) dX11_askSameness_15 rfl ?_
      refine r_ifnull (pc := 17) dX11_askSameness_17 ?_
      refine r_aload (pc := 20) dX11_askSameness_20 rfl ?_
      refine r_ifnonnull (pc := 22) (tgt := 38) dX11_askSameness_22 (by decide) ?_
      refine r_iload_n (pc := 38) dX11_askSameness_38 (i := 2) rfl rfl ?_
      refine r_bipush (pc := 39) (v := iv 16) dX11_askSameness_39 (by decide) ?_
      refine t_icmp_ne (pc := 41) (tgt := 64) dX11_askSameness_41 (by decide) (by omega) (by omega) (fun c41 => ?_) (fun c41 => ?_)
      · refine r_iload_n (pc := 64) dX11_askSameness_64 (i := 3) rfl rfl ?_
        refine r_aload (pc := 65) dX11_askSameness_65 rfl ?_
        refine t_getE (pc := 67) (.int (iv (gn : Int))) ht32 (rd_CG (by omega) hg_O) fX11_134 dX11_askSameness_67 rfl ?_
        refine t_callSI (pc := 70) (as := [.int (iv x3), .int (iv (gn : Int))]) (st := []) kX11_74 dX11_askSameness_70 (t_X11_isNode (d := d - 1) (x0 := x3) (x1 := (gn : Int)) (by omega)   ht32 (by omega) (by omega) ) rfl (by omega) (Nat.le_of_ble_eq_true rfl) rfl (fun hp46 y48 ht47 by48 => ?_)
        obtain ⟨by481, by482⟩ := by48
        refine t_if_ne (pc := 73) (tgt := 84) dX11_askSameness_73 (by decide) (by omega) (fun c73 => ?_) (fun c73 => ?_)
        · refine r_aload_n (pc := 84) dX11_askSameness_84 (i := 0) rfl rfl ?_
          refine t_getE (pc := 85) (.ref (a + 36)) ht47 (rd_of CG_0) fX11_63 dX11_askSameness_85 rfl ?_
          refine r_aload (pc := 88) dX11_askSameness_88 rfl ?_
          refine r_aload (pc := 90) dX11_askSameness_90 rfl ?_
          obtain ⟨fs56, hfs56⟩ := t_obj ht47 (rd_CG (by omega) (rd_of hsm.1))
          refine r_callV (pc := 92) (as := [.ref ga, .ref ja]) (st := []) kX11_250 rfl dX11_askSameness_92 hfs56 (c_X6_findx (d := d - 1) (s := a + 36) (by omega) (eq_CG (by omega) hsm.1) (eq_CG (by omega) hsm.2.1) (eq_CG (by omega) hsm.2.2.1) (eq_CG (by omega) hsm.2.2.2.1) (eq_CG (by omega) hsm.2.2.2.2) (TyG.cg (by omega) hg) (XG.cg (by omega) hxg) (TyG.cg (by omega) hj) (XG.cg (by omega) hxj) (by omega) (by omega) ht47) rfl (by omega) (Nat.le_of_ble_eq_true rfl) (Nat.zero_le _) (Nat.zero_le _) rfl (fun r49 hp50 n51 q52 => ?_)
          obtain ⟨hnn51, Nu1, y55, ht53, hRn, hrr49, hfd⟩ := q52
          subst n51 r49
          have by55 : 0 ≤ y55 ∧ y55 ≤ 1 := by rcases hfd with ⟨e9, -⟩ | ⟨e9, -⟩ <;> omega
          have ht54 := Tw.closeI ht53 (eq_CG (by omega) hsm.2.2.2.2) hRn
          change Rn _ _ _ 95 _ [.int (iv y55)] _ _ _ _ _
          refine t_if_eq (pc := 95) (tgt := 110) dX11_askSameness_95 (by decide) (by omega) (fun c95 => ?_) (fun c95 => ?_)
          · refine r_ldc2 (pc := 110) (v := (-1)) dX11_askSameness_110 kX11_257 ?_
            exact r_lret (pc := 113) dX11_askSameness_113 rfl ⟨by omega, Γ, rv, kn, kd, ka, kf, kt, kw, kc, (Ext_refl Γ), ht54, hk, by omega, ((-1) : Int64), rfl, by exact dn2_m (by omega) (by omega) (by omega), by (intro h9; first | rfl | omega | (exfalso; omega)), by (intro h9; exact ⟨fun q9 => absurd q9 (by omega), fun _ => al_cl heNg heDg heMg heNj heDj heMj hfd (Or.inr ⟨by omega, by rw [if_pos (by omega)]; rfl⟩)⟩)⟩
          · refine r_aload_n (pc := 98) dX11_askSameness_98 (i := 0) rfl rfl ?_
            refine t_getE (pc := 99) (.ref (a + 36)) ht54 (rd_of CG_0) fX11_63 dX11_askSameness_99 rfl ?_
            refine r_iload_n (pc := 102) dX11_askSameness_102 (i := 3) rfl rfl ?_
            refine t_callVI (pc := 103) (as := [.int (iv x3)]) (st := []) ht53 (rd_ov (by omega) (rd_CG (by omega) (rd_of hsm.1))) kX11_254 rfl dX11_askSameness_103 (c_X6_newNumberx (d := d - 1) (s := a + 36) (x1 := x3) (by omega) (rd_ov (by omega) (rd_CG (by omega) (rd_of hsm.1))) (rd_of (ov_s _ _ _)) hRn ht53 (by omega)) rfl (by omega) (Nat.le_of_ble_eq_true rfl) rfl (fun hp58 y57 ht59 hnu => ?_)
            have by57 : 0 ≤ y57 ∧ y57 ≤ 15 := by rw [hnu]; exact hRn _ (by omega)
            have ht60 := Tw.closeI ht59 (eq_CG (by omega) hsm.2.2.2.2) hRn
            refine r_i2l (pc := 106) (v := (iv y57).toInt64) dX11_askSameness_106 rfl ?_
            refine r_goto (pc := 107) (tgt := 113) dX11_askSameness_107 (by decide) ?_
            exact r_lret (pc := 113) dX11_askSameness_113 rfl ⟨by omega, Γ, rv, kn, kd, ka, kf, kt, kw, kc, (Ext_refl Γ), ht60, hk, by omega, ((iv y57).toInt64), rfl, by exact dn2_m (by omega) (by omega) (by omega), by (intro h9; first | rfl | omega | (exfalso; omega)), by (intro h9; exact ⟨fun q9 => absurd q9 (by omega), fun _ => al_cl heNg heDg heMg heNj heDj heMj hfd (Or.inl ⟨by omega, by rw [if_pos (by omega), iv_long (by omega)]; exact hnu⟩)⟩)⟩
        · refine r_aload_n (pc := 76) dX11_askSameness_76 (i := 0) rfl rfl ?_
          refine r_bipush (pc := 77) (v := iv (-3)) dX11_askSameness_77 (by decide) ?_
          obtain ⟨fs65, hfs65⟩ := t_obj ht47 (rd_of CG_0)
          refine r_callV (pc := 79) (as := [.int (iv (-3))]) (st := []) kX11_203 rfl dX11_askSameness_79 hfs65 (s_X11_deny (d := d - 1) (x1 := (-3)) (by omega)  ht47 (by omega)) rfl (by omega) (Nat.le_of_ble_eq_true rfl) (Nat.zero_le _) (Nat.zero_le _) rfl (fun r62 hp61 n63 hq64 => ?_)
          obtain ⟨hnn63, ht66, hrr62⟩ := hq64
          subst n63 r62
          change Rn _ _ _ 82 _ [.int (iv 0)] _ _ _ _ _
          refine r_i2l (pc := 82) (v := (iv 0).toInt64) dX11_askSameness_82 rfl ?_
          exact r_lret (pc := 83) dX11_askSameness_83 rfl ⟨by omega, Γ, (-3), kn, kd, ka, kf, kt, kw, kc, (Ext_refl Γ), ht66, hk, by omega, ((iv 0).toInt64), rfl, by exact dn2_b rfl (by omega) (by omega), by (intro h9; first | rfl | omega | (exfalso; omega)), by (intro h9; exfalso; omega)⟩
      · refine r_aload_n (pc := 44) dX11_askSameness_44 (i := 0) rfl rfl ?_
        refine t_getE (pc := 45) (.ref (a + 36)) ht32 (rd_of CG_0) fX11_63 dX11_askSameness_45 rfl ?_
        refine r_aload (pc := 48) dX11_askSameness_48 rfl ?_
        refine r_aload (pc := 50) dX11_askSameness_50 rfl ?_
        obtain ⟨fs74, hfs74⟩ := t_obj ht32 (rd_CG (by omega) (rd_of hsm.1))
        refine r_callV (pc := 52) (as := [.ref ga, .ref ja]) (st := []) kX11_250 rfl dX11_askSameness_52 hfs74 (c_X6_findx (d := d - 1) (s := a + 36) (by omega) (eq_CG (by omega) hsm.1) (eq_CG (by omega) hsm.2.1) (eq_CG (by omega) hsm.2.2.1) (eq_CG (by omega) hsm.2.2.2.1) (eq_CG (by omega) hsm.2.2.2.2) (TyG.cg (by omega) hg) (XG.cg (by omega) hxg) (TyG.cg (by omega) hj) (XG.cg (by omega) hxj) (by omega) (by omega) ht32) rfl (by omega) (Nat.le_of_ble_eq_true rfl) (Nat.zero_le _) (Nat.zero_le _) rfl (fun r67 hp68 n69 q70 => ?_)
        obtain ⟨hnn69, Nu1, y73, ht71, hRn, hrr67, hfd⟩ := q70
        subst n69 r67
        have by73 : 0 ≤ y73 ∧ y73 ≤ 1 := by rcases hfd with ⟨e9, -⟩ | ⟨e9, -⟩ <;> omega
        have ht72 := Tw.closeI ht71 (eq_CG (by omega) hsm.2.2.2.2) hRn
        change Rn _ _ _ 55 _ [.int (iv y73)] _ _ _ _ _
        refine t_if_eq (pc := 55) (tgt := 62) dX11_askSameness_55 (by decide) (by omega) (fun c55 => ?_) (fun c55 => ?_)
        · refine r_lconst (pc := 62) (v := 0) dX11_askSameness_62 (by decide) ?_
          exact r_lret (pc := 63) dX11_askSameness_63 rfl ⟨by omega, Γ, rv, kn, kd, ka, kf, kt, kw, kc, (Ext_refl Γ), ht72, hk, by omega, (0 : Int64), rfl, by exact dn2_m (by omega) (by omega) (by omega), by (intro h9; first | rfl | omega | (exfalso; omega)), by (intro h9; exact ⟨fun q9 => absurd q9 (by omega), fun _ => al_cl heNg heDg heMg heNj heDj heMj hfd (Or.inr ⟨by omega, by rw [if_neg (by omega)]; rfl⟩)⟩)⟩
        · refine r_lconst (pc := 58) (v := 1) dX11_askSameness_58 (by decide) ?_
          refine r_goto (pc := 59) (tgt := 63) dX11_askSameness_59 (by decide) ?_
          exact r_lret (pc := 63) dX11_askSameness_63 rfl ⟨by omega, Γ, rv, kn, kd, ka, kf, kt, kw, kc, (Ext_refl Γ), ht72, hk, by omega, (1 : Int64), rfl, by exact dn2_m (by omega) (by omega) (by omega), by (intro h9; first | rfl | omega | (exfalso; omega)), by (intro h9; exact ⟨fun q9 => absurd q9 (by omega), fun _ => al_cl heNg heDg heMg heNj heDj heMj hfd (Or.inl ⟨by omega, by rw [if_neg (by omega)]; rfl⟩)⟩)⟩
