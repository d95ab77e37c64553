set_option maxHeartbeats 4000000 in
set_option maxRecDepth 100000 in
theorem y_X11_append {D : va_G} {cI cJ cZ cT : ClassId} {lo b L : Nat} {xs : Nat → Int32} {hp : MH} {n d : Nat} {Γ : TG} {a : Nat} {ct : Int} {rv : Int} {th : Nat → Option Nat} {dn : Int} {dd : Int} {da : Int} {df : Nat → Int} {dt : Nat → Int} {dw : Nat → Int} {dc : Nat → Int} {kn : Int} {kd : Int} {ka : Int} {kf : Nat → Int} {kt : Nat → Int} {kw : Nat → Int} {kc : Nat → Int} {so sz dr mn fr tt wt co : Nat → Int} {nu : Nat → Int64} {qi qc : Nat → Int} {x1 x2 : Int} (hd0 : 4 ≤ d) (hk : EK Γ cI cJ cZ a ct th dn dd da df dt dw dc kn kd ka) (hm : HM Γ cI cJ cZ a ct th so sz dr mn fr tt wt co nu qi qc) (hrv : -2147483648 ≤ rv ∧ rv ≤ 2147483647) (hna : a + 84 ≤ n) (ht : Tw (CG Γ cI cJ cZ cT a ct rv th dn dd da df dt dw dc kn kd ka kf kt kw kc) hp) (hx1 : (-2147483648) ≤ x1 ∧ x1 ≤ 2147483647) (hx2 : (-2147483648) ≤ x2 ∧ x2 ≤ 2147483647) (hr0 : rv = 0) : Mt (gG D cI cJ cZ cT lo b L xs) mX11_append d 11 662 [.ref a, .int (iv x1), .int (iv x2)] hp n (qM Γ cI cJ cZ cT a dn dd da df dt dw dc n ct th (an2 ct so x1 1 x2 1 (dr (Int.toNat x1) ≠ dr (Int.toNat x2)) (16 < sz (Int.toNat x1) + sz (Int.toNat x2) ∨ 60 < (((acc (cpE (sh fr (60 * x1)) (sh tt (60 * x1)) (sh wt (60 * x1)) (sh co (60 * x1)) 0) (Int.toNat (mn (Int.toNat x1))) ++ acc (cpE (sh fr (60 * x2)) (sh tt (60 * x2)) (sh wt (60 * x2)) (sh co (60 * x2)) (sz (Int.toNat x1))) (Int.toNat (mn (Int.toNat x2))))).length : Int) ∨ ct = 120)) (fun Γ1 t => WG Γ1 cI cJ cZ a (sz (Int.toNat x1) + sz (Int.toNat x2)) (dr (Int.toNat x1)) (acc (cpE (sh fr (60 * x1)) (sh tt (60 * x1)) (sh wt (60 * x1)) (sh co (60 * x1)) 0) (Int.toNat (mn (Int.toNat x1))) ++ acc (cpE (sh fr (60 * x2)) (sh tt (60 * x2)) (sh wt (60 * x2)) (sh co (60 * x2)) (sz (Int.toNat x1))) (Int.toNat (mn (Int.toNat x2)))) t)) := by
  refine Mt.of rfl (Nat.le_of_ble_eq_true rfl) ?_
  refine Rn.pick (lv' := [(0, .ref a), (1, .int (iv x1)), (2, .int (iv x2))]) [0, 1, 2] rfl ?_
  obtain ⟨hct, hth, ⟨hdn, hdd1, hda, har⟩, ⟨hkn, hkd, hka⟩, hsh, hse, hpr, hfl, hsm⟩ := id hk
  refine r_aload_n (pc := 0) dX11_append_0 (i := 0) rfl rfl ?_
  refine r_iload_n (pc := 1) dX11_append_1 (i := 1) rfl rfl ?_
  refine u_graphAt (pc := 2) (x := x1) (st := []) hct hm ht kX11_106 dX11_append_2 (by omega) (Nat.le_of_ble_eq_true rfl) (by omega) (fun hp1 ht2 hnog => ?_) (fun hp1 ga ht2 hyeg hTg => ?_)
  · refine r_astore_nN (pc := 5) (lv' := [(3, .null), (0, .ref a), (1, .int (iv x1)), (2, .int (iv x2))]) dX11_append_5 (i := 3) rfl (by decide) rfl ?_
    refine r_aload_n (pc := 6) dX11_append_6 (i := 0) rfl rfl ?_
    refine r_iload_n (pc := 7) dX11_append_7 (i := 2) rfl rfl ?_
    refine u_graphAt (pc := 8) (x := x2) (st := []) hct hm ht2 kX11_106 dX11_append_8 (by omega) (Nat.le_of_ble_eq_true rfl) (by omega) (fun hp3 ht4 hnoj => ?_) (fun hp3 ja ht4 hyej hTj => ?_)
    · refine r_astoreN (pc := 11) (lv' := [(4, .null), (3, .null), (0, .ref a), (1, .int (iv x1)), (2, .int (iv x2))]) dX11_append_11 (by decide) rfl ?_
      refine r_aload_nN (pc := 13) dX11_append_13 (i := 3) rfl rfl ?_
      refine r_ifnullN (pc := 14) (tgt := 22) dX11_append_14 (by decide) ?_
      refine r_aload_n (pc := 22) dX11_append_22 (i := 0) rfl rfl ?_
      refine r_aload_n (pc := 23) dX11_append_23 (i := 0) rfl rfl ?_
      refine r_iload_n (pc := 24) dX11_append_24 (i := 1) rfl rfl ?_
      refine r_iload_n (pc := 25) dX11_append_25 (i := 2) rfl rfl ?_
      obtain ⟨fs9, hfs9⟩ := t_obj ht4 (rd_of CG_0)
      refine r_callV (pc := 26) (as := [.int (iv x1), .int (iv x2)]) (st := [.ref a]) kX11_127 rfl dX11_append_26 hfs9 (uw_X11_whyNotBoth (d := d - 1) (x1 := x1) (x2 := x2) (by omega)  ht4 (by omega) (by omega) (by omega) hm) rfl (by omega) (Nat.le_of_ble_eq_true rfl) (Nat.zero_le _) (Nat.zero_le _) rfl (fun r6 hp5 n7 hq8 => ?_)
      obtain ⟨hnn7, bb_11, ht10, hrr6, hhq80, hhq81⟩ := hq8
      subst n7 r6
      have hhq80 : -2 ≤ bb_11 ∧ bb_11 ≤ -1 := hhq80
      have hhq81 : (bb_11 = -1 ∧ ¬ (0 ≤ x1 ∧ x1 < ct ∧ 0 ≤ x2 ∧ x2 < ct)) ∨ (bb_11 = -2 ∧ 0 ≤ x1 ∧ x1 < ct ∧ 0 ≤ x2 ∧ x2 < ct) := hhq81
      change Rn _ _ _ 29 _ [.int (iv bb_11), .ref a] _ _ _ _ _
      obtain ⟨fs16, hfs16⟩ := t_obj ht10 (rd_of CG_0)
      refine r_callV (pc := 29) (as := [.int (iv bb_11)]) (st := []) kX11_82 rfl dX11_append_29 hfs16 (s_X11_refuse (d := d - 1) (x1 := bb_11) (by omega)  ht10 (by omega)) rfl (by omega) (Nat.le_of_ble_eq_true rfl) (Nat.zero_le _) (Nat.zero_le _) rfl (fun r13 hp12 n14 hq15 => ?_)
      obtain ⟨hnn14, ht17, hrr13⟩ := hq15
      subst n14 r13
      change Rn _ _ _ 32 _ [.int (iv bb_11)] _ _ _ _ _
      exact r_iret (pc := 32) dX11_append_32 rfl ⟨by omega, Γ, ct, bb_11, th, kn, kd, ka, kf, kt, kw, kc, bb_11, (Ext_refl Γ), ht17, hk, rfl, by exact an2_r (by omega), by omega, fun h9 => ⟨by omega, rfl, rfl⟩, fun h9 => absurd h9 (by omega)⟩
    · obtain ⟨jF, jT, jW, jC, jTl, jHd, jBy, jOu, jIn, jJo, jn, jm, jq, jdr, Tl2, Hd2, By2, Ou2, In2, Jo2, jpos, hj, hltj, hxj, hgoj, houj, hinj, hjoj, heNj, heDj, heMj⟩ := id hTj
      have hfNj : Int.toNat (sz (Int.toNat x2)) = jn := by omega
      have hfMj : Int.toNat (mn (Int.toNat x2)) = jm := by omega
      obtain ⟨hj_O, hj_from, hj_to, hj_weight, hj_cost, hj_tail, hj_head, hj_by, hj_out, hj_in, hj_joined, hj_b⟩ := id hj
      refine r_astore (pc := 11) (lv' := [(4, .ref ja), (3, .null), (0, .ref a), (1, .int (iv x1)), (2, .int (iv x2))]) dX11_append_11 (by decide) rfl ?_
      refine r_aload_nN (pc := 13) dX11_append_13 (i := 3) rfl rfl ?_
      refine r_ifnullN (pc := 14) (tgt := 22) dX11_append_14 (by decide) ?_
      refine r_aload_n (pc := 22) dX11_append_22 (i := 0) rfl rfl ?_
      refine r_aload_n (pc := 23) dX11_append_23 (i := 0) rfl rfl ?_
      refine r_iload_n (pc := 24) dX11_append_24 (i := 1) rfl rfl ?_
      refine r_iload_n (pc := 25) dX11_append_25 (i := 2) rfl rfl ?_
      obtain ⟨fs22, hfs22⟩ := t_obj ht4 (rd_of CG_0)
      refine r_callV (pc := 26) (as := [.int (iv x1), .int (iv x2)]) (st := [.ref a]) kX11_127 rfl dX11_append_26 hfs22 (uw_X11_whyNotBoth (d := d - 1) (x1 := x1) (x2 := x2) (by omega)  ht4 (by omega) (by omega) (by omega) hm) rfl (by omega) (Nat.le_of_ble_eq_true rfl) (Nat.zero_le _) (Nat.zero_le _) rfl (fun r19 hp18 n20 hq21 => ?_)
      obtain ⟨hnn20, bb_24, ht23, hrr19, hhq210, hhq211⟩ := hq21
      subst n20 r19
      have hhq210 : -2 ≤ bb_24 ∧ bb_24 ≤ -1 := hhq210
      have hhq211 : (bb_24 = -1 ∧ ¬ (0 ≤ x1 ∧ x1 < ct ∧ 0 ≤ x2 ∧ x2 < ct)) ∨ (bb_24 = -2 ∧ 0 ≤ x1 ∧ x1 < ct ∧ 0 ≤ x2 ∧ x2 < ct) := hhq211
      change Rn _ _ _ 29 _ [.int (iv bb_24), .ref a] _ _ _ _ _
      obtain ⟨fs29, hfs29⟩ := t_obj ht23 (rd_of CG_0)
      refine r_callV (pc := 29) (as := [.int (iv bb_24)]) (st := []) kX11_82 rfl dX11_append_29 hfs29 (s_X11_refuse (d := d - 1) (x1 := bb_24) (by omega)  ht23 (by omega)) rfl (by omega) (Nat.le_of_ble_eq_true rfl) (Nat.zero_le _) (Nat.zero_le _) rfl (fun r26 hp25 n27 hq28 => ?_)
      obtain ⟨hnn27, ht30, hrr26⟩ := hq28
      subst n27 r26
      change Rn _ _ _ 32 _ [.int (iv bb_24)] _ _ _ _ _
      exact r_iret (pc := 32) dX11_append_32 rfl ⟨by omega, Γ, ct, bb_24, th, kn, kd, ka, kf, kt, kw, kc, bb_24, (Ext_refl Γ), ht30, hk, rfl, by exact an2_r (by omega), by omega, fun h9 => ⟨by omega, rfl, rfl⟩, fun h9 => absurd h9 (by omega)⟩
  · obtain ⟨gF, gT, gW, gC, gTl, gHd, gBy, gOu, gIn, gJo, gn, gm, gq, gdr, Tl, Hd, By, Ou, In, Jo, gpos, hg, hltg, hxg, hgog, houg, hing, hjog, heNg, heDg, heMg⟩ := id hTg
    have hfNg : Int.toNat (sz (Int.toNat x1)) = gn := by omega
    have hfMg : Int.toNat (mn (Int.toNat x1)) = gm := by omega
    obtain ⟨hg_O, hg_from, hg_to, hg_weight, hg_cost, hg_tail, hg_head, hg_by, hg_out, hg_in, hg_joined, hg_b⟩ := id hg
    refine r_astore_n (pc := 5) (lv' := [(3, .ref ga), (0, .ref a), (1, .int (iv x1)), (2, .int (iv x2))]) dX11_append_5 (i := 3) rfl (by decide) rfl ?_
    refine r_aload_n (pc := 6) dX11_append_6 (i := 0) rfl rfl ?_
    refine r_iload_n (pc := 7) dX11_append_7 (i := 2) rfl rfl ?_
    refine u_graphAt (pc := 8) (x := x2) (st := []) hct hm ht2 kX11_106 dX11_append_8 (by omega) (Nat.le_of_ble_eq_true rfl) (by omega) (fun hp31 ht32 hnoj => ?_) (fun hp31 ja ht32 hyej hTj => ?_)
    · refine r_astoreN (pc := 11) (lv' := [(4, .null), (3, .ref ga), (0, .ref a), (1, .int (iv x1)), (2, .int (iv x2))]) dX11_append_11 (by decide) rfl ?_
      refine r_aload_n (pc := 13) dX11_append_13 (i := 3) rfl rfl ?_
      refine r_ifnull (pc := 14) dX11_append_14 ?_
      refine r_aloadN (pc := 17) dX11_append_17 rfl ?_
      refine r_ifnonnullN (pc := 19) dX11_append_19 ?_
      refine r_aload_n (pc := 22) dX11_append_22 (i := 0) rfl rfl ?_
      refine r_aload_n (pc := 23) dX11_append_23 (i := 0) rfl rfl ?_
      refine r_iload_n (pc := 24) dX11_append_24 (i := 1) rfl rfl ?_
      refine r_iload_n (pc := 25) dX11_append_25 (i := 2) rfl rfl ?_
      obtain ⟨fs37, hfs37⟩ := t_obj ht32 (rd_of CG_0)
      refine r_callV (pc := 26) (as := [.int (iv x1), .int (iv x2)]) (st := [.ref a]) kX11_127 rfl dX11_append_26 hfs37 (uw_X11_whyNotBoth (d := d - 1) (x1 := x1) (x2 := x2) (by omega)  ht32 (by omega) (by omega) (by omega) hm) rfl (by omega) (Nat.le_of_ble_eq_true rfl) (Nat.zero_le _) (Nat.zero_le _) rfl (fun r34 hp33 n35 hq36 => ?_)
      obtain ⟨hnn35, bb_39, ht38, hrr34, hhq360, hhq361⟩ := hq36
      subst n35 r34
      have hhq360 : -2 ≤ bb_39 ∧ bb_39 ≤ -1 := hhq360
      have hhq361 : (bb_39 = -1 ∧ ¬ (0 ≤ x1 ∧ x1 < ct ∧ 0 ≤ x2 ∧ x2 < ct)) ∨ (bb_39 = -2 ∧ 0 ≤ x1 ∧ x1 < ct ∧ 0 ≤ x2 ∧ x2 < ct) := hhq361
      change Rn _ _ _ 29 _ [.int (iv bb_39), .ref a] _ _ _ _ _
      obtain ⟨fs44, hfs44⟩ := t_obj ht38 (rd_of CG_0)
      refine r_callV (pc := 29) (as := [.int (iv bb_39)]) (st := []) kX11_82 rfl dX11_append_29 hfs44 (s_X11_refuse (d := d - 1) (x1 := bb_39) (by omega)  ht38 (by omega)) rfl (by omega) (Nat.le_of_ble_eq_true rfl) (Nat.zero_le _) (Nat.zero_le _) rfl (fun r41 hp40 n42 hq43 => ?_)
      obtain ⟨hnn42, ht45, hrr41⟩ := hq43
      subst n42 r41
      change Rn _ _ _ 32 _ [.int (iv bb_39)] _ _ _ _ _
      exact r_iret (pc := 32) dX11_append_32 rfl ⟨by omega, Γ, ct, bb_39, th, kn, kd, ka, kf, kt, kw, kc, bb_39, (Ext_refl Γ), ht45, hk, rfl, by exact an2_r (by omega), by omega, fun h9 => ⟨by omega, rfl, rfl⟩, fun h9 => absurd h9 (by omega)⟩
    · obtain ⟨jF, jT, jW, jC, jTl, jHd, jBy, jOu, jIn, jJo, jn, jm, jq, jdr, Tl2, Hd2, By2, Ou2, In2, Jo2, jpos, hj, hltj, hxj, hgoj, houj, hinj, hjoj, heNj, heDj, heMj⟩ := id hTj
      have hfNj : Int.toNat (sz (Int.toNat x2)) = jn := by omega
      have hfMj : Int.toNat (mn (Int.toNat x2)) = jm := by omega
      obtain ⟨hj_O, hj_from, hj_to, hj_weight, hj_cost, hj_tail, hj_head, hj_by, hj_out, hj_in, hj_joined, hj_b⟩ := id hj
      refine r_astore (pc := 11) (lv' := [(4, .ref ja), (3, .ref ga), (0, .ref a), (1, .int (iv x1)), (2, .int (iv x2))]) dX11_append_11 (by decide) rfl ?_
      refine r_aload_n (pc := 13) dX11_append_13 (i := 3) rfl rfl ?_
      refine r_ifnull (pc := 14) dX11_append_14 ?_
      refine r_aload (pc := 17) dX11_append_17 rfl ?_
      refine r_ifnonnull (pc := 19) (tgt := 33) dX11_append_19 (by decide) ?_
      refine r_aload_n (pc := 33) dX11_append_33 (i := 3) rfl rfl ?_
      refine t_getE (pc := 34) (.int (iv gdr)) ht32 (rd_CG (by omega) hg_O) fX11_130 dX11_append_34 rfl ?_
      refine r_aload (pc := 37) dX11_append_37 rfl ?_
      refine t_getE (pc := 39) (.int (iv jdr)) ht32 (rd_CG (by omega) hj_O) fX11_130 dX11_append_39 rfl ?_
      refine t_icmp_eq (pc := 42) (tgt := 52) dX11_append_42 (by decide) (by omega) (by omega) (fun c42 => ?_) (fun c42 => ?_)
      · have hlen : (((acc (cpE (sh fr (60 * x1)) (sh tt (60 * x1)) (sh wt (60 * x1)) (sh co (60 * x1)) 0) (Int.toNat (mn (Int.toNat x1))) ++ acc (cpE (sh fr (60 * x2)) (sh tt (60 * x2)) (sh wt (60 * x2)) (sh co (60 * x2)) (sz (Int.toNat x1))) (Int.toNat (mn (Int.toNat x2))))).length : Int) = (gm : Int) + (jm : Int) := by rw [List.length_append, cp_len, cp_len, hfMg, hfMj]; omega
        refine r_aload_n (pc := 52) dX11_append_52 (i := 3) rfl rfl ?_
        refine t_getE (pc := 53) (.int (iv (gn : Int))) ht32 (rd_CG (by omega) hg_O) fX11_134 dX11_append_53 rfl ?_
        refine r_aload (pc := 56) dX11_append_56 rfl ?_
        refine t_getE (pc := 58) (.int (iv (jn : Int))) ht32 (rd_CG (by omega) hj_O) fX11_134 dX11_append_58 rfl ?_
        refine r_iadd (pc := 61) (v := iv ((gn : Int) + (jn : Int))) dX11_append_61 (iv_add _ _) ?_
        refine r_bipush (pc := 62) (v := iv 16) dX11_append_62 (by decide) ?_
        refine t_icmp_gt (pc := 64) (tgt := 86) dX11_append_64 (by decide) (by omega) (by omega) (fun c64 => ?_) (fun c64 => ?_)
        · refine r_iconst (pc := 86) (v := iv 0) dX11_append_86 (by decide) ?_
          refine r_istore (pc := 87) (lv' := [(5, .int (iv 0)), (4, .ref ja), (3, .ref ga), (0, .ref a), (1, .int (iv x1)), (2, .int (iv x2))]) dX11_append_87 (by decide) rfl ?_
          refine r_aload_n (pc := 89) dX11_append_89 (i := 0) rfl rfl ?_
          obtain ⟨fs50, hfs50⟩ := t_obj ht32 (rd_of CG_0)
          refine r_callV (pc := 90) (as := []) (st := []) kX11_93 rfl dX11_append_90 hfs50 (s_X11_isFull (d := d - 1)  (by omega)  ht32  (by omega)) rfl (by omega) (Nat.le_of_ble_eq_true rfl) (Nat.zero_le _) (Nat.zero_le _) rfl (fun r47 hp46 n48 hq49 => ?_)
          obtain ⟨hnn48, bb_52, ht51, hrr47, hhq490⟩ := hq49
          subst n48 r47
          have hhq490 : (bb_52 = 1 ∧ 120 ≤ ct) ∨ (bb_52 = 0 ∧ ct < 120) := hhq490
          change Rn _ _ _ 93 _ [.int (iv bb_52)] _ _ _ _ _
          refine t_if_ne (pc := 93) (tgt := 101) dX11_append_93 (by decide) (by omega) (fun c93 => ?_) (fun c93 => ?_)
          · refine r_aload_n (pc := 101) dX11_append_101 (i := 0) rfl rfl ?_
            refine r_bipush (pc := 102) (v := iv (-4)) dX11_append_102 (by decide) ?_
            obtain ⟨fs57, hfs57⟩ := t_obj ht51 (rd_of CG_0)
            refine r_callV (pc := 104) (as := [.int (iv (-4))]) (st := []) kX11_82 rfl dX11_append_104 hfs57 (s_X11_refuse (d := d - 1) (x1 := (-4)) (by omega)  ht51 (by omega)) rfl (by omega) (Nat.le_of_ble_eq_true rfl) (Nat.zero_le _) (Nat.zero_le _) rfl (fun r54 hp53 n55 hq56 => ?_)
            obtain ⟨hnn55, ht58, hrr54⟩ := hq56
            subst n55 r54
            change Rn _ _ _ 107 _ [.int (iv (-4))] _ _ _ _ _
            exact r_iret (pc := 107) dX11_append_107 rfl ⟨by omega, Γ, ct, (-4), th, kn, kd, ka, kf, kt, kw, kc, (-4), (Ext_refl Γ), ht58, hk, rfl, by exact an2_m (hdQ_y (by omega)).symm (by omega) (by omega), by omega, fun h9 => ⟨by omega, rfl, rfl⟩, fun h9 => absurd h9 (by omega)⟩
          · refine r_iload (pc := 96) dX11_append_96 rfl ?_
            refine t_if_ne (pc := 98) (tgt := 108) dX11_append_98 (by decide) (by omega) (fun c98 => ?_) (fun c98 => ?_)
            · exfalso
              omega
            · refine r_aload_n (pc := 101) dX11_append_101 (i := 0) rfl rfl ?_
              refine r_bipush (pc := 102) (v := iv (-4)) dX11_append_102 (by decide) ?_
              obtain ⟨fs63, hfs63⟩ := t_obj ht51 (rd_of CG_0)
              refine r_callV (pc := 104) (as := [.int (iv (-4))]) (st := []) kX11_82 rfl dX11_append_104 hfs63 (s_X11_refuse (d := d - 1) (x1 := (-4)) (by omega)  ht51 (by omega)) rfl (by omega) (Nat.le_of_ble_eq_true rfl) (Nat.zero_le _) (Nat.zero_le _) rfl (fun r60 hp59 n61 hq62 => ?_)
              obtain ⟨hnn61, ht64, hrr60⟩ := hq62
              subst n61 r60
              change Rn _ _ _ 107 _ [.int (iv (-4))] _ _ _ _ _
              exact r_iret (pc := 107) dX11_append_107 rfl ⟨by omega, Γ, ct, (-4), th, kn, kd, ka, kf, kt, kw, kc, (-4), (Ext_refl Γ), ht64, hk, rfl, by exact an2_m (hdQ_y (by omega)).symm (by omega) (by omega), by omega, fun h9 => ⟨by omega, rfl, rfl⟩, fun h9 => absurd h9 (by omega)⟩
        · refine r_aload_n (pc := 67) dX11_append_67 (i := 3) rfl rfl ?_
          refine t_getE (pc := 68) (.int (iv (gm : Int))) ht32 (rd_CG (by omega) hg_O) fX11_135 dX11_append_68 rfl ?_
          refine r_aload (pc := 71) dX11_append_71 rfl ?_
          refine t_getE (pc := 73) (.int (iv (jm : Int))) ht32 (rd_CG (by omega) hj_O) fX11_135 dX11_append_73 rfl ?_
          refine r_iadd (pc := 76) (v := iv ((gm : Int) + (jm : Int))) dX11_append_76 (iv_add _ _) ?_
          refine r_bipush (pc := 77) (v := iv 60) dX11_append_77 (by decide) ?_
          refine t_icmp_gt (pc := 79) (tgt := 86) dX11_append_79 (by decide) (by omega) (by omega) (fun c79 => ?_) (fun c79 => ?_)
          · refine r_iconst (pc := 86) (v := iv 0) dX11_append_86 (by decide) ?_
            refine r_istore (pc := 87) (lv' := [(5, .int (iv 0)), (4, .ref ja), (3, .ref ga), (0, .ref a), (1, .int (iv x1)), (2, .int (iv x2))]) dX11_append_87 (by decide) rfl ?_
            refine r_aload_n (pc := 89) dX11_append_89 (i := 0) rfl rfl ?_
            obtain ⟨fs69, hfs69⟩ := t_obj ht32 (rd_of CG_0)
            refine r_callV (pc := 90) (as := []) (st := []) kX11_93 rfl dX11_append_90 hfs69 (s_X11_isFull (d := d - 1)  (by omega)  ht32  (by omega)) rfl (by omega) (Nat.le_of_ble_eq_true rfl) (Nat.zero_le _) (Nat.zero_le _) rfl (fun r66 hp65 n67 hq68 => ?_)
            obtain ⟨hnn67, bb_71, ht70, hrr66, hhq680⟩ := hq68
            subst n67 r66
            have hhq680 : (bb_71 = 1 ∧ 120 ≤ ct) ∨ (bb_71 = 0 ∧ ct < 120) := hhq680
            change Rn _ _ _ 93 _ [.int (iv bb_71)] _ _ _ _ _
            refine t_if_ne (pc := 93) (tgt := 101) dX11_append_93 (by decide) (by omega) (fun c93 => ?_) (fun c93 => ?_)
            · refine r_aload_n (pc := 101) dX11_append_101 (i := 0) rfl rfl ?_
              refine r_bipush (pc := 102) (v := iv (-4)) dX11_append_102 (by decide) ?_
              obtain ⟨fs76, hfs76⟩ := t_obj ht70 (rd_of CG_0)
              refine r_callV (pc := 104) (as := [.int (iv (-4))]) (st := []) kX11_82 rfl dX11_append_104 hfs76 (s_X11_refuse (d := d - 1) (x1 := (-4)) (by omega)  ht70 (by omega)) rfl (by omega) (Nat.le_of_ble_eq_true rfl) (Nat.zero_le _) (Nat.zero_le _) rfl (fun r73 hp72 n74 hq75 => ?_)
              obtain ⟨hnn74, ht77, hrr73⟩ := hq75
              subst n74 r73
              change Rn _ _ _ 107 _ [.int (iv (-4))] _ _ _ _ _
              exact r_iret (pc := 107) dX11_append_107 rfl ⟨by omega, Γ, ct, (-4), th, kn, kd, ka, kf, kt, kw, kc, (-4), (Ext_refl Γ), ht77, hk, rfl, by exact an2_m (hdQ_y (by omega)).symm (by omega) (by omega), by omega, fun h9 => ⟨by omega, rfl, rfl⟩, fun h9 => absurd h9 (by omega)⟩
            · refine r_iload (pc := 96) dX11_append_96 rfl ?_
              refine t_if_ne (pc := 98) (tgt := 108) dX11_append_98 (by decide) (by omega) (fun c98 => ?_) (fun c98 => ?_)
              · exfalso
                omega
              · refine r_aload_n (pc := 101) dX11_append_101 (i := 0) rfl rfl ?_
                refine r_bipush (pc := 102) (v := iv (-4)) dX11_append_102 (by decide) ?_
                obtain ⟨fs82, hfs82⟩ := t_obj ht70 (rd_of CG_0)
                refine r_callV (pc := 104) (as := [.int (iv (-4))]) (st := []) kX11_82 rfl dX11_append_104 hfs82 (s_X11_refuse (d := d - 1) (x1 := (-4)) (by omega)  ht70 (by omega)) rfl (by omega) (Nat.le_of_ble_eq_true rfl) (Nat.zero_le _) (Nat.zero_le _) rfl (fun r79 hp78 n80 hq81 => ?_)
                obtain ⟨hnn80, ht83, hrr79⟩ := hq81
                subst n80 r79
                change Rn _ _ _ 107 _ [.int (iv (-4))] _ _ _ _ _
                exact r_iret (pc := 107) dX11_append_107 rfl ⟨by omega, Γ, ct, (-4), th, kn, kd, ka, kf, kt, kw, kc, (-4), (Ext_refl Γ), ht83, hk, rfl, by exact an2_m (hdQ_y (by omega)).symm (by omega) (by omega), by omega, fun h9 => ⟨by omega, rfl, rfl⟩, fun h9 => absurd h9 (by omega)⟩
          · refine r_iconst (pc := 82) (v := iv 1) dX11_append_82 (by decide) ?_
            refine r_goto (pc := 83) (tgt := 87) dX11_append_83 (by decide) ?_
            refine r_istore (pc := 87) (lv' := [(5, .int (iv 1)), (4, .ref ja), (3, .ref ga), (0, .ref a), (1, .int (iv x1)), (2, .int (iv x2))]) dX11_append_87 (by decide) rfl ?_
            refine r_aload_n (pc := 89) dX11_append_89 (i := 0) rfl rfl ?_
            obtain ⟨fs88, hfs88⟩ := t_obj ht32 (rd_of CG_0)
            refine r_callV (pc := 90) (as := []) (st := []) kX11_93 rfl dX11_append_90 hfs88 (s_X11_isFull (d := d - 1)  (by omega)  ht32  (by omega)) rfl (by omega) (Nat.le_of_ble_eq_true rfl) (Nat.zero_le _) (Nat.zero_le _) rfl (fun r85 hp84 n86 hq87 => ?_)
            obtain ⟨hnn86, bb_90, ht89, hrr85, hhq870⟩ := hq87
            subst n86 r85
            have hhq870 : (bb_90 = 1 ∧ 120 ≤ ct) ∨ (bb_90 = 0 ∧ ct < 120) := hhq870
            change Rn _ _ _ 93 _ [.int (iv bb_90)] _ _ _ _ _
            refine t_if_ne (pc := 93) (tgt := 101) dX11_append_93 (by decide) (by omega) (fun c93 => ?_) (fun c93 => ?_)
            · refine r_aload_n (pc := 101) dX11_append_101 (i := 0) rfl rfl ?_
              refine r_bipush (pc := 102) (v := iv (-4)) dX11_append_102 (by decide) ?_
              obtain ⟨fs95, hfs95⟩ := t_obj ht89 (rd_of CG_0)
              refine r_callV (pc := 104) (as := [.int (iv (-4))]) (st := []) kX11_82 rfl dX11_append_104 hfs95 (s_X11_refuse (d := d - 1) (x1 := (-4)) (by omega)  ht89 (by omega)) rfl (by omega) (Nat.le_of_ble_eq_true rfl) (Nat.zero_le _) (Nat.zero_le _) rfl (fun r92 hp91 n93 hq94 => ?_)
              obtain ⟨hnn93, ht96, hrr92⟩ := hq94
              subst n93 r92
              change Rn _ _ _ 107 _ [.int (iv (-4))] _ _ _ _ _
              exact r_iret (pc := 107) dX11_append_107 rfl ⟨by omega, Γ, ct, (-4), th, kn, kd, ka, kf, kt, kw, kc, (-4), (Ext_refl Γ), ht96, hk, rfl, by exact an2_m (hdQ_y (by omega)).symm (by omega) (by omega), by omega, fun h9 => ⟨by omega, rfl, rfl⟩, fun h9 => absurd h9 (by omega)⟩
            · refine r_iload (pc := 96) dX11_append_96 rfl ?_
              refine t_if_ne (pc := 98) (tgt := 108) dX11_append_98 (by decide) (by omega) (fun c98 => ?_) (fun c98 => ?_)
              · refine r_aload_n (pc := 108) dX11_append_108 (i := 0) rfl rfl ?_
                refine t_getE (pc := 109) (.ref (a + 8)) ht89 (rd_of CG_0) fX11_29 dX11_append_109 rfl ?_
                refine r_aload_n (pc := 112) dX11_append_112 (i := 3) rfl rfl ?_
                refine r_aload (pc := 113) dX11_append_113 rfl ?_
                obtain ⟨lt9, hlt9, hd9⟩ := DX_op (Tw_eq (Γ1 := DG (CG Γ cI cJ cZ cT a ct rv th dn dd da df dt dw dc kn kd ka kf kt kw kc) cI cJ cZ cT (a + 8) kn kd ka kf kt kw kc) CG_sk.symm ht89)
                obtain ⟨fs102, hfs102⟩ := t_obj hd9 (rd_of DX_0)
                refine r_callV (pc := 115) (as := [.ref ga, .ref ja]) (st := []) kX11_136 rfl dX11_append_115 hfs102 (d_X1_drawBoth (d := d - 1)  (by omega) (TyG.cg (by omega) hg) (by omega) (TyG.cg (by omega) hj) (by omega) (by omega) (by omega) (by omega) hd9  hlt9 (XG.cg (by omega) hxg) (XG.cg (by omega) hxj) (by omega)) rfl (by omega) (Nat.le_of_ble_eq_true rfl) (Nat.zero_le _) (Nat.zero_le _) rfl (fun r97 hp98 n99 hq100 => ?_)
                obtain ⟨hnn99, kn9, kd9, ka9, kf9, kt9, kw9, kc9, lt8, ht101, hrr97, hq1, hq2, hq3, hq4, hq5, hq6, hq7, hq8⟩ := hq100
                subst n99 r97
                have ht101 := DX_cl ht101 hq5
                rw [CG_sk] at ht101
                have hvw : (acc (cpE (sh fr (60 * x1)) (sh tt (60 * x1)) (sh wt (60 * x1)) (sh co (60 * x1)) 0) (Int.toNat (mn (Int.toNat x1))) ++ acc (cpE (sh fr (60 * x2)) (sh tt (60 * x2)) (sh wt (60 * x2)) (sh co (60 * x2)) (sz (Int.toNat x1))) (Int.toNat (mn (Int.toNat x2)))) = acc (cpE (sh fr (60 * x1)) (sh tt (60 * x1)) (sh wt (60 * x1)) (sh co (60 * x1)) 0) gm ++ acc (cpE (sh fr (60 * x2)) (sh tt (60 * x2)) (sh wt (60 * x2)) (sh co (60 * x2)) (gn : Int)) jm := by rw [hfMg, hfMj, heNg]
                rw [← hvw] at hq6
                change Rn _ _ _ 118 _ [] _ _ _ _ _
                refine r_aload_n (pc := 118) dX11_append_118 (i := 0) rfl rfl ?_
                refine Rn.bd (fun bd9 => ?_)
                refine w_new (pc := 119) (fs := [.int 0, .int 0, .int 0, .null, .null, .null, .null, .int 0, .null, .null, .null, .null, .null, .null]) nX11_97 tyX3 tyX3_ok (by decide +kernel) dX11_append_119 (by omega) (by omega) (fun hpN hN1 hN2 hN3 => ?_)
                have htN := Tw_fr ht101 hN2
                refine r_dup (pc := 122) dX11_append_122 rfl ?_
                refine r_aload_n (pc := 123) dX11_append_123 (i := 0) rfl rfl ?_
                refine t_getE (pc := 124) (.ref (a + 8)) htN (rd_of CG_0) fX11_29 dX11_append_124 rfl ?_
                refine u_initG_sk (pc := 127) (st := [.ref n, .ref a]) ht101 bd9 hna hN2 hN1 (by omega) (by omega) (by omega) (by assumption) kX11_99 dX11_append_127 (by omega) (Nat.le_of_ble_eq_true rfl) (by omega) (by omega) (fun hp2 Γ2 wr2 hE2 ht2 hGX => ?_)
                have hg := TyG.ext hE2 hg
                obtain ⟨hg_O, hg_from, hg_to, hg_weight, hg_cost, hg_tail, hg_head, hg_by, hg_out, hg_in, hg_joined, hg_b⟩ := id hg
                have hxg := XG.ext hE2 hxg
                have hj := TyG.ext hE2 hj
                obtain ⟨hj_O, hj_from, hj_to, hj_weight, hj_cost, hj_tail, hj_head, hj_by, hj_out, hj_in, hj_joined, hj_b⟩ := id hj
                have hxj := XG.ext hE2 hxj
                have hse := TySets.ext hE2 hse
                have hsh := TyShape.ext hE2 hsh
                have hfl := TyFlows.ext hE2 hfl
                have hth2 := hGX.th
                obtain ⟨Fs9, hv9, hl9⟩ := ThG_rd hth2
                obtain ⟨fs108, hfs108⟩ := t_obj ht2 (rd_of CG_0)
                refine r_callV (pc := 130) (as := [.ref n]) (st := []) kX11_102 rfl dX11_append_130 hfs108 (t_X11_keep (d := d - 1) (r0 := (RX3, TX3, 14)) (by omega) (by omega) (rd_CG (by omega) hv9) rfl (show (RX3, "GraphEngine$Thing") ∈ cas by decide +kernel) ht2) rfl (by omega) (Nat.le_of_ble_eq_true rfl) (Nat.zero_le _) (Nat.zero_le _) rfl (fun r103 hp104 n105 hq106 => ?_)
                obtain ⟨hnn105, ht107, hrr103⟩ := hq106
                subst n105 r103
                change Rn _ _ _ 133 _ [.int (iv ct)] _ _ _ _ _
                exact r_iret (pc := 133) dX11_append_133 rfl ⟨by omega, Γ2, (ct + 1), rv, (va_up th (ct).toNat (some n)), kn9, kd9, ka9, kf9, kt9, kw9, kc9, ct, (Ext_tr (Ext_refl Γ) hE2), ht107, (EK.keep (EK.ext hE2 (EK.sk hk hq1 hq2 hq3)) (by omega) (Or.inl hth2)), rfl, by exact an2_m (hdQ_n (by omega)).symm (by omega) (by omega), by omega, fun h9 => absurd h9 (by omega), fun _ => ⟨by omega, rfl, n, rfl, WG_mk hGX hq6 (by rw [heNg, heNj]; exact hq7) (by rw [heDg]; exact hq8)⟩⟩
              · exfalso
                omega
      · have hlen : (((acc (cpE (sh fr (60 * x1)) (sh tt (60 * x1)) (sh wt (60 * x1)) (sh co (60 * x1)) 0) (Int.toNat (mn (Int.toNat x1))) ++ acc (cpE (sh fr (60 * x2)) (sh tt (60 * x2)) (sh wt (60 * x2)) (sh co (60 * x2)) (sz (Int.toNat x1))) (Int.toNat (mn (Int.toNat x2))))).length : Int) = (gm : Int) + (jm : Int) := by rw [List.length_append, cp_len, cp_len, hfMg, hfMj]; omega
        refine r_aload_n (pc := 45) dX11_append_45 (i := 0) rfl rfl ?_
        refine r_bipush (pc := 46) (v := iv (-3)) dX11_append_46 (by decide) ?_
        obtain ⟨fs113, hfs113⟩ := t_obj ht32 (rd_of CG_0)
        refine r_callV (pc := 48) (as := [.int (iv (-3))]) (st := []) kX11_82 rfl dX11_append_48 hfs113 (s_X11_refuse (d := d - 1) (x1 := (-3)) (by omega)  ht32 (by omega)) rfl (by omega) (Nat.le_of_ble_eq_true rfl) (Nat.zero_le _) (Nat.zero_le _) rfl (fun r110 hp109 n111 hq112 => ?_)
        obtain ⟨hnn111, ht114, hrr110⟩ := hq112
        subst n111 r110
        change Rn _ _ _ 51 _ [.int (iv (-3))] _ _ _ _ _
        exact r_iret (pc := 51) dX11_append_51 rfl ⟨by omega, Γ, ct, (-3), th, kn, kd, ka, kf, kt, kw, kc, (-3), (Ext_refl Γ), ht114, hk, rfl, by exact an2_b (by omega) (by omega) (by omega), by omega, fun h9 => ⟨by omega, rfl, rfl⟩, fun h9 => absurd h9 (by omega)⟩
set_option maxHeartbeats 4000000 in
set_option maxRecDepth 100000 in
theorem y_X11_melt {D : va_G} {cI cJ cZ cT : ClassId} {lo b L : Nat} {xs : Nat → Int32} {hp : MH} {n d : Nat} {Γ : TG} {a : Nat} {ct : Int} {rv : Int} {th : Nat → Option Nat} {dn : Int} {dd : Int} {da : Int} {df : Nat → Int} {dt : Nat → Int} {dw : Nat → Int} {dc : Nat → Int} {kn : Int} {kd : Int} {ka : Int} {kf : Nat → Int} {kt : Nat → Int} {kw : Nat → Int} {kc : Nat → Int} {so sz dr mn fr tt wt co : Nat → Int} {nu : Nat → Int64} {qi qc : Nat → Int} {x1 x2 : Int} (hd0 : 4 ≤ d) (hk : EK Γ cI cJ cZ a ct th dn dd da df dt dw dc kn kd ka) (hm : HM Γ cI cJ cZ a ct th so sz dr mn fr tt wt co nu qi qc) (hrv : -2147483648 ≤ rv ∧ rv ≤ 2147483647) (hna : a + 84 ≤ n) (ht : Tw (CG Γ cI cJ cZ cT a ct rv th dn dd da df dt dw dc kn kd ka kf kt kw kc) hp) (hx1 : (-2147483648) ≤ x1 ∧ x1 ≤ 2147483647) (hx2 : (-2147483648) ≤ x2 ∧ x2 ≤ 2147483647) (hr0 : rv = 0) : Mt (gG D cI cJ cZ cT lo b L xs) mX11_melt d 11 662 [.ref a, .int (iv x1), .int (iv x2)] hp n (qM Γ cI cJ cZ cT a dn dd da df dt dw dc n ct th (an2 ct so x1 1 x2 4 (sz (Int.toNat x1) ≠ sz (Int.toNat x2)) (60 < (((acc (mlE (sh fr (60 * x1)) (sh tt (60 * x1)) (sh wt (60 * x1)) (sh co (60 * x1)) (sh qi (16 * x2))) (Int.toNat (mn (Int.toNat x1))))).length : Int) ∨ ct = 120)) (fun Γ1 t => WG Γ1 cI cJ cZ a (qc (Int.toNat x2)) (dr (Int.toNat x1)) (acc (mlE (sh fr (60 * x1)) (sh tt (60 * x1)) (sh wt (60 * x1)) (sh co (60 * x1)) (sh qi (16 * x2))) (Int.toNat (mn (Int.toNat x1)))) t)) := by
  refine Mt.of rfl (Nat.le_of_ble_eq_true rfl) ?_
  refine Rn.pick (lv' := [(0, .ref a), (1, .int (iv x1)), (2, .int (iv x2))]) [0, 1, 2] rfl ?_
  obtain ⟨hct, hth, ⟨hdn, hdd1, hda, har⟩, ⟨hkn, hkd, hka⟩, hsh, hse, hpr, hfl, hsm⟩ := id hk
  refine r_aload_n (pc := 0) dX11_melt_0 (i := 0) rfl rfl ?_
  refine r_iload_n (pc := 1) dX11_melt_1 (i := 1) rfl rfl ?_
  refine u_graphAt (pc := 2) (x := x1) (st := []) hct hm ht kX11_106 dX11_melt_2 (by omega) (Nat.le_of_ble_eq_true rfl) (by omega) (fun hp1 ht2 hnog => ?_) (fun hp1 ga ht2 hyeg hTg => ?_)
  · refine r_astore_nN (pc := 5) (lv' := [(3, .null), (0, .ref a), (1, .int (iv x1)), (2, .int (iv x2))]) dX11_melt_5 (i := 3) rfl (by decide) rfl ?_
    refine r_aload_n (pc := 6) dX11_melt_6 (i := 0) rfl rfl ?_
    refine r_iload_n (pc := 7) dX11_melt_7 (i := 2) rfl rfl ?_
    refine u_partsAt (pc := 8) (x := x2) (st := []) hct hm ht2 kX11_140 dX11_melt_8 (by omega) (Nat.le_of_ble_eq_true rfl) (by omega) (fun hp3 ht4 hnor => ?_) (fun hp3 ra ht4 hyer hTr => ?_)
    · refine r_astoreN (pc := 11) (lv' := [(4, .null), (3, .null), (0, .ref a), (1, .int (iv x1)), (2, .int (iv x2))]) dX11_melt_11 (by decide) rfl ?_
      refine r_aload_nN (pc := 13) dX11_melt_13 (i := 3) rfl rfl ?_
      refine r_ifnullN (pc := 14) (tgt := 22) dX11_melt_14 (by decide) ?_
      refine r_aload_n (pc := 22) dX11_melt_22 (i := 0) rfl rfl ?_
      refine r_aload_n (pc := 23) dX11_melt_23 (i := 0) rfl rfl ?_
      refine r_iload_n (pc := 24) dX11_melt_24 (i := 1) rfl rfl ?_
      refine r_iload_n (pc := 25) dX11_melt_25 (i := 2) rfl rfl ?_
      obtain ⟨fs9, hfs9⟩ := t_obj ht4 (rd_of CG_0)
      refine r_callV (pc := 26) (as := [.int (iv x1), .int (iv x2)]) (st := [.ref a]) kX11_127 rfl dX11_melt_26 hfs9 (uw_X11_whyNotBoth (d := d - 1) (x1 := x1) (x2 := x2) (by omega)  ht4 (by omega) (by omega) (by omega) hm) rfl (by omega) (Nat.le_of_ble_eq_true rfl) (Nat.zero_le _) (Nat.zero_le _) rfl (fun r6 hp5 n7 hq8 => ?_)
      obtain ⟨hnn7, bb_11, ht10, hrr6, hhq80, hhq81⟩ := hq8
      subst n7 r6
      have hhq80 : -2 ≤ bb_11 ∧ bb_11 ≤ -1 := hhq80
      have hhq81 : (bb_11 = -1 ∧ ¬ (0 ≤ x1 ∧ x1 < ct ∧ 0 ≤ x2 ∧ x2 < ct)) ∨ (bb_11 = -2 ∧ 0 ≤ x1 ∧ x1 < ct ∧ 0 ≤ x2 ∧ x2 < ct) := hhq81
      change Rn _ _ _ 29 _ [.int (iv bb_11), .ref a] _ _ _ _ _
      obtain ⟨fs16, hfs16⟩ := t_obj ht10 (rd_of CG_0)
      refine r_callV (pc := 29) (as := [.int (iv bb_11)]) (st := []) kX11_82 rfl dX11_melt_29 hfs16 (s_X11_refuse (d := d - 1) (x1 := bb_11) (by omega)  ht10 (by omega)) rfl (by omega) (Nat.le_of_ble_eq_true rfl) (Nat.zero_le _) (Nat.zero_le _) rfl (fun r13 hp12 n14 hq15 => ?_)
      obtain ⟨hnn14, ht17, hrr13⟩ := hq15
      subst n14 r13
      change Rn _ _ _ 32 _ [.int (iv bb_11)] _ _ _ _ _
      exact r_iret (pc := 32) dX11_melt_32 rfl ⟨by omega, Γ, ct, bb_11, th, kn, kd, ka, kf, kt, kw, kc, bb_11, (Ext_refl Γ), ht17, hk, rfl, by exact an2_r (by omega), by omega, fun h9 => ⟨by omega, rfl, rfl⟩, fun h9 => absurd h9 (by omega)⟩
    · obtain ⟨rN, rO, rn, rz, rvo, hr, hltr, hxr, hyr, hrxr, hryr, hmbr, heNr, heZr⟩ := id hTr
      obtain ⟨hr_O, hr_number, hr_nodesOf, hr_b⟩ := id hr
      refine r_astore (pc := 11) (lv' := [(4, .ref ra), (3, .null), (0, .ref a), (1, .int (iv x1)), (2, .int (iv x2))]) dX11_melt_11 (by decide) rfl ?_
      refine r_aload_nN (pc := 13) dX11_melt_13 (i := 3) rfl rfl ?_
      refine r_ifnullN (pc := 14) (tgt := 22) dX11_melt_14 (by decide) ?_
      refine r_aload_n (pc := 22) dX11_melt_22 (i := 0) rfl rfl ?_
      refine r_aload_n (pc := 23) dX11_melt_23 (i := 0) rfl rfl ?_
      refine r_iload_n (pc := 24) dX11_melt_24 (i := 1) rfl rfl ?_
      refine r_iload_n (pc := 25) dX11_melt_25 (i := 2) rfl rfl ?_
      obtain ⟨fs22, hfs22⟩ := t_obj ht4 (rd_of CG_0)
      refine r_callV (pc := 26) (as := [.int (iv x1), .int (iv x2)]) (st := [.ref a]) kX11_127 rfl dX11_melt_26 hfs22 (uw_X11_whyNotBoth (d := d - 1) (x1 := x1) (x2 := x2) (by omega)  ht4 (by omega) (by omega) (by omega) hm) rfl (by omega) (Nat.le_of_ble_eq_true rfl) (Nat.zero_le _) (Nat.zero_le _) rfl (fun r19 hp18 n20 hq21 => ?_)
      obtain ⟨hnn20, bb_24, ht23, hrr19, hhq210, hhq211⟩ := hq21
      subst n20 r19
      have hhq210 : -2 ≤ bb_24 ∧ bb_24 ≤ -1 := hhq210
      have hhq211 : (bb_24 = -1 ∧ ¬ (0 ≤ x1 ∧ x1 < ct ∧ 0 ≤ x2 ∧ x2 < ct)) ∨ (bb_24 = -2 ∧ 0 ≤ x1 ∧ x1 < ct ∧ 0 ≤ x2 ∧ x2 < ct) := hhq211
      change Rn _ _ _ 29 _ [.int (iv bb_24), .ref a] _ _ _ _ _
      obtain ⟨fs29, hfs29⟩ := t_obj ht23 (rd_of CG_0)
      refine r_callV (pc := 29) (as := [.int (iv bb_24)]) (st := []) kX11_82 rfl dX11_melt_29 hfs29 (s_X11_refuse (d := d - 1) (x1 := bb_24) (by omega)  ht23 (by omega)) rfl (by omega) (Nat.le_of_ble_eq_true rfl) (Nat.zero_le _) (Nat.zero_le _) rfl (fun r26 hp25 n27 hq28 => ?_)
      obtain ⟨hnn27, ht30, hrr26⟩ := hq28
      subst n27 r26
      change Rn _ _ _ 32 _ [.int (iv bb_24)] _ _ _ _ _
      exact r_iret (pc := 32) dX11_melt_32 rfl ⟨by omega, Γ, ct, bb_24, th, kn, kd, ka, kf, kt, kw, kc, bb_24, (Ext_refl Γ), ht30, hk, rfl, by exact an2_r (by omega), by omega, fun h9 => ⟨by omega, rfl, rfl⟩, fun h9 => absurd h9 (by omega)⟩
  · obtain ⟨gF, gT, gW, gC, gTl, gHd, gBy, gOu, gIn, gJo, gn, gm, gq, gdr, Tl, Hd, By, Ou, In, Jo, gpos, hg, hltg, hxg, hgog, houg, hing, hjog, heNg, heDg, heMg⟩ := id hTg
    have hfNg : Int.toNat (sz (Int.toNat x1)) = gn := by omega
    have hfMg : Int.toNat (mn (Int.toNat x1)) = gm := by omega
    obtain ⟨hg_O, hg_from, hg_to, hg_weight, hg_cost, hg_tail, hg_head, hg_by, hg_out, hg_in, hg_joined, hg_b⟩ := id hg
    refine r_astore_n (pc := 5) (lv' := [(3, .ref ga), (0, .ref a), (1, .int (iv x1)), (2, .int (iv x2))]) dX11_melt_5 (i := 3) rfl (by decide) rfl ?_
    refine r_aload_n (pc := 6) dX11_melt_6 (i := 0) rfl rfl ?_
    refine r_iload_n (pc := 7) dX11_melt_7 (i := 2) rfl rfl ?_
    refine u_partsAt (pc := 8) (x := x2) (st := []) hct hm ht2 kX11_140 dX11_melt_8 (by omega) (Nat.le_of_ble_eq_true rfl) (by omega) (fun hp31 ht32 hnor => ?_) (fun hp31 ra ht32 hyer hTr => ?_)
    · refine r_astoreN (pc := 11) (lv' := [(4, .null), (3, .ref ga), (0, .ref a), (1, .int (iv x1)), (2, .int (iv x2))]) dX11_melt_11 (by decide) rfl ?_
      refine r_aload_n (pc := 13) dX11_melt_13 (i := 3) rfl rfl ?_
      refine r_ifnull (pc := 14) dX11_melt_14 ?_
      refine r_aloadN (pc := 17) dX11_melt_17 rfl ?_
      refine r_ifnonnullN (pc := 19) dX11_melt_19 ?_
      refine r_aload_n (pc := 22) dX11_melt_22 (i := 0) rfl rfl ?_
      refine r_aload_n (pc := 23) dX11_melt_23 (i := 0) rfl rfl ?_
      refine r_iload_n (pc := 24) dX11_melt_24 (i := 1) rfl rfl ?_
      refine r_iload_n (pc := 25) dX11_melt_25 (i := 2) rfl rfl ?_
      obtain ⟨fs37, hfs37⟩ := t_obj ht32 (rd_of CG_0)
      refine r_callV (pc := 26) (as := [.int (iv x1), .int (iv x2)]) (st := [.ref a]) kX11_127 rfl dX11_melt_26 hfs37 (uw_X11_whyNotBoth (d := d - 1) (x1 := x1) (x2 := x2) (by omega)  ht32 (by omega) (by omega) (by omega) hm) rfl (by omega) (Nat.le_of_ble_eq_true rfl) (Nat.zero_le _) (Nat.zero_le _) rfl (fun r34 hp33 n35 hq36 => ?_)
      obtain ⟨hnn35, bb_39, ht38, hrr34, hhq360, hhq361⟩ := hq36
      subst n35 r34
      have hhq360 : -2 ≤ bb_39 ∧ bb_39 ≤ -1 := hhq360
      have hhq361 : (bb_39 = -1 ∧ ¬ (0 ≤ x1 ∧ x1 < ct ∧ 0 ≤ x2 ∧ x2 < ct)) ∨ (bb_39 = -2 ∧ 0 ≤ x1 ∧ x1 < ct ∧ 0 ≤ x2 ∧ x2 < ct) := hhq361
      change Rn _ _ _ 29 _ [.int (iv bb_39), .ref a] _ _ _ _ _
      obtain ⟨fs44, hfs44⟩ := t_obj ht38 (rd_of CG_0)
      refine r_callV (pc := 29) (as := [.int (iv bb_39)]) (st := []) kX11_82 rfl dX11_melt_29 hfs44 (s_X11_refuse (d := d - 1) (x1 := bb_39) (by omega)  ht38 (by omega)) rfl (by omega) (Nat.le_of_ble_eq_true rfl) (Nat.zero_le _) (Nat.zero_le _) rfl (fun r41 hp40 n42 hq43 => ?_)
      obtain ⟨hnn42, ht45, hrr41⟩ := hq43
      subst n42 r41
      change Rn _ _ _ 32 _ [.int (iv bb_39)] _ _ _ _ _
      exact r_iret (pc := 32) dX11_melt_32 rfl ⟨by omega, Γ, ct, bb_39, th, kn, kd, ka, kf, kt, kw, kc, bb_39, (Ext_refl Γ), ht45, hk, rfl, by exact an2_r (by omega), by omega, fun h9 => ⟨by omega, rfl, rfl⟩, fun h9 => absurd h9 (by omega)⟩
    · obtain ⟨rN, rO, rn, rz, rvo, hr, hltr, hxr, hyr, hrxr, hryr, hmbr, heNr, heZr⟩ := id hTr
      obtain ⟨hr_O, hr_number, hr_nodesOf, hr_b⟩ := id hr
      refine r_astore (pc := 11) (lv' := [(4, .ref ra), (3, .ref ga), (0, .ref a), (1, .int (iv x1)), (2, .int (iv x2))]) dX11_melt_11 (by decide) rfl ?_
      refine r_aload_n (pc := 13) dX11_melt_13 (i := 3) rfl rfl ?_
      refine r_ifnull (pc := 14) dX11_melt_14 ?_
      refine r_aload (pc := 17) dX11_melt_17 rfl ?_
      refine r_ifnonnull (pc := 19) (tgt := 33) dX11_melt_19 (by decide) ?_
      refine r_aload_n (pc := 33) dX11_melt_33 (i := 3) rfl rfl ?_
      refine t_getE (pc := 34) (.int (iv (gn : Int))) ht32 (rd_CG (by omega) hg_O) fX11_134 dX11_melt_34 rfl ?_
      refine r_aload (pc := 37) dX11_melt_37 rfl ?_
      refine t_getE (pc := 39) (.int (iv (rn : Int))) ht32 (rd_CG (by omega) hr_O) fX11_144 dX11_melt_39 rfl ?_
      refine t_icmp_eq (pc := 42) (tgt := 52) dX11_melt_42 (by decide) (by omega) (by omega) (fun c42 => ?_) (fun c42 => ?_)
      · have hlen : (((acc (mlE (sh fr (60 * x1)) (sh tt (60 * x1)) (sh wt (60 * x1)) (sh co (60 * x1)) (sh qi (16 * x2))) (Int.toNat (mn (Int.toNat x1))))).length : Int) ≤ 60 := by have h9 := acc_len (h := mlE (sh fr (60 * x1)) (sh tt (60 * x1)) (sh wt (60 * x1)) (sh co (60 * x1)) (sh qi (16 * x2))) (c := 1) (k := (Int.toNat (mn (Int.toNat x1)))) (fun i _ => sel_le _ _); omega
        refine r_aload_n (pc := 52) dX11_melt_52 (i := 0) rfl rfl ?_
        obtain ⟨fs50, hfs50⟩ := t_obj ht32 (rd_of CG_0)
        refine r_callV (pc := 53) (as := []) (st := []) kX11_93 rfl dX11_melt_53 hfs50 (s_X11_isFull (d := d - 1)  (by omega)  ht32  (by omega)) rfl (by omega) (Nat.le_of_ble_eq_true rfl) (Nat.zero_le _) (Nat.zero_le _) rfl (fun r47 hp46 n48 hq49 => ?_)
        obtain ⟨hnn48, bb_52, ht51, hrr47, hhq490⟩ := hq49
        subst n48 r47
        have hhq490 : (bb_52 = 1 ∧ 120 ≤ ct) ∨ (bb_52 = 0 ∧ ct < 120) := hhq490
        change Rn _ _ _ 56 _ [.int (iv bb_52)] _ _ _ _ _
        refine t_if_eq (pc := 56) (tgt := 66) dX11_melt_56 (by decide) (by omega) (fun c56 => ?_) (fun c56 => ?_)
        · refine r_aload_n (pc := 66) dX11_melt_66 (i := 0) rfl rfl ?_
          refine t_getE (pc := 67) (.ref (a + 8)) ht51 (rd_of CG_0) fX11_29 dX11_melt_67 rfl ?_
          refine r_aload_n (pc := 70) dX11_melt_70 (i := 3) rfl rfl ?_
          refine r_aload (pc := 71) dX11_melt_71 rfl ?_
          obtain ⟨lt9, hlt9, hd9⟩ := DX_op (Tw_eq (Γ1 := DG (CG Γ cI cJ cZ cT a ct rv th dn dd da df dt dw dc kn kd ka kf kt kw kc) cI cJ cZ cT (a + 8) kn kd ka kf kt kw kc) CG_sk.symm ht51)
          obtain ⟨fs58, hfs58⟩ := t_obj hd9 (rd_of DX_0)
          refine r_callV (pc := 73) (as := [.ref ga, .ref ra]) (st := []) kX11_147 rfl dX11_melt_73 hfs58 (d_X1_drawMelted (d := d - 1)  (by omega) (TyG.cg (by omega) hg) (by omega) (TyP.cg (by omega) hr) (by omega) (by omega) (by omega) (by omega) hd9  hlt9 (XG.cg (by omega) hxg) (by omega) (rd_CG (by omega) hxr) hrxr) rfl (by omega) (Nat.le_of_ble_eq_true rfl) (Nat.zero_le _) (Nat.zero_le _) rfl (fun r53 hp54 n55 hq56 => ?_)
          obtain ⟨hnn55, kn9, kd9, ka9, kf9, kt9, kw9, kc9, lt8, ht57, hrr53, hq1, hq2, hq3, hq4, hq5, hq6, hq7, hq8⟩ := hq56
          subst n55 r53
          have ht57 := DX_cl ht57 hq5
          rw [CG_sk] at ht57
          have hvw : (acc (mlE (sh fr (60 * x1)) (sh tt (60 * x1)) (sh wt (60 * x1)) (sh co (60 * x1)) (sh qi (16 * x2))) (Int.toNat (mn (Int.toNat x1)))) = acc (mlE (sh fr (60 * x1)) (sh tt (60 * x1)) (sh wt (60 * x1)) (sh co (60 * x1)) (sh qi (16 * x2))) gm := by rw [hfMg]
          rw [← hvw] at hq6
          change Rn _ _ _ 76 _ [] _ _ _ _ _
          refine r_aload_n (pc := 76) dX11_melt_76 (i := 0) rfl rfl ?_
          refine Rn.bd (fun bd9 => ?_)
          refine w_new (pc := 77) (fs := [.int 0, .int 0, .int 0, .null, .null, .null, .null, .int 0, .null, .null, .null, .null, .null, .null]) nX11_97 tyX3 tyX3_ok (by decide +kernel) dX11_melt_77 (by omega) (by omega) (fun hpN hN1 hN2 hN3 => ?_)
          have htN := Tw_fr ht57 hN2
          refine r_dup (pc := 80) dX11_melt_80 rfl ?_
          refine r_aload_n (pc := 81) dX11_melt_81 (i := 0) rfl rfl ?_
          refine t_getE (pc := 82) (.ref (a + 8)) htN (rd_of CG_0) fX11_29 dX11_melt_82 rfl ?_
          refine u_initG_sk (pc := 85) (st := [.ref n, .ref a]) ht57 bd9 hna hN2 hN1 (by omega) (by omega) (by omega) (by assumption) kX11_99 dX11_melt_85 (by omega) (Nat.le_of_ble_eq_true rfl) (by omega) (by omega) (fun hp2 Γ2 wr2 hE2 ht2 hGX => ?_)
          have hg := TyG.ext hE2 hg
          obtain ⟨hg_O, hg_from, hg_to, hg_weight, hg_cost, hg_tail, hg_head, hg_by, hg_out, hg_in, hg_joined, hg_b⟩ := id hg
          have hxg := XG.ext hE2 hxg
          have hr := TyP.ext hE2 hr
          obtain ⟨hr_O, hr_number, hr_nodesOf, hr_b⟩ := id hr
          have hse := TySets.ext hE2 hse
          have hsh := TyShape.ext hE2 hsh
          have hfl := TyFlows.ext hE2 hfl
          have hth2 := hGX.th
          obtain ⟨Fs9, hv9, hl9⟩ := ThG_rd hth2
          obtain ⟨fs64, hfs64⟩ := t_obj ht2 (rd_of CG_0)
          refine r_callV (pc := 88) (as := [.ref n]) (st := []) kX11_102 rfl dX11_melt_88 hfs64 (t_X11_keep (d := d - 1) (r0 := (RX3, TX3, 14)) (by omega) (by omega) (rd_CG (by omega) hv9) rfl (show (RX3, "GraphEngine$Thing") ∈ cas by decide +kernel) ht2) rfl (by omega) (Nat.le_of_ble_eq_true rfl) (Nat.zero_le _) (Nat.zero_le _) rfl (fun r59 hp60 n61 hq62 => ?_)
          obtain ⟨hnn61, ht63, hrr59⟩ := hq62
          subst n61 r59
          change Rn _ _ _ 91 _ [.int (iv ct)] _ _ _ _ _
          exact r_iret (pc := 91) dX11_melt_91 rfl ⟨by omega, Γ2, (ct + 1), rv, (va_up th (ct).toNat (some n)), kn9, kd9, ka9, kf9, kt9, kw9, kc9, ct, (Ext_tr (Ext_refl Γ) hE2), ht63, (EK.keep (EK.ext hE2 (EK.sk hk hq1 hq2 hq3)) (by omega) (Or.inl hth2)), rfl, by exact an2_m (hdQ_n (by omega)).symm (by omega) (by omega), by omega, fun h9 => absurd h9 (by omega), fun _ => ⟨by omega, rfl, n, rfl, WG_mk hGX hq6 (by rw [heZr]; exact hq7) (by rw [heDg]; exact hq8)⟩⟩
        · refine r_aload_n (pc := 59) dX11_melt_59 (i := 0) rfl rfl ?_
          refine r_bipush (pc := 60) (v := iv (-4)) dX11_melt_60 (by decide) ?_
          obtain ⟨fs69, hfs69⟩ := t_obj ht51 (rd_of CG_0)
          refine r_callV (pc := 62) (as := [.int (iv (-4))]) (st := []) kX11_82 rfl dX11_melt_62 hfs69 (s_X11_refuse (d := d - 1) (x1 := (-4)) (by omega)  ht51 (by omega)) rfl (by omega) (Nat.le_of_ble_eq_true rfl) (Nat.zero_le _) (Nat.zero_le _) rfl (fun r66 hp65 n67 hq68 => ?_)
          obtain ⟨hnn67, ht70, hrr66⟩ := hq68
          subst n67 r66
          change Rn _ _ _ 65 _ [.int (iv (-4))] _ _ _ _ _
          exact r_iret (pc := 65) dX11_melt_65 rfl ⟨by omega, Γ, ct, (-4), th, kn, kd, ka, kf, kt, kw, kc, (-4), (Ext_refl Γ), ht70, hk, rfl, by exact an2_m (hdQ_y (by omega)).symm (by omega) (by omega), by omega, fun h9 => ⟨by omega, rfl, rfl⟩, fun h9 => absurd h9 (by omega)⟩
      · have hlen : (((acc (mlE (sh fr (60 * x1)) (sh tt (60 * x1)) (sh wt (60 * x1)) (sh co (60 * x1)) (sh qi (16 * x2))) (Int.toNat (mn (Int.toNat x1))))).length : Int) ≤ 60 := by have h9 := acc_len (h := mlE (sh fr (60 * x1)) (sh tt (60 * x1)) (sh wt (60 * x1)) (sh co (60 * x1)) (sh qi (16 * x2))) (c := 1) (k := (Int.toNat (mn (Int.toNat x1)))) (fun i _ => sel_le _ _); omega
        refine r_aload_n (pc := 45) dX11_melt_45 (i := 0) rfl rfl ?_
        refine r_bipush (pc := 46) (v := iv (-3)) dX11_melt_46 (by decide) ?_
        obtain ⟨fs75, hfs75⟩ := t_obj ht32 (rd_of CG_0)
        refine r_callV (pc := 48) (as := [.int (iv (-3))]) (st := []) kX11_82 rfl dX11_melt_48 hfs75 (s_X11_refuse (d := d - 1) (x1 := (-3)) (by omega)  ht32 (by omega)) rfl (by omega) (Nat.le_of_ble_eq_true rfl) (Nat.zero_le _) (Nat.zero_le _) rfl (fun r72 hp71 n73 hq74 => ?_)
        obtain ⟨hnn73, ht76, hrr72⟩ := hq74
        subst n73 r72
        change Rn _ _ _ 51 _ [.int (iv (-3))] _ _ _ _ _
        exact r_iret (pc := 51) dX11_melt_51 rfl ⟨by omega, Γ, ct, (-3), th, kn, kd, ka, kf, kt, kw, kc, (-3), (Ext_refl Γ), ht76, hk, rfl, by exact an2_b (by omega) (by omega) (by omega), by omega, fun h9 => ⟨by omega, rfl, rfl⟩, fun h9 => absurd h9 (by omega)⟩
set_option maxHeartbeats 4000000 in
set_option maxRecDepth 100000 in
theorem y_X11_join0 {D : va_G} {cI cJ cZ cT : ClassId} {lo b L : Nat} {xs : Nat → Int32} {hp : MH} {n d : Nat} {Γ : TG} {a : Nat} {ct : Int} {rv : Int} {th : Nat → Option Nat} {dn : Int} {dd : Int} {da : Int} {df : Nat → Int} {dt : Nat → Int} {dw : Nat → Int} {dc : Nat → Int} {kn : Int} {kd : Int} {ka : Int} {kf : Nat → Int} {kt : Nat → Int} {kw : Nat → Int} {kc : Nat → Int} {so sz dr mn fr tt wt co : Nat → Int} {nu : Nat → Int64} {qi qc : Nat → Int} {x1 x2 x3 : Int} (hd0 : 5 ≤ d) (hk : EK Γ cI cJ cZ a ct th dn dd da df dt dw dc kn kd ka) (hm : HM Γ cI cJ cZ a ct th so sz dr mn fr tt wt co nu qi qc) (hrv : -2147483648 ≤ rv ∧ rv ≤ 2147483647) (hna : a + 84 ≤ n) (ht : Tw (CG Γ cI cJ cZ cT a ct rv th dn dd da df dt dw dc kn kd ka kf kt kw kc) hp) (hx1 : (-2147483648) ≤ x1 ∧ x1 ≤ 2147483647) (hx2 : (-2147483648) ≤ x2 ∧ x2 ≤ 2147483647) (hx3 : 0 ≤ x3 ∧ x3 ≤ 0) : Mt (gG D cI cJ cZ cT lo b L xs) mX11_join d 11 662 [.ref a, .int (iv x1), .int (iv x2), .int (iv x3)] hp n (qM Γ cI cJ cZ cT a dn dd da df dt dw dc n ct th (an2 ct so x1 1 x2 1 (dr (Int.toNat x1) ≠ dr (Int.toNat x2)) (16 < sz (Int.toNat x1) + sz (Int.toNat x2) ∨ 60 < (((acc (cpE (sh fr (60 * x1)) (sh tt (60 * x1)) (sh wt (60 * x1)) (sh co (60 * x1)) 0) (Int.toNat (mn (Int.toNat x1))) ++ acc (cpE (sh fr (60 * x2)) (sh tt (60 * x2)) (sh wt (60 * x2)) (sh co (60 * x2)) (sz (Int.toNat x1))) (Int.toNat (mn (Int.toNat x2))))).length : Int) ∨ ct = 120)) (fun Γ1 t => WG Γ1 cI cJ cZ a (sz (Int.toNat x1) + sz (Int.toNat x2)) (dr (Int.toNat x1)) (acc (cpE (sh fr (60 * x1)) (sh tt (60 * x1)) (sh wt (60 * x1)) (sh co (60 * x1)) 0) (Int.toNat (mn (Int.toNat x1))) ++ acc (cpE (sh fr (60 * x2)) (sh tt (60 * x2)) (sh wt (60 * x2)) (sh co (60 * x2)) (sz (Int.toNat x1))) (Int.toNat (mn (Int.toNat x2)))) t)) := by
  refine Mt.of rfl (Nat.le_of_ble_eq_true rfl) ?_
  refine Rn.pick (lv' := [(0, .ref a), (1, .int (iv x1)), (2, .int (iv x2)), (3, .int (iv x3))]) [0, 1, 2, 3] rfl ?_
  obtain ⟨hct, hth, ⟨hdn, hdd1, hda, har⟩, ⟨hkn, hkd, hka⟩, hsh, hse, hpr, hfl, hsm⟩ := id hk
  refine r_aload_n (pc := 0) dX11_join_0 (i := 0) rfl rfl ?_
  refine r_iconst (pc := 1) (v := iv 0) dX11_join_1 (by decide) ?_
  refine t_putX (pc := 2) (ty := .int) ht CG_0 fX11_19 tyX11 tyX11_ok nmX11 (by decide +kernel) (Or.inl rfl) dX11_join_2 (Nat.le_of_ble_eq_true rfl) rfl rfl rfl (fun hp1 ht2 => ?_)
  have ht3 := RGw_rv ht2
  refine r_iload_n (pc := 5) dX11_join_5 (i := 3) rfl rfl ?_
  refine t_if_eq (pc := 6) (tgt := 18) dX11_join_6 (by decide) (by omega) (fun c6 => ?_) (fun c6 => ?_)
  · refine r_aload_n (pc := 18) dX11_join_18 (i := 0) rfl rfl ?_
    refine r_iload_n (pc := 19) dX11_join_19 (i := 1) rfl rfl ?_
    refine r_iload_n (pc := 20) dX11_join_20 (i := 2) rfl rfl ?_
    obtain ⟨fs9, hfs9⟩ := t_obj ht3 (rd_of CG_0)
    refine r_callV (pc := 21) (as := [.int (iv x1), .int (iv x2)]) (st := []) kX11_124 rfl dX11_join_21 hfs9 (y_X11_append (d := d - 1) (x1 := x1) (x2 := x2) (by omega) hk hm (by omega) (by omega) ht3 (by omega) (by omega) (by omega)) rfl (by omega) (Nat.le_of_ble_eq_true rfl) (by omega) (by omega) rfl (fun r4 hp5 n6 hq7 => ?_)
    obtain ⟨hn8, Γ8, ct8, rv8, th8, kn8, kd8, ka8, kf8, kt8, kw8, kc8, v8, hE8, ht8, hk8, hr8, hA8, hb8, hneg8, hpos8⟩ := hq7
    subst r4
    change Rn _ _ _ 24 _ [.int (iv v8)] _ _ _ _ _
    exact r_iret (pc := 24) dX11_join_24 rfl ⟨hn8, Γ8, ct8, rv8, th8, kn8, kd8, ka8, kf8, kt8, kw8, kc8, v8, hE8, ht8, hk8, rfl, hA8, hb8, hneg8, hpos8⟩
  · exfalso
    omega
set_option maxHeartbeats 4000000 in
set_option maxRecDepth 100000 in
theorem y_X11_join1 {D : va_G} {cI cJ cZ cT : ClassId} {lo b L : Nat} {xs : Nat → Int32} {hp : MH} {n d : Nat} {Γ : TG} {a : Nat} {ct : Int} {rv : Int} {th : Nat → Option Nat} {dn : Int} {dd : Int} {da : Int} {df : Nat → Int} {dt : Nat → Int} {dw : Nat → Int} {dc : Nat → Int} {kn : Int} {kd : Int} {ka : Int} {kf : Nat → Int} {kt : Nat → Int} {kw : Nat → Int} {kc : Nat → Int} {so sz dr mn fr tt wt co : Nat → Int} {nu : Nat → Int64} {qi qc : Nat → Int} {x1 x2 x3 : Int} (hd0 : 5 ≤ d) (hk : EK Γ cI cJ cZ a ct th dn dd da df dt dw dc kn kd ka) (hm : HM Γ cI cJ cZ a ct th so sz dr mn fr tt wt co nu qi qc) (hrv : -2147483648 ≤ rv ∧ rv ≤ 2147483647) (hna : a + 84 ≤ n) (ht : Tw (CG Γ cI cJ cZ cT a ct rv th dn dd da df dt dw dc kn kd ka kf kt kw kc) hp) (hx1 : (-2147483648) ≤ x1 ∧ x1 ≤ 2147483647) (hx2 : (-2147483648) ≤ x2 ∧ x2 ≤ 2147483647) (hx3 : 1 ≤ x3 ∧ x3 ≤ 1) : Mt (gG D cI cJ cZ cT lo b L xs) mX11_join d 11 662 [.ref a, .int (iv x1), .int (iv x2), .int (iv x3)] hp n (qM Γ cI cJ cZ cT a dn dd da df dt dw dc n ct th (an2 ct so x1 1 x2 4 (sz (Int.toNat x1) ≠ sz (Int.toNat x2)) (60 < (((acc (mlE (sh fr (60 * x1)) (sh tt (60 * x1)) (sh wt (60 * x1)) (sh co (60 * x1)) (sh qi (16 * x2))) (Int.toNat (mn (Int.toNat x1))))).length : Int) ∨ ct = 120)) (fun Γ1 t => WG Γ1 cI cJ cZ a (qc (Int.toNat x2)) (dr (Int.toNat x1)) (acc (mlE (sh fr (60 * x1)) (sh tt (60 * x1)) (sh wt (60 * x1)) (sh co (60 * x1)) (sh qi (16 * x2))) (Int.toNat (mn (Int.toNat x1)))) t)) := by
  refine Mt.of rfl (Nat.le_of_ble_eq_true rfl) ?_
  refine Rn.pick (lv' := [(0, .ref a), (1, .int (iv x1)), (2, .int (iv x2)), (3, .int (iv x3))]) [0, 1, 2, 3] rfl ?_
  obtain ⟨hct, hth, ⟨hdn, hdd1, hda, har⟩, ⟨hkn, hkd, hka⟩, hsh, hse, hpr, hfl, hsm⟩ := id hk
  refine r_aload_n (pc := 0) dX11_join_0 (i := 0) rfl rfl ?_
  refine r_iconst (pc := 1) (v := iv 0) dX11_join_1 (by decide) ?_
  refine t_putX (pc := 2) (ty := .int) ht CG_0 fX11_19 tyX11 tyX11_ok nmX11 (by decide +kernel) (Or.inl rfl) dX11_join_2 (Nat.le_of_ble_eq_true rfl) rfl rfl rfl (fun hp1 ht2 => ?_)
  have ht3 := RGw_rv ht2
  refine r_iload_n (pc := 5) dX11_join_5 (i := 3) rfl rfl ?_
  refine t_if_eq (pc := 6) (tgt := 18) dX11_join_6 (by decide) (by omega) (fun c6 => ?_) (fun c6 => ?_)
  · exfalso
    omega
  · refine r_aload_n (pc := 9) dX11_join_9 (i := 0) rfl rfl ?_
    refine r_iload_n (pc := 10) dX11_join_10 (i := 1) rfl rfl ?_
    refine r_iload_n (pc := 11) dX11_join_11 (i := 2) rfl rfl ?_
    obtain ⟨fs9, hfs9⟩ := t_obj ht3 (rd_of CG_0)
    refine r_callV (pc := 12) (as := [.int (iv x1), .int (iv x2)]) (st := []) kX11_120 rfl dX11_join_12 hfs9 (y_X11_melt (d := d - 1) (x1 := x1) (x2 := x2) (by omega) hk hm (by omega) (by omega) ht3 (by omega) (by omega) (by omega)) rfl (by omega) (Nat.le_of_ble_eq_true rfl) (by omega) (by omega) rfl (fun r4 hp5 n6 hq7 => ?_)
    obtain ⟨hn8, Γ8, ct8, rv8, th8, kn8, kd8, ka8, kf8, kt8, kw8, kc8, v8, hE8, ht8, hk8, hr8, hA8, hb8, hneg8, hpos8⟩ := hq7
    subst r4
    change Rn _ _ _ 15 _ [.int (iv v8)] _ _ _ _ _
    refine r_goto (pc := 15) (tgt := 24) dX11_join_15 (by decide) ?_
    exact r_iret (pc := 24) dX11_join_24 rfl ⟨hn8, Γ8, ct8, rv8, th8, kn8, kd8, ka8, kf8, kt8, kw8, kc8, v8, hE8, ht8, hk8, rfl, hA8, hb8, hneg8, hpos8⟩
set_option maxHeartbeats 4000000 in
set_option maxRecDepth 100000 in
theorem y_X11_column {D : va_G} {cI cJ cZ cT : ClassId} {lo b L : Nat} {xs : Nat → Int32} {hp : MH} {n d : Nat} {Γ : TG} {a : Nat} {ct : Int} {rv : Int} {th : Nat → Option Nat} {dn : Int} {dd : Int} {da : Int} {df : Nat → Int} {dt : Nat → Int} {dw : Nat → Int} {dc : Nat → Int} {kn : Int} {kd : Int} {ka : Int} {kf : Nat → Int} {kt : Nat → Int} {kw : Nat → Int} {kc : Nat → Int} {so sz dr mn fr tt wt co : Nat → Int} {nu : Nat → Int64} {qi qc : Nat → Int} {x1 x2 x3 : Int} (hd0 : 4 ≤ d) (hk : EK Γ cI cJ cZ a ct th dn dd da df dt dw dc kn kd ka) (hm : HM Γ cI cJ cZ a ct th so sz dr mn fr tt wt co nu qi qc) (hrv : -2147483648 ≤ rv ∧ rv ≤ 2147483647) (hna : a + 84 ≤ n) (ht : Tw (CG Γ cI cJ cZ cT a ct rv th dn dd da df dt dw dc kn kd ka kf kt kw kc) hp) (hx1 : (-2147483648) ≤ x1 ∧ x1 ≤ 2147483647) (hx2 : (-2147483648) ≤ x2 ∧ x2 ≤ 2147483647) (hx3 : (-2147483648) ≤ x3 ∧ x3 ≤ 2147483647) : Mt (gG D cI cJ cZ cT lo b L xs) mX11_column d 3 34 [.ref a, .int (iv x1), .int (iv x2), .int (iv x3)] hp n (qM Γ cI cJ cZ cT a dn dd da df dt dw dc n ct th (an1 ct so x1 1 (x2 < 0 ∨ 6 < x2 ∨ (x2 = 5 ∧ (x3 < 0 ∨ 1000 < x3))) (ct = 120)) (fun Γ1 t => ∃ f, CX Γ1 cI cJ cZ a t (sz (Int.toNat x1)) f ∧ ckP (sz (Int.toNat x1)) (mn (Int.toNat x1)) (dr (Int.toNat x1)) (sh fr (60 * x1)) (sh tt (60 * x1)) (sh wt (60 * x1)) x2 x3 f)) := by
  refine Mt.of rfl (Nat.le_of_ble_eq_true rfl) ?_
  refine Rn.pick (lv' := [(0, .ref a), (1, .int (iv x1)), (2, .int (iv x2)), (3, .int (iv x3))]) [0, 1, 2, 3] rfl ?_
  obtain ⟨hct, hth, ⟨hdn, hdd1, hda, har⟩, ⟨hkn, hkd, hka⟩, hsh, hse, hpr, hfl, hsm⟩ := id hk
  refine r_aload_n (pc := 0) dX11_column_0 (i := 0) rfl rfl ?_
  refine r_iconst (pc := 1) (v := iv 0) dX11_column_1 (by decide) ?_
  refine t_putX (pc := 2) (ty := .int) ht CG_0 fX11_19 tyX11 tyX11_ok nmX11 (by decide +kernel) (Or.inl rfl) dX11_column_2 (Nat.le_of_ble_eq_true rfl) rfl rfl rfl (fun hp1 ht2 => ?_)
  have ht3 := RGw_rv ht2
  refine r_aload_n (pc := 5) dX11_column_5 (i := 0) rfl rfl ?_
  refine r_iload_n (pc := 6) dX11_column_6 (i := 1) rfl rfl ?_
  refine u_graphAt (pc := 7) (x := x1) (st := []) hct hm ht3 kX11_106 dX11_column_7 (by omega) (Nat.le_of_ble_eq_true rfl) (by omega) (fun hp4 ht5 hnog => ?_) (fun hp4 ga ht5 hyeg hTg => ?_)
  · refine r_astoreN (pc := 10) (lv' := [(4, .null), (0, .ref a), (1, .int (iv x1)), (2, .int (iv x2)), (3, .int (iv x3))]) dX11_column_10 (by decide) rfl ?_
    refine r_aloadN (pc := 12) dX11_column_12 rfl ?_
    refine r_ifnonnullN (pc := 14) dX11_column_14 ?_
    refine r_aload_n (pc := 17) dX11_column_17 (i := 0) rfl rfl ?_
    refine r_aload_n (pc := 18) dX11_column_18 (i := 0) rfl rfl ?_
    refine r_iload_n (pc := 19) dX11_column_19 (i := 1) rfl rfl ?_
    obtain ⟨fs10, hfs10⟩ := t_obj ht5 (rd_of CG_0)
    refine r_callV (pc := 20) (as := [.int (iv x1)]) (st := [.ref a]) kX11_110 rfl dX11_column_20 hfs10 (uw_X11_whyNot (d := d - 1) (x1 := x1) (by omega)  ht5 (by omega) (by omega) hm) rfl (by omega) (Nat.le_of_ble_eq_true rfl) (Nat.zero_le _) (Nat.zero_le _) rfl (fun r7 hp6 n8 hq9 => ?_)
    obtain ⟨hnn8, bb_12, ht11, hrr7, hhq90, hhq91⟩ := hq9
    subst n8 r7
    have hhq90 : -2 ≤ bb_12 ∧ bb_12 ≤ -1 := hhq90
    have hhq91 : (bb_12 = -1 ∧ ¬ (0 ≤ x1 ∧ x1 < ct)) ∨ (bb_12 = -2 ∧ 0 ≤ x1 ∧ x1 < ct) := hhq91
    change Rn _ _ _ 23 _ [.int (iv bb_12), .ref a] _ _ _ _ _
    obtain ⟨fs17, hfs17⟩ := t_obj ht11 (rd_of CG_0)
    refine r_callV (pc := 23) (as := [.int (iv bb_12)]) (st := []) kX11_82 rfl dX11_column_23 hfs17 (s_X11_refuse (d := d - 1) (x1 := bb_12) (by omega)  ht11 (by omega)) rfl (by omega) (Nat.le_of_ble_eq_true rfl) (Nat.zero_le _) (Nat.zero_le _) rfl (fun r14 hp13 n15 hq16 => ?_)
    obtain ⟨hnn15, ht18, hrr14⟩ := hq16
    subst n15 r14
    change Rn _ _ _ 26 _ [.int (iv bb_12)] _ _ _ _ _
    exact r_iret (pc := 26) dX11_column_26 rfl ⟨by omega, Γ, ct, bb_12, th, kn, kd, ka, kf, kt, kw, kc, bb_12, (Ext_refl Γ), ht18, hk, rfl, by exact an1_r (by omega), by omega, fun h9 => ⟨by omega, rfl, rfl⟩, fun h9 => absurd h9 (by omega)⟩
  · obtain ⟨gF, gT, gW, gC, gTl, gHd, gBy, gOu, gIn, gJo, gn, gm, gq, gdr, Tl, Hd, By, Ou, In, Jo, gpos, hg, hltg, hxg, hgog, houg, hing, hjog, heNg, heDg, heMg⟩ := id hTg
    have hfNg : Int.toNat (sz (Int.toNat x1)) = gn := by omega
    have hfMg : Int.toNat (mn (Int.toNat x1)) = gm := by omega
    obtain ⟨hg_O, hg_from, hg_to, hg_weight, hg_cost, hg_tail, hg_head, hg_by, hg_out, hg_in, hg_joined, hg_b⟩ := id hg
    refine r_astore (pc := 10) (lv' := [(4, .ref ga), (0, .ref a), (1, .int (iv x1)), (2, .int (iv x2)), (3, .int (iv x3))]) dX11_column_10 (by decide) rfl ?_
    refine r_aload (pc := 12) dX11_column_12 rfl ?_
    refine r_ifnonnull (pc := 14) (tgt := 27) dX11_column_14 (by decide) ?_
    refine r_iload_n (pc := 27) dX11_column_27 (i := 2) rfl rfl ?_
    refine t_if_lt (pc := 28) (tgt := 57) dX11_column_28 (by decide) (by omega) (fun c28 => ?_) (fun c28 => ?_)
    · refine r_iconst (pc := 57) (v := iv 0) dX11_column_57 (by decide) ?_
      refine r_istore (pc := 58) (lv' := [(5, .int (iv 0)), (4, .ref ga), (0, .ref a), (1, .int (iv x1)), (2, .int (iv x2)), (3, .int (iv x3))]) dX11_column_58 (by decide) rfl ?_
      refine r_iload (pc := 60) dX11_column_60 rfl ?_
      refine t_if_ne (pc := 62) (tgt := 72) dX11_column_62 (by decide) (by omega) (fun c62 => ?_) (fun c62 => ?_)
      · exfalso
        omega
      · refine r_aload_n (pc := 65) dX11_column_65 (i := 0) rfl rfl ?_
        refine r_bipush (pc := 66) (v := iv (-3)) dX11_column_66 (by decide) ?_
        obtain ⟨fs23, hfs23⟩ := t_obj ht5 (rd_of CG_0)
        refine r_callV (pc := 68) (as := [.int (iv (-3))]) (st := []) kX11_82 rfl dX11_column_68 hfs23 (s_X11_refuse (d := d - 1) (x1 := (-3)) (by omega)  ht5 (by omega)) rfl (by omega) (Nat.le_of_ble_eq_true rfl) (Nat.zero_le _) (Nat.zero_le _) rfl (fun r20 hp19 n21 hq22 => ?_)
        obtain ⟨hnn21, ht24, hrr20⟩ := hq22
        subst n21 r20
        change Rn _ _ _ 71 _ [.int (iv (-3))] _ _ _ _ _
        exact r_iret (pc := 71) dX11_column_71 rfl ⟨by omega, Γ, ct, (-3), th, kn, kd, ka, kf, kt, kw, kc, (-3), (Ext_refl Γ), ht24, hk, rfl, by exact an1_b (by omega) (by omega) (by omega), by omega, fun h9 => ⟨by omega, rfl, rfl⟩, fun h9 => absurd h9 (by omega)⟩
    · refine r_iload_n (pc := 31) dX11_column_31 (i := 2) rfl rfl ?_
      refine r_bipush (pc := 32) (v := iv 6) dX11_column_32 (by decide) ?_
      refine t_icmp_gt (pc := 34) (tgt := 57) dX11_column_34 (by decide) (by omega) (by omega) (fun c34 => ?_) (fun c34 => ?_)
      · refine r_iconst (pc := 57) (v := iv 0) dX11_column_57 (by decide) ?_
        refine r_istore (pc := 58) (lv' := [(5, .int (iv 0)), (4, .ref ga), (0, .ref a), (1, .int (iv x1)), (2, .int (iv x2)), (3, .int (iv x3))]) dX11_column_58 (by decide) rfl ?_
        refine r_iload (pc := 60) dX11_column_60 rfl ?_
        refine t_if_ne (pc := 62) (tgt := 72) dX11_column_62 (by decide) (by omega) (fun c62 => ?_) (fun c62 => ?_)
        · exfalso
          omega
        · refine r_aload_n (pc := 65) dX11_column_65 (i := 0) rfl rfl ?_
          refine r_bipush (pc := 66) (v := iv (-3)) dX11_column_66 (by decide) ?_
          obtain ⟨fs29, hfs29⟩ := t_obj ht5 (rd_of CG_0)
          refine r_callV (pc := 68) (as := [.int (iv (-3))]) (st := []) kX11_82 rfl dX11_column_68 hfs29 (s_X11_refuse (d := d - 1) (x1 := (-3)) (by omega)  ht5 (by omega)) rfl (by omega) (Nat.le_of_ble_eq_true rfl) (Nat.zero_le _) (Nat.zero_le _) rfl (fun r26 hp25 n27 hq28 => ?_)
          obtain ⟨hnn27, ht30, hrr26⟩ := hq28
          subst n27 r26
          change Rn _ _ _ 71 _ [.int (iv (-3))] _ _ _ _ _
          exact r_iret (pc := 71) dX11_column_71 rfl ⟨by omega, Γ, ct, (-3), th, kn, kd, ka, kf, kt, kw, kc, (-3), (Ext_refl Γ), ht30, hk, rfl, by exact an1_b (by omega) (by omega) (by omega), by omega, fun h9 => ⟨by omega, rfl, rfl⟩, fun h9 => absurd h9 (by omega)⟩
      · refine r_iload_n (pc := 37) dX11_column_37 (i := 2) rfl rfl ?_
        refine r_iconst (pc := 38) (v := iv 5) dX11_column_38 (by decide) ?_
        refine t_icmp_ne (pc := 39) (tgt := 53) dX11_column_39 (by decide) (by omega) (by omega) (fun c39 => ?_) (fun c39 => ?_)
        · refine r_iconst (pc := 53) (v := iv 1) dX11_column_53 (by decide) ?_
          refine r_goto (pc := 54) (tgt := 58) dX11_column_54 (by decide) ?_
          refine r_istore (pc := 58) (lv' := [(5, .int (iv 1)), (4, .ref ga), (0, .ref a), (1, .int (iv x1)), (2, .int (iv x2)), (3, .int (iv x3))]) dX11_column_58 (by decide) rfl ?_
          refine r_iload (pc := 60) dX11_column_60 rfl ?_
          refine t_if_ne (pc := 62) (tgt := 72) dX11_column_62 (by decide) (by omega) (fun c62 => ?_) (fun c62 => ?_)
          · refine r_aload_n (pc := 72) dX11_column_72 (i := 0) rfl rfl ?_
            obtain ⟨fs35, hfs35⟩ := t_obj ht5 (rd_of CG_0)
            refine r_callV (pc := 73) (as := []) (st := []) kX11_93 rfl dX11_column_73 hfs35 (s_X11_isFull (d := d - 1)  (by omega)  ht5  (by omega)) rfl (by omega) (Nat.le_of_ble_eq_true rfl) (Nat.zero_le _) (Nat.zero_le _) rfl (fun r32 hp31 n33 hq34 => ?_)
            obtain ⟨hnn33, bb_37, ht36, hrr32, hhq340⟩ := hq34
            subst n33 r32
            have hhq340 : (bb_37 = 1 ∧ 120 ≤ ct) ∨ (bb_37 = 0 ∧ ct < 120) := hhq340
            change Rn _ _ _ 76 _ [.int (iv bb_37)] _ _ _ _ _
            refine t_if_eq (pc := 76) (tgt := 86) dX11_column_76 (by decide) (by omega) (fun c76 => ?_) (fun c76 => ?_)
            · refine Rn.bd (fun bd9 => ?_)
              refine w_new (pc := 86) (fs := [.int 0, .null]) nX11_151 tyX0 tyX0_ok (by decide +kernel) dX11_column_86 (by omega) (by omega) (fun hpN hN1 hN2 hN3 => ?_)
              have htN := Tw_fr ht36 hN2
              refine r_dup (pc := 89) dX11_column_89 rfl ?_
              refine r_aload (pc := 90) dX11_column_90 rfl ?_
              refine t_getE (pc := 92) (.int (iv (gn : Int))) htN (rd_CG (by omega) hg_O) fX11_134 dX11_column_92 rfl ?_
              have hlo9 := Tw_lo ht36 bd9
              have hq_gF : gF < n := Tw.lt9 ht36 bd9 (rd_CG (by omega) hg_from)
              have hq_gT : gT < n := Tw.lt9 ht36 bd9 (rd_CG (by omega) hg_to)
              have hq_gW : gW < n := Tw.lt9 ht36 bd9 (rd_CG (by omega) hg_weight)
              have hq_gC : gC < n := Tw.lt9 ht36 bd9 (rd_CG (by omega) hg_cost)
              have hq_gTl : gTl < n := Tw.lt9 ht36 bd9 (rd_CG (by omega) hg_tail)
              have hq_gHd : gHd < n := Tw.lt9 ht36 bd9 (rd_CG (by omega) hg_head)
              have hq_gBy : gBy < n := Tw.lt9 ht36 bd9 (rd_CG (by omega) hg_by)
              have hq_gOu : gOu < n := Tw.lt9 ht36 bd9 (rd_CG (by omega) hg_out)
              have hq_gIn : gIn < n := Tw.lt9 ht36 bd9 (rd_CG (by omega) hg_in)
              have hq_gJo : gJo < n := Tw.lt9 ht36 bd9 (rd_CG (by omega) hg_joined)
              have hq_ga : ga < n := Tw.lt9 ht36 bd9 (rd_CG (by omega) hg_O)
              refine u_initC (pc := 95) (N := gn) (x := (gn : Int)) (st := [.ref n]) ht36 bd9 hna hN2 hN1 (by omega) (by omega) kX11_153 dX11_column_95 (by omega) (Nat.le_of_ble_eq_true rfl) (by omega) (by omega) (fun hp2 Γ2 hE2 ht2 hv => ?_)
              obtain ⟨hv_O, hv_numbers, hv_b⟩ := id hv
              have hg := TyG.ext hE2 hg
              obtain ⟨hg_O, hg_from, hg_to, hg_weight, hg_cost, hg_tail, hg_head, hg_by, hg_out, hg_in, hg_joined, hg_b⟩ := id hg
              have hxg := XG.ext hE2 hxg
              have hse := TySets.ext hE2 hse
              have hsh := TyShape.ext hE2 hsh
              have hfl := TyFlows.ext hE2 hfl
              refine r_astore (pc := 98) (lv' := [(6, .ref n), (5, .int (iv 1)), (4, .ref ga), (0, .ref a), (1, .int (iv x1)), (2, .int (iv x2)), (3, .int (iv x3))]) dX11_column_98 (by decide) rfl ?_
              refine r_aload (pc := 100) dX11_column_100 rfl ?_
              refine r_aload (pc := 102) dX11_column_102 rfl ?_
              refine r_iload_n (pc := 104) dX11_column_104 (i := 2) rfl rfl ?_
              refine r_iload_n (pc := 105) dX11_column_105 (i := 3) rfl rfl ?_
              obtain ⟨fs43, hfs43⟩ := t_obj ht2 (rd_ov (by omega) (rd_CG (by omega) hv_O))
              refine r_callV (pc := 106) (as := [.ref ga, .int (iv x2), .int (iv x3)]) (st := []) kX11_156 rfl dX11_column_106 hfs43 (c_X0_measurex (d := d - 1) (x2 := x2) (x3 := x3) (by omega) (TyG.cg (by omega) hg) (XG.cg (by omega) hxg) (TyCw.cg (by omega) hv) ⟨nE_i (by omega), nE_i (by omega), nE_i (by omega), nE_i (by omega), nE_i (by omega), nE_i (by omega), nE_i (by omega), nE_i (by omega), nE_i (by omega), nE_i (by omega), nE_i (by omega), nE_i (by omega)⟩ ht2 (by omega) (by omega) hgog houg hjog) rfl (by omega) (Nat.le_of_ble_eq_true rfl) (by omega) (by omega) rfl (fun r38 hp39 n40 hq41 => ?_)
              obtain ⟨hnn40, hrr38, fc9, ht42, hfc⟩ := hq41
              subst r38
              change Rn _ _ _ 109 _ [] _ _ _ _ _
              refine r_aload_n (pc := 109) dX11_column_109 (i := 0) rfl rfl ?_
              refine r_aload (pc := 110) dX11_column_110 rfl ?_
              obtain ⟨Γ3, hE3, ht3, hCX⟩ := col_close hE2 (lo_CG hlo9 (by omega)) hna hv ht42
              have hth2 := hCX.th
              obtain ⟨Fs9, hv9, hl9⟩ := ThC_rd hth2
              obtain ⟨fs49, hfs49⟩ := t_obj ht3 (rd_of CG_0)
              refine r_callV (pc := 112) (as := [.ref n]) (st := []) kX11_102 rfl dX11_column_112 hfs49 (t_X11_keep (d := d - 1) (r0 := (RX0, TX0, 2)) (by omega) (by omega) (rd_CG (by omega) hv9) rfl (show (RX0, "GraphEngine$Thing") ∈ cas by decide +kernel) ht3) rfl (by omega) (Nat.le_of_ble_eq_true rfl) (Nat.zero_le _) (Nat.zero_le _) rfl (fun r44 hp45 n46 hq47 => ?_)
              obtain ⟨hnn46, ht48, hrr44⟩ := hq47
              subst n46 r44
              change Rn _ _ _ 115 _ [.int (iv ct)] _ _ _ _ _
              exact r_iret (pc := 115) dX11_column_115 rfl ⟨by omega, Γ3, (ct + 1), 0, (va_up th (ct).toNat (some n)), kn, kd, ka, kf, kt, kw, kc, ct, (Ext_tr (Ext_refl Γ) hE3), ht48, (EK.keep (EK.ext hE3 hk) (by omega) (Or.inr (Or.inl hth2))), rfl, by exact an1_m (hdQ_n (by omega)).symm (by omega) (by omega), by omega, fun h9 => absurd h9 (by omega), fun _ => ⟨by omega, rfl, n, rfl, ⟨fc9, by rw [heNg]; exact hCX, by rw [heNg, heMg, heDg]; exact hfc⟩⟩⟩
            · refine r_aload_n (pc := 79) dX11_column_79 (i := 0) rfl rfl ?_
              refine r_bipush (pc := 80) (v := iv (-4)) dX11_column_80 (by decide) ?_
              obtain ⟨fs54, hfs54⟩ := t_obj ht36 (rd_of CG_0)
              refine r_callV (pc := 82) (as := [.int (iv (-4))]) (st := []) kX11_82 rfl dX11_column_82 hfs54 (s_X11_refuse (d := d - 1) (x1 := (-4)) (by omega)  ht36 (by omega)) rfl (by omega) (Nat.le_of_ble_eq_true rfl) (Nat.zero_le _) (Nat.zero_le _) rfl (fun r51 hp50 n52 hq53 => ?_)
              obtain ⟨hnn52, ht55, hrr51⟩ := hq53
              subst n52 r51
              change Rn _ _ _ 85 _ [.int (iv (-4))] _ _ _ _ _
              exact r_iret (pc := 85) dX11_column_85 rfl ⟨by omega, Γ, ct, (-4), th, kn, kd, ka, kf, kt, kw, kc, (-4), (Ext_refl Γ), ht55, hk, rfl, by exact an1_m (hdQ_y (by omega)).symm (by omega) (by omega), by omega, fun h9 => ⟨by omega, rfl, rfl⟩, fun h9 => absurd h9 (by omega)⟩
          · exfalso
            omega
        · refine r_iload_n (pc := 42) dX11_column_42 (i := 3) rfl rfl ?_
          refine t_if_lt (pc := 43) (tgt := 57) dX11_column_43 (by decide) (by omega) (fun c43 => ?_) (fun c43 => ?_)
          · refine r_iconst (pc := 57) (v := iv 0) dX11_column_57 (by decide) ?_
            refine r_istore (pc := 58) (lv' := [(5, .int (iv 0)), (4, .ref ga), (0, .ref a), (1, .int (iv x1)), (2, .int (iv x2)), (3, .int (iv x3))]) dX11_column_58 (by decide) rfl ?_
            refine r_iload (pc := 60) dX11_column_60 rfl ?_
            refine t_if_ne (pc := 62) (tgt := 72) dX11_column_62 (by decide) (by omega) (fun c62 => ?_) (fun c62 => ?_)
            · exfalso
              omega
            · refine r_aload_n (pc := 65) dX11_column_65 (i := 0) rfl rfl ?_
              refine r_bipush (pc := 66) (v := iv (-3)) dX11_column_66 (by decide) ?_
              obtain ⟨fs60, hfs60⟩ := t_obj ht5 (rd_of CG_0)
              refine r_callV (pc := 68) (as := [.int (iv (-3))]) (st := []) kX11_82 rfl dX11_column_68 hfs60 (s_X11_refuse (d := d - 1) (x1 := (-3)) (by omega)  ht5 (by omega)) rfl (by omega) (Nat.le_of_ble_eq_true rfl) (Nat.zero_le _) (Nat.zero_le _) rfl (fun r57 hp56 n58 hq59 => ?_)
              obtain ⟨hnn58, ht61, hrr57⟩ := hq59
              subst n58 r57
              change Rn _ _ _ 71 _ [.int (iv (-3))] _ _ _ _ _
              exact r_iret (pc := 71) dX11_column_71 rfl ⟨by omega, Γ, ct, (-3), th, kn, kd, ka, kf, kt, kw, kc, (-3), (Ext_refl Γ), ht61, hk, rfl, by exact an1_b (by omega) (by omega) (by omega), by omega, fun h9 => ⟨by omega, rfl, rfl⟩, fun h9 => absurd h9 (by omega)⟩
          · refine r_iload_n (pc := 46) dX11_column_46 (i := 3) rfl rfl ?_
            refine r_sipush (pc := 47) (v := iv 1000) dX11_column_47 (by decide) ?_
            refine t_icmp_gt (pc := 50) (tgt := 57) dX11_column_50 (by decide) (by omega) (by omega) (fun c50 => ?_) (fun c50 => ?_)
            · refine r_iconst (pc := 57) (v := iv 0) dX11_column_57 (by decide) ?_
              refine r_istore (pc := 58) (lv' := [(5, .int (iv 0)), (4, .ref ga), (0, .ref a), (1, .int (iv x1)), (2, .int (iv x2)), (3, .int (iv x3))]) dX11_column_58 (by decide) rfl ?_
              refine r_iload (pc := 60) dX11_column_60 rfl ?_
              refine t_if_ne (pc := 62) (tgt := 72) dX11_column_62 (by decide) (by omega) (fun c62 => ?_) (fun c62 => ?_)
              · exfalso
                omega
              · refine r_aload_n (pc := 65) dX11_column_65 (i := 0) rfl rfl ?_
                refine r_bipush (pc := 66) (v := iv (-3)) dX11_column_66 (by decide) ?_
                obtain ⟨fs66, hfs66⟩ := t_obj ht5 (rd_of CG_0)
                refine r_callV (pc := 68) (as := [.int (iv (-3))]) (st := []) kX11_82 rfl dX11_column_68 hfs66 (s_X11_refuse (d := d - 1) (x1 := (-3)) (by omega)  ht5 (by omega)) rfl (by omega) (Nat.le_of_ble_eq_true rfl) (Nat.zero_le _) (Nat.zero_le _) rfl (fun r63 hp62 n64 hq65 => ?_)
                obtain ⟨hnn64, ht67, hrr63⟩ := hq65
                subst n64 r63
                change Rn _ _ _ 71 _ [.int (iv (-3))] _ _ _ _ _
                exact r_iret (pc := 71) dX11_column_71 rfl ⟨by omega, Γ, ct, (-3), th, kn, kd, ka, kf, kt, kw, kc, (-3), (Ext_refl Γ), ht67, hk, rfl, by exact an1_b (by omega) (by omega) (by omega), by omega, fun h9 => ⟨by omega, rfl, rfl⟩, fun h9 => absurd h9 (by omega)⟩
            · refine r_iconst (pc := 53) (v := iv 1) dX11_column_53 (by decide) ?_
              refine r_goto (pc := 54) (tgt := 58) dX11_column_54 (by decide) ?_
              refine r_istore (pc := 58) (lv' := [(5, .int (iv 1)), (4, .ref ga), (0, .ref a), (1, .int (iv x1)), (2, .int (iv x2)), (3, .int (iv x3))]) dX11_column_58 (by decide) rfl ?_
              refine r_iload (pc := 60) dX11_column_60 rfl ?_
              refine t_if_ne (pc := 62) (tgt := 72) dX11_column_62 (by decide) (by omega) (fun c62 => ?_) (fun c62 => ?_)
              · refine r_aload_n (pc := 72) dX11_column_72 (i := 0) rfl rfl ?_
                obtain ⟨fs72, hfs72⟩ := t_obj ht5 (rd_of CG_0)
                refine r_callV (pc := 73) (as := []) (st := []) kX11_93 rfl dX11_column_73 hfs72 (s_X11_isFull (d := d - 1)  (by omega)  ht5  (by omega)) rfl (by omega) (Nat.le_of_ble_eq_true rfl) (Nat.zero_le _) (Nat.zero_le _) rfl (fun r69 hp68 n70 hq71 => ?_)
                obtain ⟨hnn70, bb_74, ht73, hrr69, hhq710⟩ := hq71
                subst n70 r69
                have hhq710 : (bb_74 = 1 ∧ 120 ≤ ct) ∨ (bb_74 = 0 ∧ ct < 120) := hhq710
                change Rn _ _ _ 76 _ [.int (iv bb_74)] _ _ _ _ _
                refine t_if_eq (pc := 76) (tgt := 86) dX11_column_76 (by decide) (by omega) (fun c76 => ?_) (fun c76 => ?_)
                · refine Rn.bd (fun bd9 => ?_)
                  refine w_new (pc := 86) (fs := [.int 0, .null]) nX11_151 tyX0 tyX0_ok (by decide +kernel) dX11_column_86 (by omega) (by omega) (fun hpN hN1 hN2 hN3 => ?_)
                  have htN := Tw_fr ht73 hN2
                  refine r_dup (pc := 89) dX11_column_89 rfl ?_
                  refine r_aload (pc := 90) dX11_column_90 rfl ?_
                  refine t_getE (pc := 92) (.int (iv (gn : Int))) htN (rd_CG (by omega) hg_O) fX11_134 dX11_column_92 rfl ?_
                  have hlo9 := Tw_lo ht73 bd9
                  have hq_gF : gF < n := Tw.lt9 ht73 bd9 (rd_CG (by omega) hg_from)
                  have hq_gT : gT < n := Tw.lt9 ht73 bd9 (rd_CG (by omega) hg_to)
                  have hq_gW : gW < n := Tw.lt9 ht73 bd9 (rd_CG (by omega) hg_weight)
                  have hq_gC : gC < n := Tw.lt9 ht73 bd9 (rd_CG (by omega) hg_cost)
                  have hq_gTl : gTl < n := Tw.lt9 ht73 bd9 (rd_CG (by omega) hg_tail)
                  have hq_gHd : gHd < n := Tw.lt9 ht73 bd9 (rd_CG (by omega) hg_head)
                  have hq_gBy : gBy < n := Tw.lt9 ht73 bd9 (rd_CG (by omega) hg_by)
                  have hq_gOu : gOu < n := Tw.lt9 ht73 bd9 (rd_CG (by omega) hg_out)
                  have hq_gIn : gIn < n := Tw.lt9 ht73 bd9 (rd_CG (by omega) hg_in)
                  have hq_gJo : gJo < n := Tw.lt9 ht73 bd9 (rd_CG (by omega) hg_joined)
                  have hq_ga : ga < n := Tw.lt9 ht73 bd9 (rd_CG (by omega) hg_O)
                  refine u_initC (pc := 95) (N := gn) (x := (gn : Int)) (st := [.ref n]) ht73 bd9 hna hN2 hN1 (by omega) (by omega) kX11_153 dX11_column_95 (by omega) (Nat.le_of_ble_eq_true rfl) (by omega) (by omega) (fun hp2 Γ2 hE2 ht2 hv => ?_)
                  obtain ⟨hv_O, hv_numbers, hv_b⟩ := id hv
                  have hg := TyG.ext hE2 hg
                  obtain ⟨hg_O, hg_from, hg_to, hg_weight, hg_cost, hg_tail, hg_head, hg_by, hg_out, hg_in, hg_joined, hg_b⟩ := id hg
                  have hxg := XG.ext hE2 hxg
                  have hse := TySets.ext hE2 hse
                  have hsh := TyShape.ext hE2 hsh
                  have hfl := TyFlows.ext hE2 hfl
                  refine r_astore (pc := 98) (lv' := [(6, .ref n), (5, .int (iv 1)), (4, .ref ga), (0, .ref a), (1, .int (iv x1)), (2, .int (iv x2)), (3, .int (iv x3))]) dX11_column_98 (by decide) rfl ?_
                  refine r_aload (pc := 100) dX11_column_100 rfl ?_
                  refine r_aload (pc := 102) dX11_column_102 rfl ?_
                  refine r_iload_n (pc := 104) dX11_column_104 (i := 2) rfl rfl ?_
                  refine r_iload_n (pc := 105) dX11_column_105 (i := 3) rfl rfl ?_
                  obtain ⟨fs80, hfs80⟩ := t_obj ht2 (rd_ov (by omega) (rd_CG (by omega) hv_O))
                  refine r_callV (pc := 106) (as := [.ref ga, .int (iv x2), .int (iv x3)]) (st := []) kX11_156 rfl dX11_column_106 hfs80 (c_X0_measurex (d := d - 1) (x2 := x2) (x3 := x3) (by omega) (TyG.cg (by omega) hg) (XG.cg (by omega) hxg) (TyCw.cg (by omega) hv) ⟨nE_i (by omega), nE_i (by omega), nE_i (by omega), nE_i (by omega), nE_i (by omega), nE_i (by omega), nE_i (by omega), nE_i (by omega), nE_i (by omega), nE_i (by omega), nE_i (by omega), nE_i (by omega)⟩ ht2 (by omega) (by omega) hgog houg hjog) rfl (by omega) (Nat.le_of_ble_eq_true rfl) (by omega) (by omega) rfl (fun r75 hp76 n77 hq78 => ?_)
                  obtain ⟨hnn77, hrr75, fc9, ht79, hfc⟩ := hq78
                  subst r75
                  change Rn _ _ _ 109 _ [] _ _ _ _ _
                  refine r_aload_n (pc := 109) dX11_column_109 (i := 0) rfl rfl ?_
                  refine r_aload (pc := 110) dX11_column_110 rfl ?_
                  obtain ⟨Γ3, hE3, ht3, hCX⟩ := col_close hE2 (lo_CG hlo9 (by omega)) hna hv ht79
                  have hth2 := hCX.th
                  obtain ⟨Fs9, hv9, hl9⟩ := ThC_rd hth2
                  obtain ⟨fs86, hfs86⟩ := t_obj ht3 (rd_of CG_0)
                  refine r_callV (pc := 112) (as := [.ref n]) (st := []) kX11_102 rfl dX11_column_112 hfs86 (t_X11_keep (d := d - 1) (r0 := (RX0, TX0, 2)) (by omega) (by omega) (rd_CG (by omega) hv9) rfl (show (RX0, "GraphEngine$Thing") ∈ cas by decide +kernel) ht3) rfl (by omega) (Nat.le_of_ble_eq_true rfl) (Nat.zero_le _) (Nat.zero_le _) rfl (fun r81 hp82 n83 hq84 => ?_)
                  obtain ⟨hnn83, ht85, hrr81⟩ := hq84
                  subst n83 r81
                  change Rn _ _ _ 115 _ [.int (iv ct)] _ _ _ _ _
                  exact r_iret (pc := 115) dX11_column_115 rfl ⟨by omega, Γ3, (ct + 1), 0, (va_up th (ct).toNat (some n)), kn, kd, ka, kf, kt, kw, kc, ct, (Ext_tr (Ext_refl Γ) hE3), ht85, (EK.keep (EK.ext hE3 hk) (by omega) (Or.inr (Or.inl hth2))), rfl, by exact an1_m (hdQ_n (by omega)).symm (by omega) (by omega), by omega, fun h9 => absurd h9 (by omega), fun _ => ⟨by omega, rfl, n, rfl, ⟨fc9, by rw [heNg]; exact hCX, by rw [heNg, heMg, heDg]; exact hfc⟩⟩⟩
                · refine r_aload_n (pc := 79) dX11_column_79 (i := 0) rfl rfl ?_
                  refine r_bipush (pc := 80) (v := iv (-4)) dX11_column_80 (by decide) ?_
                  obtain ⟨fs91, hfs91⟩ := t_obj ht73 (rd_of CG_0)
                  refine r_callV (pc := 82) (as := [.int (iv (-4))]) (st := []) kX11_82 rfl dX11_column_82 hfs91 (s_X11_refuse (d := d - 1) (x1 := (-4)) (by omega)  ht73 (by omega)) rfl (by omega) (Nat.le_of_ble_eq_true rfl) (Nat.zero_le _) (Nat.zero_le _) rfl (fun r88 hp87 n89 hq90 => ?_)
                  obtain ⟨hnn89, ht92, hrr88⟩ := hq90
                  subst n89 r88
                  change Rn _ _ _ 85 _ [.int (iv (-4))] _ _ _ _ _
                  exact r_iret (pc := 85) dX11_column_85 rfl ⟨by omega, Γ, ct, (-4), th, kn, kd, ka, kf, kt, kw, kc, (-4), (Ext_refl Γ), ht92, hk, rfl, by exact an1_m (hdQ_y (by omega)).symm (by omega) (by omega), by omega, fun h9 => ⟨by omega, rfl, rfl⟩, fun h9 => absurd h9 (by omega)⟩
              · exfalso
                omega
set_option maxHeartbeats 4000000 in
set_option maxRecDepth 100000 in
theorem y_X11_flat {D : va_G} {cI cJ cZ cT : ClassId} {lo b L : Nat} {xs : Nat → Int32} {hp : MH} {n d : Nat} {Γ : TG} {a : Nat} {ct : Int} {rv : Int} {th : Nat → Option Nat} {dn : Int} {dd : Int} {da : Int} {df : Nat → Int} {dt : Nat → Int} {dw : Nat → Int} {dc : Nat → Int} {kn : Int} {kd : Int} {ka : Int} {kf : Nat → Int} {kt : Nat → Int} {kw : Nat → Int} {kc : Nat → Int} {so sz dr mn fr tt wt co : Nat → Int} {nu : Nat → Int64} {qi qc : Nat → Int} {x1 x3 : Int} {j2 j4 : Int64} (hd0 : 2 ≤ d) (hk : EK Γ cI cJ cZ a ct th dn dd da df dt dw dc kn kd ka) (hm : HM Γ cI cJ cZ a ct th so sz dr mn fr tt wt co nu qi qc) (hrv : -2147483648 ≤ rv ∧ rv ≤ 2147483647) (hna : a + 84 ≤ n) (ht : Tw (CG Γ cI cJ cZ cT a ct rv th dn dd da df dt dw dc kn kd ka kf kt kw kc) hp) (hx1 : (-2147483648) ≤ x1 ∧ x1 ≤ 2147483647) (hx3 : (-2147483648) ≤ x3 ∧ x3 ≤ 2147483647) : Mt (gG D cI cJ cZ cT lo b L xs) mX11_flat d 2 18 [.ref a, .int (iv x1), .long j2, .int (iv x3), .long j4] hp n (qM Γ cI cJ cZ cT a dn dd da df dt dw dc n ct th (hdQ (x1 < 1 ∨ 16 < x1 ∨ x3 < -1 ∨ x1 ≤ x3) (-3) (hdQ (ct = 120) (-4) ct)) (fun Γ1 t => ∃ f, CX Γ1 cI cJ cZ a t x1 f ∧ ∀ v : Nat, (v : Int) < x1 → f v = ftV j2 x3 j4 v)) := by
  refine Mt.of rfl (Nat.le_of_ble_eq_true rfl) ?_
  refine Rn.pick (lv' := [(0, .ref a), (1, .int (iv x1)), (2, .long j2), (4, .int (iv x3)), (5, .long j4)]) [0, 1, 2, 3, 4] rfl ?_
  obtain ⟨hct, hth, ⟨hdn, hdd1, hda, har⟩, ⟨hkn, hkd, hka⟩, hsh, hse, hpr, hfl, hsm⟩ := id hk
  refine r_aload_n (pc := 0) dX11_flat_0 (i := 0) rfl rfl ?_
  refine r_iconst (pc := 1) (v := iv 0) dX11_flat_1 (by decide) ?_
  refine t_putX (pc := 2) (ty := .int) ht CG_0 fX11_19 tyX11 tyX11_ok nmX11 (by decide +kernel) (Or.inl rfl) dX11_flat_2 (Nat.le_of_ble_eq_true rfl) rfl rfl rfl (fun hp1 ht2 => ?_)
  have ht3 := RGw_rv ht2
  refine r_iload_n (pc := 5) dX11_flat_5 (i := 1) rfl rfl ?_
  refine r_iconst (pc := 6) (v := iv 1) dX11_flat_6 (by decide) ?_
  refine t_icmp_lt (pc := 7) (tgt := 28) dX11_flat_7 (by decide) (by omega) (by omega) (fun c7 => ?_) (fun c7 => ?_)
  · refine r_aload_n (pc := 28) dX11_flat_28 (i := 0) rfl rfl ?_
    refine r_bipush (pc := 29) (v := iv (-3)) dX11_flat_29 (by decide) ?_
    obtain ⟨fs8, hfs8⟩ := t_obj ht3 (rd_of CG_0)
    refine r_callV (pc := 31) (as := [.int (iv (-3))]) (st := []) kX11_82 rfl dX11_flat_31 hfs8 (s_X11_refuse (d := d - 1) (x1 := (-3)) (by omega)  ht3 (by omega)) rfl (by omega) (Nat.le_of_ble_eq_true rfl) (Nat.zero_le _) (Nat.zero_le _) rfl (fun r5 hp4 n6 hq7 => ?_)
    obtain ⟨hnn6, ht9, hrr5⟩ := hq7
    subst n6 r5
    change Rn _ _ _ 34 _ [.int (iv (-3))] _ _ _ _ _
    exact r_iret (pc := 34) dX11_flat_34 rfl ⟨by omega, Γ, ct, (-3), th, kn, kd, ka, kf, kt, kw, kc, (-3), (Ext_refl Γ), ht9, hk, rfl, by exact (hdQ_y (by omega)).symm, by omega, fun h9 => ⟨by omega, rfl, rfl⟩, fun h9 => absurd h9 (by omega)⟩
  · refine r_iload_n (pc := 10) dX11_flat_10 (i := 1) rfl rfl ?_
    refine r_bipush (pc := 11) (v := iv 16) dX11_flat_11 (by decide) ?_
    refine t_icmp_gt (pc := 13) (tgt := 28) dX11_flat_13 (by decide) (by omega) (by omega) (fun c13 => ?_) (fun c13 => ?_)
    · refine r_aload_n (pc := 28) dX11_flat_28 (i := 0) rfl rfl ?_
      refine r_bipush (pc := 29) (v := iv (-3)) dX11_flat_29 (by decide) ?_
      obtain ⟨fs14, hfs14⟩ := t_obj ht3 (rd_of CG_0)
      refine r_callV (pc := 31) (as := [.int (iv (-3))]) (st := []) kX11_82 rfl dX11_flat_31 hfs14 (s_X11_refuse (d := d - 1) (x1 := (-3)) (by omega)  ht3 (by omega)) rfl (by omega) (Nat.le_of_ble_eq_true rfl) (Nat.zero_le _) (Nat.zero_le _) rfl (fun r11 hp10 n12 hq13 => ?_)
      obtain ⟨hnn12, ht15, hrr11⟩ := hq13
      subst n12 r11
      change Rn _ _ _ 34 _ [.int (iv (-3))] _ _ _ _ _
      exact r_iret (pc := 34) dX11_flat_34 rfl ⟨by omega, Γ, ct, (-3), th, kn, kd, ka, kf, kt, kw, kc, (-3), (Ext_refl Γ), ht15, hk, rfl, by exact (hdQ_y (by omega)).symm, by omega, fun h9 => ⟨by omega, rfl, rfl⟩, fun h9 => absurd h9 (by omega)⟩
    · refine r_iload (pc := 16) dX11_flat_16 rfl ?_
      refine r_iconst (pc := 18) (v := iv (-1)) dX11_flat_18 (by decide) ?_
      refine t_icmp_lt (pc := 19) (tgt := 28) dX11_flat_19 (by decide) (by omega) (by omega) (fun c19 => ?_) (fun c19 => ?_)
      · refine r_aload_n (pc := 28) dX11_flat_28 (i := 0) rfl rfl ?_
        refine r_bipush (pc := 29) (v := iv (-3)) dX11_flat_29 (by decide) ?_
        obtain ⟨fs20, hfs20⟩ := t_obj ht3 (rd_of CG_0)
        refine r_callV (pc := 31) (as := [.int (iv (-3))]) (st := []) kX11_82 rfl dX11_flat_31 hfs20 (s_X11_refuse (d := d - 1) (x1 := (-3)) (by omega)  ht3 (by omega)) rfl (by omega) (Nat.le_of_ble_eq_true rfl) (Nat.zero_le _) (Nat.zero_le _) rfl (fun r17 hp16 n18 hq19 => ?_)
        obtain ⟨hnn18, ht21, hrr17⟩ := hq19
        subst n18 r17
        change Rn _ _ _ 34 _ [.int (iv (-3))] _ _ _ _ _
        exact r_iret (pc := 34) dX11_flat_34 rfl ⟨by omega, Γ, ct, (-3), th, kn, kd, ka, kf, kt, kw, kc, (-3), (Ext_refl Γ), ht21, hk, rfl, by exact (hdQ_y (by omega)).symm, by omega, fun h9 => ⟨by omega, rfl, rfl⟩, fun h9 => absurd h9 (by omega)⟩
      · refine r_iload (pc := 22) dX11_flat_22 rfl ?_
        refine r_iload_n (pc := 24) dX11_flat_24 (i := 1) rfl rfl ?_
        refine t_icmp_lt (pc := 25) (tgt := 35) dX11_flat_25 (by decide) (by omega) (by omega) (fun c25 => ?_) (fun c25 => ?_)
        · refine r_aload_n (pc := 35) dX11_flat_35 (i := 0) rfl rfl ?_
          obtain ⟨fs26, hfs26⟩ := t_obj ht3 (rd_of CG_0)
          refine r_callV (pc := 36) (as := []) (st := []) kX11_93 rfl dX11_flat_36 hfs26 (s_X11_isFull (d := d - 1)  (by omega)  ht3  (by omega)) rfl (by omega) (Nat.le_of_ble_eq_true rfl) (Nat.zero_le _) (Nat.zero_le _) rfl (fun r23 hp22 n24 hq25 => ?_)
          obtain ⟨hnn24, bb_28, ht27, hrr23, hhq250⟩ := hq25
          subst n24 r23
          have hhq250 : (bb_28 = 1 ∧ 120 ≤ ct) ∨ (bb_28 = 0 ∧ ct < 120) := hhq250
          change Rn _ _ _ 39 _ [.int (iv bb_28)] _ _ _ _ _
          refine t_if_eq (pc := 39) (tgt := 49) dX11_flat_39 (by decide) (by omega) (fun c39 => ?_) (fun c39 => ?_)
          · refine Rn.bd (fun bd9 => ?_)
            refine w_new (pc := 49) (fs := [.int 0, .null]) nX11_151 tyX0 tyX0_ok (by decide +kernel) dX11_flat_49 (by omega) (by omega) (fun hpN hN1 hN2 hN3 => ?_)
            have htN := Tw_fr ht27 hN2
            refine r_dup (pc := 52) dX11_flat_52 rfl ?_
            refine r_iload_n (pc := 53) dX11_flat_53 (i := 1) rfl rfl ?_
            have hlo9 := Tw_lo ht27 bd9
            refine u_initC (pc := 54) (N := x1.toNat) (x := x1) (st := [.ref n]) ht27 bd9 hna hN2 hN1 (by omega) (by omega) kX11_153 dX11_flat_54 (by omega) (Nat.le_of_ble_eq_true rfl) (by omega) (by omega) (fun hp2 Γ2 hE2 ht2 hv => ?_)
            obtain ⟨hv_O, hv_numbers, hv_b⟩ := id hv
            have hse := TySets.ext hE2 hse
            have hsh := TyShape.ext hE2 hsh
            have hfl := TyFlows.ext hE2 hfl
            refine r_astore (pc := 57) (lv' := [(7, .ref n), (0, .ref a), (1, .int (iv x1)), (2, .long j2), (4, .int (iv x3)), (5, .long j4)]) dX11_flat_57 (by decide) rfl ?_
            refine r_aload (pc := 59) dX11_flat_59 rfl ?_
            refine t_getE (pc := 61) (.ref (n + 1)) ht2 (rd_ov (by omega) (rd_CG (by omega) hv_O)) fX11_160 dX11_flat_61 rfl ?_
            refine r_lload_n (pc := 64) dX11_flat_64 (i := 2) rfl rfl ?_
            refine t_fillJX (pc := 65) ht2 (rd_of (ov_s _ _ _)) kX11_164 dX11_flat_65 (by omega) (by omega) (Nat.le_of_ble_eq_true rfl) (fun hp29 ht30 => ?_)
            rw [ov_ov] at ht30
            refine r_iload (pc := 68) dX11_flat_68 rfl ?_
            refine t_if_lt (pc := 70) (tgt := 83) dX11_flat_70 (by decide) (by omega) (fun c70 => ?_) (fun c70 => ?_)
            · refine r_aload_n (pc := 83) dX11_flat_83 (i := 0) rfl rfl ?_
              refine r_aload (pc := 84) dX11_flat_84 rfl ?_
              obtain ⟨Γ3, hE3, ht3, hCX⟩ := col_close hE2 (lo_CG hlo9 (by omega)) hna hv ht30
              have hth2 := hCX.th
              obtain ⟨Fs9, hv9, hl9⟩ := ThC_rd hth2
              obtain ⟨fs36, hfs36⟩ := t_obj ht3 (rd_of CG_0)
              refine r_callV (pc := 86) (as := [.ref n]) (st := []) kX11_102 rfl dX11_flat_86 hfs36 (t_X11_keep (d := d - 1) (r0 := (RX0, TX0, 2)) (by omega) (by omega) (rd_CG (by omega) hv9) rfl (show (RX0, "GraphEngine$Thing") ∈ cas by decide +kernel) ht3) rfl (by omega) (Nat.le_of_ble_eq_true rfl) (Nat.zero_le _) (Nat.zero_le _) rfl (fun r31 hp32 n33 hq34 => ?_)
              obtain ⟨hnn33, ht35, hrr31⟩ := hq34
              subst n33 r31
              change Rn _ _ _ 89 _ [.int (iv ct)] _ _ _ _ _
              exact r_iret (pc := 89) dX11_flat_89 rfl ⟨by omega, Γ3, (ct + 1), 0, (va_up th (ct).toNat (some n)), kn, kd, ka, kf, kt, kw, kc, ct, (Ext_tr (Ext_refl Γ) hE3), ht35, (EK.keep (EK.ext hE3 hk) (by omega) (Or.inr (Or.inl hth2))), rfl, by rw [hdQ_n (by omega), hdQ_n (by omega)], by omega, fun h9 => absurd h9 (by omega), fun _ => ⟨by omega, rfl, n, rfl, ⟨(fun _ => j2), by have h8 := hCX; rw [show ((Int.toNat x1 : Nat) : Int) = x1 by omega] at h8; exact h8, fun v h9 => by unfold ftV; first | (rw [if_neg (by omega)]) | (by_cases e9 : v = Int.toNat x3 <;> first | (rw [if_pos (by omega), e9]; exact fuj_s _ _ _) | (rw [if_neg (by omega)]; exact fuj_o _ _ e9))⟩⟩⟩
            · refine r_aload (pc := 73) dX11_flat_73 rfl ?_
              refine t_getE (pc := 75) (.ref (n + 1)) ht30 (rd_ov (by omega) (rd_CG (by omega) hv_O)) fX11_160 dX11_flat_75 rfl ?_
              refine r_iload (pc := 78) dX11_flat_78 rfl ?_
              refine r_lload (pc := 80) dX11_flat_80 rfl ?_
              refine t_lastX (pc := 82) (t0 := 1) ht30 (ov_s _ _ _) dX11_flat_82 rfl (by omega) (by omega) (fun hp37 ht38 => ?_)
              rw [ov_ov] at ht38
              refine r_aload_n (pc := 83) dX11_flat_83 (i := 0) rfl rfl ?_
              refine r_aload (pc := 84) dX11_flat_84 rfl ?_
              obtain ⟨Γ3, hE3, ht3, hCX⟩ := col_close hE2 (lo_CG hlo9 (by omega)) hna hv ht38
              have hth2 := hCX.th
              obtain ⟨Fs9, hv9, hl9⟩ := ThC_rd hth2
              obtain ⟨fs44, hfs44⟩ := t_obj ht3 (rd_of CG_0)
              refine r_callV (pc := 86) (as := [.ref n]) (st := []) kX11_102 rfl dX11_flat_86 hfs44 (t_X11_keep (d := d - 1) (r0 := (RX0, TX0, 2)) (by omega) (by omega) (rd_CG (by omega) hv9) rfl (show (RX0, "GraphEngine$Thing") ∈ cas by decide +kernel) ht3) rfl (by omega) (Nat.le_of_ble_eq_true rfl) (Nat.zero_le _) (Nat.zero_le _) rfl (fun r39 hp40 n41 hq42 => ?_)
              obtain ⟨hnn41, ht43, hrr39⟩ := hq42
              subst n41 r39
              change Rn _ _ _ 89 _ [.int (iv ct)] _ _ _ _ _
              exact r_iret (pc := 89) dX11_flat_89 rfl ⟨by omega, Γ3, (ct + 1), 0, (va_up th (ct).toNat (some n)), kn, kd, ka, kf, kt, kw, kc, ct, (Ext_tr (Ext_refl Γ) hE3), ht43, (EK.keep (EK.ext hE3 hk) (by omega) (Or.inr (Or.inl hth2))), rfl, by rw [hdQ_n (by omega), hdQ_n (by omega)], by omega, fun h9 => absurd h9 (by omega), fun _ => ⟨by omega, rfl, n, rfl, ⟨(fuj (fun _ => j2) (Int.toNat x3) j4), by have h8 := hCX; rw [show ((Int.toNat x1 : Nat) : Int) = x1 by omega] at h8; exact h8, fun v h9 => by unfold ftV; first | (rw [if_neg (by omega)]) | (by_cases e9 : v = Int.toNat x3 <;> first | (rw [if_pos (by omega), e9]; exact fuj_s _ _ _) | (rw [if_neg (by omega)]; exact fuj_o _ _ e9))⟩⟩⟩
          · refine r_aload_n (pc := 42) dX11_flat_42 (i := 0) rfl rfl ?_
            refine r_bipush (pc := 43) (v := iv (-4)) dX11_flat_43 (by decide) ?_
            obtain ⟨fs49, hfs49⟩ := t_obj ht27 (rd_of CG_0)
            refine r_callV (pc := 45) (as := [.int (iv (-4))]) (st := []) kX11_82 rfl dX11_flat_45 hfs49 (s_X11_refuse (d := d - 1) (x1 := (-4)) (by omega)  ht27 (by omega)) rfl (by omega) (Nat.le_of_ble_eq_true rfl) (Nat.zero_le _) (Nat.zero_le _) rfl (fun r46 hp45 n47 hq48 => ?_)
            obtain ⟨hnn47, ht50, hrr46⟩ := hq48
            subst n47 r46
            change Rn _ _ _ 48 _ [.int (iv (-4))] _ _ _ _ _
            exact r_iret (pc := 48) dX11_flat_48 rfl ⟨by omega, Γ, ct, (-4), th, kn, kd, ka, kf, kt, kw, kc, (-4), (Ext_refl Γ), ht50, hk, rfl, by rw [hdQ_n (by omega), hdQ_y (by omega)], by omega, fun h9 => ⟨by omega, rfl, rfl⟩, fun h9 => absurd h9 (by omega)⟩
        · refine r_aload_n (pc := 28) dX11_flat_28 (i := 0) rfl rfl ?_
          refine r_bipush (pc := 29) (v := iv (-3)) dX11_flat_29 (by decide) ?_
          obtain ⟨fs55, hfs55⟩ := t_obj ht3 (rd_of CG_0)
          refine r_callV (pc := 31) (as := [.int (iv (-3))]) (st := []) kX11_82 rfl dX11_flat_31 hfs55 (s_X11_refuse (d := d - 1) (x1 := (-3)) (by omega)  ht3 (by omega)) rfl (by omega) (Nat.le_of_ble_eq_true rfl) (Nat.zero_le _) (Nat.zero_le _) rfl (fun r52 hp51 n53 hq54 => ?_)
          obtain ⟨hnn53, ht56, hrr52⟩ := hq54
          subst n53 r52
          change Rn _ _ _ 34 _ [.int (iv (-3))] _ _ _ _ _
          exact r_iret (pc := 34) dX11_flat_34 rfl ⟨by omega, Γ, ct, (-3), th, kn, kd, ka, kf, kt, kw, kc, (-3), (Ext_refl Γ), ht56, hk, rfl, by exact (hdQ_y (by omega)).symm, by omega, fun h9 => ⟨by omega, rfl, rfl⟩, fun h9 => absurd h9 (by omega)⟩
set_option maxHeartbeats 4000000 in
set_option maxRecDepth 100000 in
theorem y_X11_mix {D : va_G} {cI cJ cZ cT : ClassId} {lo b L : Nat} {xs : Nat → Int32} {hp : MH} {n d : Nat} {Γ : TG} {a : Nat} {ct : Int} {rv : Int} {th : Nat → Option Nat} {dn : Int} {dd : Int} {da : Int} {df : Nat → Int} {dt : Nat → Int} {dw : Nat → Int} {dc : Nat → Int} {kn : Int} {kd : Int} {ka : Int} {kf : Nat → Int} {kt : Nat → Int} {kw : Nat → Int} {kc : Nat → Int} {so sz dr mn fr tt wt co : Nat → Int} {nu : Nat → Int64} {qi qc : Nat → Int} {x1 x2 x3 : Int} (hd0 : 4 ≤ d) (hk : EK Γ cI cJ cZ a ct th dn dd da df dt dw dc kn kd ka) (hm : HM Γ cI cJ cZ a ct th so sz dr mn fr tt wt co nu qi qc) (hrv : -2147483648 ≤ rv ∧ rv ≤ 2147483647) (hna : a + 84 ≤ n) (ht : Tw (CG Γ cI cJ cZ cT a ct rv th dn dd da df dt dw dc kn kd ka kf kt kw kc) hp) (hx1 : (-2147483648) ≤ x1 ∧ x1 ≤ 2147483647) (hx2 : (-2147483648) ≤ x2 ∧ x2 ≤ 2147483647) (hx3 : (-2147483648) ≤ x3 ∧ x3 ≤ 2147483647) : Mt (gG D cI cJ cZ cT lo b L xs) mX11_mix d 2 18 [.ref a, .int (iv x1), .int (iv x2), .int (iv x3)] hp n (qM Γ cI cJ cZ cT a dn dd da df dt dw dc n ct th (an2 ct so x1 2 x2 2 (x3 < 0 ∨ 6 < x3 ∨ sz (Int.toNat x1) ≠ sz (Int.toNat x2)) (ct = 120)) (fun Γ1 t => ∃ f, CX Γ1 cI cJ cZ a t (sz (Int.toNat x1)) f ∧ ∀ v : Nat, (v : Int) < (sz (Int.toNat x1)) → f v = (fun v => mxV x3 (sj nu (16 * x1) v) (sj nu (16 * x2) v)) v)) := by
  refine Mt.of rfl (Nat.le_of_ble_eq_true rfl) ?_
  refine Rn.pick (lv' := [(0, .ref a), (1, .int (iv x1)), (2, .int (iv x2)), (3, .int (iv x3))]) [0, 1, 2, 3] rfl ?_
  obtain ⟨hct, hth, ⟨hdn, hdd1, hda, har⟩, ⟨hkn, hkd, hka⟩, hsh, hse, hpr, hfl, hsm⟩ := id hk
  refine r_aload_n (pc := 0) dX11_mix_0 (i := 0) rfl rfl ?_
  refine r_iconst (pc := 1) (v := iv 0) dX11_mix_1 (by decide) ?_
  refine t_putX (pc := 2) (ty := .int) ht CG_0 fX11_19 tyX11 tyX11_ok nmX11 (by decide +kernel) (Or.inl rfl) dX11_mix_2 (Nat.le_of_ble_eq_true rfl) rfl rfl rfl (fun hp1 ht2 => ?_)
  have ht3 := RGw_rv ht2
  refine r_aload_n (pc := 5) dX11_mix_5 (i := 0) rfl rfl ?_
  refine r_iload_n (pc := 6) dX11_mix_6 (i := 1) rfl rfl ?_
  refine u_columnAt (pc := 7) (x := x1) (st := []) hct hm ht3 kX11_170 dX11_mix_7 (by omega) (Nat.le_of_ble_eq_true rfl) (by omega) (fun hp4 ht5 hnoc => ?_) (fun hp4 ca ht5 hyec hTc => ?_)
  · refine r_astoreN (pc := 10) (lv' := [(4, .null), (0, .ref a), (1, .int (iv x1)), (2, .int (iv x2)), (3, .int (iv x3))]) dX11_mix_10 (by decide) rfl ?_
    refine r_aload_n (pc := 12) dX11_mix_12 (i := 0) rfl rfl ?_
    refine r_iload_n (pc := 13) dX11_mix_13 (i := 2) rfl rfl ?_
    refine u_columnAt (pc := 14) (x := x2) (st := []) hct hm ht5 kX11_170 dX11_mix_14 (by omega) (Nat.le_of_ble_eq_true rfl) (by omega) (fun hp6 ht7 hnoe => ?_) (fun hp6 ea ht7 hyee hTe => ?_)
    · refine r_astoreN (pc := 17) (lv' := [(5, .null), (4, .null), (0, .ref a), (1, .int (iv x1)), (2, .int (iv x2)), (3, .int (iv x3))]) dX11_mix_17 (by decide) rfl ?_
      refine r_aloadN (pc := 19) dX11_mix_19 rfl ?_
      refine r_ifnullN (pc := 21) (tgt := 29) dX11_mix_21 (by decide) ?_
      refine r_aload_n (pc := 29) dX11_mix_29 (i := 0) rfl rfl ?_
      refine r_aload_n (pc := 30) dX11_mix_30 (i := 0) rfl rfl ?_
      refine r_iload_n (pc := 31) dX11_mix_31 (i := 1) rfl rfl ?_
      refine r_iload_n (pc := 32) dX11_mix_32 (i := 2) rfl rfl ?_
      obtain ⟨fs12, hfs12⟩ := t_obj ht7 (rd_of CG_0)
      refine r_callV (pc := 33) (as := [.int (iv x1), .int (iv x2)]) (st := [.ref a]) kX11_127 rfl dX11_mix_33 hfs12 (uw_X11_whyNotBoth (d := d - 1) (x1 := x1) (x2 := x2) (by omega)  ht7 (by omega) (by omega) (by omega) hm) rfl (by omega) (Nat.le_of_ble_eq_true rfl) (Nat.zero_le _) (Nat.zero_le _) rfl (fun r9 hp8 n10 hq11 => ?_)
      obtain ⟨hnn10, bb_14, ht13, hrr9, hhq110, hhq111⟩ := hq11
      subst n10 r9
      have hhq110 : -2 ≤ bb_14 ∧ bb_14 ≤ -1 := hhq110
      have hhq111 : (bb_14 = -1 ∧ ¬ (0 ≤ x1 ∧ x1 < ct ∧ 0 ≤ x2 ∧ x2 < ct)) ∨ (bb_14 = -2 ∧ 0 ≤ x1 ∧ x1 < ct ∧ 0 ≤ x2 ∧ x2 < ct) := hhq111
      change Rn _ _ _ 36 _ [.int (iv bb_14), .ref a] _ _ _ _ _
      obtain ⟨fs19, hfs19⟩ := t_obj ht13 (rd_of CG_0)
      refine r_callV (pc := 36) (as := [.int (iv bb_14)]) (st := []) kX11_82 rfl dX11_mix_36 hfs19 (s_X11_refuse (d := d - 1) (x1 := bb_14) (by omega)  ht13 (by omega)) rfl (by omega) (Nat.le_of_ble_eq_true rfl) (Nat.zero_le _) (Nat.zero_le _) rfl (fun r16 hp15 n17 hq18 => ?_)
      obtain ⟨hnn17, ht20, hrr16⟩ := hq18
      subst n17 r16
      change Rn _ _ _ 39 _ [.int (iv bb_14)] _ _ _ _ _
      exact r_iret (pc := 39) dX11_mix_39 rfl ⟨by omega, Γ, ct, bb_14, th, kn, kd, ka, kf, kt, kw, kc, bb_14, (Ext_refl Γ), ht20, hk, rfl, by exact an2_r (by omega), by omega, fun h9 => ⟨by omega, rfl, rfl⟩, fun h9 => absurd h9 (by omega)⟩
    · obtain ⟨eM, en, he, hlte, hxe, heNe⟩ := id hTe
      have hfNe : Int.toNat (sz (Int.toNat x2)) = en := by omega
      obtain ⟨he_O, he_numbers, he_b⟩ := id he
      refine r_astore (pc := 17) (lv' := [(5, .ref ea), (4, .null), (0, .ref a), (1, .int (iv x1)), (2, .int (iv x2)), (3, .int (iv x3))]) dX11_mix_17 (by decide) rfl ?_
      refine r_aloadN (pc := 19) dX11_mix_19 rfl ?_
      refine r_ifnullN (pc := 21) (tgt := 29) dX11_mix_21 (by decide) ?_
      refine r_aload_n (pc := 29) dX11_mix_29 (i := 0) rfl rfl ?_
      refine r_aload_n (pc := 30) dX11_mix_30 (i := 0) rfl rfl ?_
      refine r_iload_n (pc := 31) dX11_mix_31 (i := 1) rfl rfl ?_
      refine r_iload_n (pc := 32) dX11_mix_32 (i := 2) rfl rfl ?_
      obtain ⟨fs25, hfs25⟩ := t_obj ht7 (rd_of CG_0)
      refine r_callV (pc := 33) (as := [.int (iv x1), .int (iv x2)]) (st := [.ref a]) kX11_127 rfl dX11_mix_33 hfs25 (uw_X11_whyNotBoth (d := d - 1) (x1 := x1) (x2 := x2) (by omega)  ht7 (by omega) (by omega) (by omega) hm) rfl (by omega) (Nat.le_of_ble_eq_true rfl) (Nat.zero_le _) (Nat.zero_le _) rfl (fun r22 hp21 n23 hq24 => ?_)
      obtain ⟨hnn23, bb_27, ht26, hrr22, hhq240, hhq241⟩ := hq24
      subst n23 r22
      have hhq240 : -2 ≤ bb_27 ∧ bb_27 ≤ -1 := hhq240
      have hhq241 : (bb_27 = -1 ∧ ¬ (0 ≤ x1 ∧ x1 < ct ∧ 0 ≤ x2 ∧ x2 < ct)) ∨ (bb_27 = -2 ∧ 0 ≤ x1 ∧ x1 < ct ∧ 0 ≤ x2 ∧ x2 < ct) := hhq241
      change Rn _ _ _ 36 _ [.int (iv bb_27), .ref a] _ _ _ _ _
      obtain ⟨fs32, hfs32⟩ := t_obj ht26 (rd_of CG_0)
      refine r_callV (pc := 36) (as := [.int (iv bb_27)]) (st := []) kX11_82 rfl dX11_mix_36 hfs32 (s_X11_refuse (d := d - 1) (x1 := bb_27) (by omega)  ht26 (by omega)) rfl (by omega) (Nat.le_of_ble_eq_true rfl) (Nat.zero_le _) (Nat.zero_le _) rfl (fun r29 hp28 n30 hq31 => ?_)
      obtain ⟨hnn30, ht33, hrr29⟩ := hq31
      subst n30 r29
      change Rn _ _ _ 39 _ [.int (iv bb_27)] _ _ _ _ _
      exact r_iret (pc := 39) dX11_mix_39 rfl ⟨by omega, Γ, ct, bb_27, th, kn, kd, ka, kf, kt, kw, kc, bb_27, (Ext_refl Γ), ht33, hk, rfl, by exact an2_r (by omega), by omega, fun h9 => ⟨by omega, rfl, rfl⟩, fun h9 => absurd h9 (by omega)⟩
  · obtain ⟨cM, cn, hc, hltc, hxc, heNc⟩ := id hTc
    have hfNc : Int.toNat (sz (Int.toNat x1)) = cn := by omega
    obtain ⟨hc_O, hc_numbers, hc_b⟩ := id hc
    refine r_astore (pc := 10) (lv' := [(4, .ref ca), (0, .ref a), (1, .int (iv x1)), (2, .int (iv x2)), (3, .int (iv x3))]) dX11_mix_10 (by decide) rfl ?_
    refine r_aload_n (pc := 12) dX11_mix_12 (i := 0) rfl rfl ?_
    refine r_iload_n (pc := 13) dX11_mix_13 (i := 2) rfl rfl ?_
    refine u_columnAt (pc := 14) (x := x2) (st := []) hct hm ht5 kX11_170 dX11_mix_14 (by omega) (Nat.le_of_ble_eq_true rfl) (by omega) (fun hp34 ht35 hnoe => ?_) (fun hp34 ea ht35 hyee hTe => ?_)
    · refine r_astoreN (pc := 17) (lv' := [(5, .null), (4, .ref ca), (0, .ref a), (1, .int (iv x1)), (2, .int (iv x2)), (3, .int (iv x3))]) dX11_mix_17 (by decide) rfl ?_
      refine r_aload (pc := 19) dX11_mix_19 rfl ?_
      refine r_ifnull (pc := 21) dX11_mix_21 ?_
      refine r_aloadN (pc := 24) dX11_mix_24 rfl ?_
      refine r_ifnonnullN (pc := 26) dX11_mix_26 ?_
      refine r_aload_n (pc := 29) dX11_mix_29 (i := 0) rfl rfl ?_
      refine r_aload_n (pc := 30) dX11_mix_30 (i := 0) rfl rfl ?_
      refine r_iload_n (pc := 31) dX11_mix_31 (i := 1) rfl rfl ?_
      refine r_iload_n (pc := 32) dX11_mix_32 (i := 2) rfl rfl ?_
      obtain ⟨fs40, hfs40⟩ := t_obj ht35 (rd_of CG_0)
      refine r_callV (pc := 33) (as := [.int (iv x1), .int (iv x2)]) (st := [.ref a]) kX11_127 rfl dX11_mix_33 hfs40 (uw_X11_whyNotBoth (d := d - 1) (x1 := x1) (x2 := x2) (by omega)  ht35 (by omega) (by omega) (by omega) hm) rfl (by omega) (Nat.le_of_ble_eq_true rfl) (Nat.zero_le _) (Nat.zero_le _) rfl (fun r37 hp36 n38 hq39 => ?_)
      obtain ⟨hnn38, bb_42, ht41, hrr37, hhq390, hhq391⟩ := hq39
      subst n38 r37
      have hhq390 : -2 ≤ bb_42 ∧ bb_42 ≤ -1 := hhq390
      have hhq391 : (bb_42 = -1 ∧ ¬ (0 ≤ x1 ∧ x1 < ct ∧ 0 ≤ x2 ∧ x2 < ct)) ∨ (bb_42 = -2 ∧ 0 ≤ x1 ∧ x1 < ct ∧ 0 ≤ x2 ∧ x2 < ct) := hhq391
      change Rn _ _ _ 36 _ [.int (iv bb_42), .ref a] _ _ _ _ _
      obtain ⟨fs47, hfs47⟩ := t_obj ht41 (rd_of CG_0)
      refine r_callV (pc := 36) (as := [.int (iv bb_42)]) (st := []) kX11_82 rfl dX11_mix_36 hfs47 (s_X11_refuse (d := d - 1) (x1 := bb_42) (by omega)  ht41 (by omega)) rfl (by omega) (Nat.le_of_ble_eq_true rfl) (Nat.zero_le _) (Nat.zero_le _) rfl (fun r44 hp43 n45 hq46 => ?_)
      obtain ⟨hnn45, ht48, hrr44⟩ := hq46
      subst n45 r44
      change Rn _ _ _ 39 _ [.int (iv bb_42)] _ _ _ _ _
      exact r_iret (pc := 39) dX11_mix_39 rfl ⟨by omega, Γ, ct, bb_42, th, kn, kd, ka, kf, kt, kw, kc, bb_42, (Ext_refl Γ), ht48, hk, rfl, by exact an2_r (by omega), by omega, fun h9 => ⟨by omega, rfl, rfl⟩, fun h9 => absurd h9 (by omega)⟩
    · obtain ⟨eM, en, he, hlte, hxe, heNe⟩ := id hTe
      have hfNe : Int.toNat (sz (Int.toNat x2)) = en := by omega
      obtain ⟨he_O, he_numbers, he_b⟩ := id he
      refine r_astore (pc := 17) (lv' := [(5, .ref ea), (4, .ref ca), (0, .ref a), (1, .int (iv x1)), (2, .int (iv x2)), (3, .int (iv x3))]) dX11_mix_17 (by decide) rfl ?_
      refine r_aload (pc := 19) dX11_mix_19 rfl ?_
      refine r_ifnull (pc := 21) dX11_mix_21 ?_
      refine r_aload (pc := 24) dX11_mix_24 rfl ?_
      refine r_ifnonnull (pc := 26) (tgt := 40) dX11_mix_26 (by decide) ?_
      refine r_aload (pc := 40) dX11_mix_40 rfl ?_
      refine t_getE (pc := 42) (.int (iv (cn : Int))) ht35 (rd_CG (by omega) hc_O) fX11_174 dX11_mix_42 rfl ?_
      refine r_aload (pc := 45) dX11_mix_45 rfl ?_
      refine t_getE (pc := 47) (.int (iv (en : Int))) ht35 (rd_CG (by omega) he_O) fX11_174 dX11_mix_47 rfl ?_
      refine t_icmp_ne (pc := 50) (tgt := 63) dX11_mix_50 (by decide) (by omega) (by omega) (fun c50 => ?_) (fun c50 => ?_)
      · refine r_aload_n (pc := 63) dX11_mix_63 (i := 0) rfl rfl ?_
        refine r_bipush (pc := 64) (v := iv (-3)) dX11_mix_64 (by decide) ?_
        obtain ⟨fs53, hfs53⟩ := t_obj ht35 (rd_of CG_0)
        refine r_callV (pc := 66) (as := [.int (iv (-3))]) (st := []) kX11_82 rfl dX11_mix_66 hfs53 (s_X11_refuse (d := d - 1) (x1 := (-3)) (by omega)  ht35 (by omega)) rfl (by omega) (Nat.le_of_ble_eq_true rfl) (Nat.zero_le _) (Nat.zero_le _) rfl (fun r50 hp49 n51 hq52 => ?_)
        obtain ⟨hnn51, ht54, hrr50⟩ := hq52
        subst n51 r50
        change Rn _ _ _ 69 _ [.int (iv (-3))] _ _ _ _ _
        exact r_iret (pc := 69) dX11_mix_69 rfl ⟨by omega, Γ, ct, (-3), th, kn, kd, ka, kf, kt, kw, kc, (-3), (Ext_refl Γ), ht54, hk, rfl, by exact an2_b (by omega) (by omega) (by omega), by omega, fun h9 => ⟨by omega, rfl, rfl⟩, fun h9 => absurd h9 (by omega)⟩
      · obtain rfl : cn = en := by omega
        refine r_iload_n (pc := 53) dX11_mix_53 (i := 3) rfl rfl ?_
        refine t_if_lt (pc := 54) (tgt := 63) dX11_mix_54 (by decide) (by omega) (fun c54 => ?_) (fun c54 => ?_)
        · refine r_aload_n (pc := 63) dX11_mix_63 (i := 0) rfl rfl ?_
          refine r_bipush (pc := 64) (v := iv (-3)) dX11_mix_64 (by decide) ?_
          obtain ⟨fs59, hfs59⟩ := t_obj ht35 (rd_of CG_0)
          refine r_callV (pc := 66) (as := [.int (iv (-3))]) (st := []) kX11_82 rfl dX11_mix_66 hfs59 (s_X11_refuse (d := d - 1) (x1 := (-3)) (by omega)  ht35 (by omega)) rfl (by omega) (Nat.le_of_ble_eq_true rfl) (Nat.zero_le _) (Nat.zero_le _) rfl (fun r56 hp55 n57 hq58 => ?_)
          obtain ⟨hnn57, ht60, hrr56⟩ := hq58
          subst n57 r56
          change Rn _ _ _ 69 _ [.int (iv (-3))] _ _ _ _ _
          exact r_iret (pc := 69) dX11_mix_69 rfl ⟨by omega, Γ, ct, (-3), th, kn, kd, ka, kf, kt, kw, kc, (-3), (Ext_refl Γ), ht60, hk, rfl, by exact an2_b (by omega) (by omega) (by omega), by omega, fun h9 => ⟨by omega, rfl, rfl⟩, fun h9 => absurd h9 (by omega)⟩
        · refine r_iload_n (pc := 57) dX11_mix_57 (i := 3) rfl rfl ?_
          refine r_bipush (pc := 58) (v := iv 6) dX11_mix_58 (by decide) ?_
          refine t_icmp_le (pc := 60) (tgt := 70) dX11_mix_60 (by decide) (by omega) (by omega) (fun c60 => ?_) (fun c60 => ?_)
          · refine r_aload_n (pc := 70) dX11_mix_70 (i := 0) rfl rfl ?_
            obtain ⟨fs65, hfs65⟩ := t_obj ht35 (rd_of CG_0)
            refine r_callV (pc := 71) (as := []) (st := []) kX11_93 rfl dX11_mix_71 hfs65 (s_X11_isFull (d := d - 1)  (by omega)  ht35  (by omega)) rfl (by omega) (Nat.le_of_ble_eq_true rfl) (Nat.zero_le _) (Nat.zero_le _) rfl (fun r62 hp61 n63 hq64 => ?_)
            obtain ⟨hnn63, bb_67, ht66, hrr62, hhq640⟩ := hq64
            subst n63 r62
            have hhq640 : (bb_67 = 1 ∧ 120 ≤ ct) ∨ (bb_67 = 0 ∧ ct < 120) := hhq640
            change Rn _ _ _ 74 _ [.int (iv bb_67)] _ _ _ _ _
            refine t_if_eq (pc := 74) (tgt := 84) dX11_mix_74 (by decide) (by omega) (fun c74 => ?_) (fun c74 => ?_)
            · refine Rn.bd (fun bd9 => ?_)
              refine w_new (pc := 84) (fs := [.int 0, .null]) nX11_151 tyX0 tyX0_ok (by decide +kernel) dX11_mix_84 (by omega) (by omega) (fun hpN hN1 hN2 hN3 => ?_)
              have htN := Tw_fr ht66 hN2
              refine r_dup (pc := 87) dX11_mix_87 rfl ?_
              refine r_aload (pc := 88) dX11_mix_88 rfl ?_
              refine t_getE (pc := 90) (.int (iv (cn : Int))) htN (rd_CG (by omega) hc_O) fX11_174 dX11_mix_90 rfl ?_
              have hlo9 := Tw_lo ht66 bd9
              have hq_cM : cM < n := Tw.lt9 ht66 bd9 (rd_CG (by omega) hc_numbers)
              have hq_ca : ca < n := Tw.lt9 ht66 bd9 (rd_CG (by omega) hc_O)
              have hq_eM : eM < n := Tw.lt9 ht66 bd9 (rd_CG (by omega) he_numbers)
              have hq_ea : ea < n := Tw.lt9 ht66 bd9 (rd_CG (by omega) he_O)
              refine u_initC (pc := 93) (N := cn) (x := (cn : Int)) (st := [.ref n]) ht66 bd9 hna hN2 hN1 (by omega) (by omega) kX11_153 dX11_mix_93 (by omega) (Nat.le_of_ble_eq_true rfl) (by omega) (by omega) (fun hp2 Γ2 hE2 ht2 hv => ?_)
              obtain ⟨hv_O, hv_numbers, hv_b⟩ := id hv
              have hc := TyC.ext hE2 hc
              obtain ⟨hc_O, hc_numbers, hc_b⟩ := id hc
              have he := TyC.ext hE2 he
              obtain ⟨he_O, he_numbers, he_b⟩ := id he
              have hse := TySets.ext hE2 hse
              have hsh := TyShape.ext hE2 hsh
              have hfl := TyFlows.ext hE2 hfl
              have hxc := rd_ext hE2 hxc
              have hxe := rd_ext hE2 hxe
              refine r_astore (pc := 96) (lv' := [(6, .ref n), (5, .ref ea), (4, .ref ca), (0, .ref a), (1, .int (iv x1)), (2, .int (iv x2)), (3, .int (iv x3))]) dX11_mix_96 (by decide) rfl ?_
              refine r_aload (pc := 98) dX11_mix_98 rfl ?_
              refine r_aload (pc := 100) dX11_mix_100 rfl ?_
              refine r_aload (pc := 102) dX11_mix_102 rfl ?_
              refine r_iload_n (pc := 104) dX11_mix_104 (i := 3) rfl rfl ?_
              obtain ⟨fs73, hfs73⟩ := t_obj ht2 (rd_ov (by omega) (rd_CG (by omega) hv_O))
              refine r_callV (pc := 105) (as := [.ref ca, .ref ea, .int (iv x3)]) (st := []) kX11_175 rfl dX11_mix_105 hfs73 (c_X0_blendx (d := d - 1) (x3 := x3) (by omega) (TyCw.cg (by omega) hv) (rd_CG (by omega) hc_O) (rd_CG (by omega) he_O) (rd_CG (by omega) hxc) (rd_CG (by omega) hxe) ⟨nE_i (by omega), nE_i (by omega), nE_i (by omega), nE_i (by omega), nE_i (by omega)⟩ ht2 (by omega)) rfl (by omega) (Nat.le_of_ble_eq_true rfl) (by omega) (by omega) rfl (fun r68 hp69 n70 hq71 => ?_)
              obtain ⟨hnn70, hrr68, fc9, ht72, hfc⟩ := hq71
              subst r68
              change Rn _ _ _ 108 _ [] _ _ _ _ _
              refine r_aload_n (pc := 108) dX11_mix_108 (i := 0) rfl rfl ?_
              refine r_aload (pc := 109) dX11_mix_109 rfl ?_
              obtain ⟨Γ3, hE3, ht3, hCX⟩ := col_close hE2 (lo_CG hlo9 (by omega)) hna hv ht72
              have hth2 := hCX.th
              obtain ⟨Fs9, hv9, hl9⟩ := ThC_rd hth2
              obtain ⟨fs79, hfs79⟩ := t_obj ht3 (rd_of CG_0)
              refine r_callV (pc := 111) (as := [.ref n]) (st := []) kX11_102 rfl dX11_mix_111 hfs79 (t_X11_keep (d := d - 1) (r0 := (RX0, TX0, 2)) (by omega) (by omega) (rd_CG (by omega) hv9) rfl (show (RX0, "GraphEngine$Thing") ∈ cas by decide +kernel) ht3) rfl (by omega) (Nat.le_of_ble_eq_true rfl) (Nat.zero_le _) (Nat.zero_le _) rfl (fun r74 hp75 n76 hq77 => ?_)
              obtain ⟨hnn76, ht78, hrr74⟩ := hq77
              subst n76 r74
              change Rn _ _ _ 114 _ [.int (iv ct)] _ _ _ _ _
              exact r_iret (pc := 114) dX11_mix_114 rfl ⟨by omega, Γ3, (ct + 1), 0, (va_up th (ct).toNat (some n)), kn, kd, ka, kf, kt, kw, kc, ct, (Ext_tr (Ext_refl Γ) hE3), ht78, (EK.keep (EK.ext hE3 hk) (by omega) (Or.inr (Or.inl hth2))), rfl, by exact an2_m (hdQ_n (by omega)).symm (by omega) (by omega), by omega, fun h9 => absurd h9 (by omega), fun _ => ⟨by omega, rfl, n, rfl, ⟨fc9, by rw [heNc]; exact hCX, fun v h9 => hfc v (by omega)⟩⟩⟩
            · refine r_aload_n (pc := 77) dX11_mix_77 (i := 0) rfl rfl ?_
              refine r_bipush (pc := 78) (v := iv (-4)) dX11_mix_78 (by decide) ?_
              obtain ⟨fs84, hfs84⟩ := t_obj ht66 (rd_of CG_0)
              refine r_callV (pc := 80) (as := [.int (iv (-4))]) (st := []) kX11_82 rfl dX11_mix_80 hfs84 (s_X11_refuse (d := d - 1) (x1 := (-4)) (by omega)  ht66 (by omega)) rfl (by omega) (Nat.le_of_ble_eq_true rfl) (Nat.zero_le _) (Nat.zero_le _) rfl (fun r81 hp80 n82 hq83 => ?_)
              obtain ⟨hnn82, ht85, hrr81⟩ := hq83
              subst n82 r81
              change Rn _ _ _ 83 _ [.int (iv (-4))] _ _ _ _ _
              exact r_iret (pc := 83) dX11_mix_83 rfl ⟨by omega, Γ, ct, (-4), th, kn, kd, ka, kf, kt, kw, kc, (-4), (Ext_refl Γ), ht85, hk, rfl, by exact an2_m (hdQ_y (by omega)).symm (by omega) (by omega), by omega, fun h9 => ⟨by omega, rfl, rfl⟩, fun h9 => absurd h9 (by omega)⟩
          · refine r_aload_n (pc := 63) dX11_mix_63 (i := 0) rfl rfl ?_
            refine r_bipush (pc := 64) (v := iv (-3)) dX11_mix_64 (by decide) ?_
            obtain ⟨fs90, hfs90⟩ := t_obj ht35 (rd_of CG_0)
            refine r_callV (pc := 66) (as := [.int (iv (-3))]) (st := []) kX11_82 rfl dX11_mix_66 hfs90 (s_X11_refuse (d := d - 1) (x1 := (-3)) (by omega)  ht35 (by omega)) rfl (by omega) (Nat.le_of_ble_eq_true rfl) (Nat.zero_le _) (Nat.zero_le _) rfl (fun r87 hp86 n88 hq89 => ?_)
            obtain ⟨hnn88, ht91, hrr87⟩ := hq89
            subst n88 r87
            change Rn _ _ _ 69 _ [.int (iv (-3))] _ _ _ _ _
            exact r_iret (pc := 69) dX11_mix_69 rfl ⟨by omega, Γ, ct, (-3), th, kn, kd, ka, kf, kt, kw, kc, (-3), (Ext_refl Γ), ht91, hk, rfl, by exact an2_b (by omega) (by omega) (by omega), by omega, fun h9 => ⟨by omega, rfl, rfl⟩, fun h9 => absurd h9 (by omega)⟩
set_option maxHeartbeats 4000000 in
set_option maxRecDepth 100000 in
theorem y_X11_run {D : va_G} {cI cJ cZ cT : ClassId} {lo b L : Nat} {xs : Nat → Int32} {hp : MH} {n d : Nat} {Γ : TG} {a : Nat} {ct : Int} {rv : Int} {th : Nat → Option Nat} {dn : Int} {dd : Int} {da : Int} {df : Nat → Int} {dt : Nat → Int} {dw : Nat → Int} {dc : Nat → Int} {kn : Int} {kd : Int} {ka : Int} {kf : Nat → Int} {kt : Nat → Int} {kw : Nat → Int} {kc : Nat → Int} {so sz dr mn fr tt wt co : Nat → Int} {nu : Nat → Int64} {qi qc : Nat → Int} {x1 x2 x3 x4 x5 x6 : Int} (hd0 : 4 ≤ d) (hk : EK Γ cI cJ cZ a ct th dn dd da df dt dw dc kn kd ka) (hm : HM Γ cI cJ cZ a ct th so sz dr mn fr tt wt co nu qi qc) (hrv : -2147483648 ≤ rv ∧ rv ≤ 2147483647) (hna : a + 84 ≤ n) (ht : Tw (CG Γ cI cJ cZ cT a ct rv th dn dd da df dt dw dc kn kd ka kf kt kw kc) hp) (hx1 : (-2147483648) ≤ x1 ∧ x1 ≤ 2147483647) (hx2 : (-2147483648) ≤ x2 ∧ x2 ≤ 2147483647) (hx3 : (-2147483648) ≤ x3 ∧ x3 ≤ 2147483647) (hx4 : (-2147483648) ≤ x4 ∧ x4 ≤ 2147483647) (hx5 : 0 ≤ x5 ∧ x5 ≤ 1) (hx6 : (-2147483648) ≤ x6 ∧ x6 ≤ 2147483647) : Mt (gG D cI cJ cZ cT lo b L xs) mX11_run d 3 34 [.ref a, .int (iv x1), .int (iv x2), .int (iv x3), .int (iv x4), .int (iv x5), .int (iv x6)] hp n (qM Γ cI cJ cZ cT a dn dd da df dt dw dc n ct th (an2 ct so x1 1 x2 2 (sz (Int.toNat x1) ≠ sz (Int.toNat x2) ∨ x3 < 0 ∨ 4 < x3 ∨ x4 < 0 ∨ 3 < x4 ∨ x6 < 0 ∨ 200 < x6) (ct = 120)) (fun Γ1 t => ∃ f, CX Γ1 cI cJ cZ a t (sz (Int.toNat x1)) f ∧ ∀ v : Nat, (v : Int) < (sz (Int.toNat x1)) → f v = (rnC (Int.toNat (mn (Int.toNat x1))) (dr (Int.toNat x1)) (sh fr (60 * x1)) (sh tt (60 * x1)) (sh wt (60 * x1)) x3 x4 x5 (sj nu (16 * x2)) (Int.toNat x6)) v)) := by
  refine Mt.of rfl (Nat.le_of_ble_eq_true rfl) ?_
  refine Rn.pick (lv' := [(0, .ref a), (1, .int (iv x1)), (2, .int (iv x2)), (3, .int (iv x3)), (4, .int (iv x4)), (5, .int (iv x5)), (6, .int (iv x6))]) [0, 1, 2, 3, 4, 5, 6] rfl ?_
  obtain ⟨hct, hth, ⟨hdn, hdd1, hda, har⟩, ⟨hkn, hkd, hka⟩, hsh, hse, hpr, hfl, hsm⟩ := id hk
  refine r_aload_n (pc := 0) dX11_run_0 (i := 0) rfl rfl ?_
  refine r_iconst (pc := 1) (v := iv 0) dX11_run_1 (by decide) ?_
  refine t_putX (pc := 2) (ty := .int) ht CG_0 fX11_19 tyX11 tyX11_ok nmX11 (by decide +kernel) (Or.inl rfl) dX11_run_2 (Nat.le_of_ble_eq_true rfl) rfl rfl rfl (fun hp1 ht2 => ?_)
  have ht3 := RGw_rv ht2
  refine r_aload_n (pc := 5) dX11_run_5 (i := 0) rfl rfl ?_
  refine r_iload_n (pc := 6) dX11_run_6 (i := 1) rfl rfl ?_
  refine u_graphAt (pc := 7) (x := x1) (st := []) hct hm ht3 kX11_106 dX11_run_7 (by omega) (Nat.le_of_ble_eq_true rfl) (by omega) (fun hp4 ht5 hnog => ?_) (fun hp4 ga ht5 hyeg hTg => ?_)
  · refine r_astoreN (pc := 10) (lv' := [(7, .null), (0, .ref a), (1, .int (iv x1)), (2, .int (iv x2)), (3, .int (iv x3)), (4, .int (iv x4)), (5, .int (iv x5)), (6, .int (iv x6))]) dX11_run_10 (by decide) rfl ?_
    refine r_aload_n (pc := 12) dX11_run_12 (i := 0) rfl rfl ?_
    refine r_iload_n (pc := 13) dX11_run_13 (i := 2) rfl rfl ?_
    refine u_columnAt (pc := 14) (x := x2) (st := []) hct hm ht5 kX11_170 dX11_run_14 (by omega) (Nat.le_of_ble_eq_true rfl) (by omega) (fun hp6 ht7 hnoc => ?_) (fun hp6 ca ht7 hyec hTc => ?_)
    · refine r_astoreN (pc := 17) (lv' := [(8, .null), (7, .null), (0, .ref a), (1, .int (iv x1)), (2, .int (iv x2)), (3, .int (iv x3)), (4, .int (iv x4)), (5, .int (iv x5)), (6, .int (iv x6))]) dX11_run_17 (by decide) rfl ?_
      refine r_aloadN (pc := 19) dX11_run_19 rfl ?_
      refine r_ifnullN (pc := 21) (tgt := 29) dX11_run_21 (by decide) ?_
      refine r_aload_n (pc := 29) dX11_run_29 (i := 0) rfl rfl ?_
      refine r_aload_n (pc := 30) dX11_run_30 (i := 0) rfl rfl ?_
      refine r_iload_n (pc := 31) dX11_run_31 (i := 1) rfl rfl ?_
      refine r_iload_n (pc := 32) dX11_run_32 (i := 2) rfl rfl ?_
      obtain ⟨fs12, hfs12⟩ := t_obj ht7 (rd_of CG_0)
      refine r_callV (pc := 33) (as := [.int (iv x1), .int (iv x2)]) (st := [.ref a]) kX11_127 rfl dX11_run_33 hfs12 (uw_X11_whyNotBoth (d := d - 1) (x1 := x1) (x2 := x2) (by omega)  ht7 (by omega) (by omega) (by omega) hm) rfl (by omega) (Nat.le_of_ble_eq_true rfl) (Nat.zero_le _) (Nat.zero_le _) rfl (fun r9 hp8 n10 hq11 => ?_)
      obtain ⟨hnn10, bb_14, ht13, hrr9, hhq110, hhq111⟩ := hq11
      subst n10 r9
      have hhq110 : -2 ≤ bb_14 ∧ bb_14 ≤ -1 := hhq110
      have hhq111 : (bb_14 = -1 ∧ ¬ (0 ≤ x1 ∧ x1 < ct ∧ 0 ≤ x2 ∧ x2 < ct)) ∨ (bb_14 = -2 ∧ 0 ≤ x1 ∧ x1 < ct ∧ 0 ≤ x2 ∧ x2 < ct) := hhq111
      change Rn _ _ _ 36 _ [.int (iv bb_14), .ref a] _ _ _ _ _
      obtain ⟨fs19, hfs19⟩ := t_obj ht13 (rd_of CG_0)
      refine r_callV (pc := 36) (as := [.int (iv bb_14)]) (st := []) kX11_82 rfl dX11_run_36 hfs19 (s_X11_refuse (d := d - 1) (x1 := bb_14) (by omega)  ht13 (by omega)) rfl (by omega) (Nat.le_of_ble_eq_true rfl) (Nat.zero_le _) (Nat.zero_le _) rfl (fun r16 hp15 n17 hq18 => ?_)
      obtain ⟨hnn17, ht20, hrr16⟩ := hq18
      subst n17 r16
      change Rn _ _ _ 39 _ [.int (iv bb_14)] _ _ _ _ _
      exact r_iret (pc := 39) dX11_run_39 rfl ⟨by omega, Γ, ct, bb_14, th, kn, kd, ka, kf, kt, kw, kc, bb_14, (Ext_refl Γ), ht20, hk, rfl, by exact an2_r (by omega), by omega, fun h9 => ⟨by omega, rfl, rfl⟩, fun h9 => absurd h9 (by omega)⟩
    · obtain ⟨cM, cn, hc, hltc, hxc, heNc⟩ := id hTc
      have hfNc : Int.toNat (sz (Int.toNat x2)) = cn := by omega
      obtain ⟨hc_O, hc_numbers, hc_b⟩ := id hc
      refine r_astore (pc := 17) (lv' := [(8, .ref ca), (7, .null), (0, .ref a), (1, .int (iv x1)), (2, .int (iv x2)), (3, .int (iv x3)), (4, .int (iv x4)), (5, .int (iv x5)), (6, .int (iv x6))]) dX11_run_17 (by decide) rfl ?_
      refine r_aloadN (pc := 19) dX11_run_19 rfl ?_
      refine r_ifnullN (pc := 21) (tgt := 29) dX11_run_21 (by decide) ?_
      refine r_aload_n (pc := 29) dX11_run_29 (i := 0) rfl rfl ?_
      refine r_aload_n (pc := 30) dX11_run_30 (i := 0) rfl rfl ?_
      refine r_iload_n (pc := 31) dX11_run_31 (i := 1) rfl rfl ?_
      refine r_iload_n (pc := 32) dX11_run_32 (i := 2) rfl rfl ?_
      obtain ⟨fs25, hfs25⟩ := t_obj ht7 (rd_of CG_0)
      refine r_callV (pc := 33) (as := [.int (iv x1), .int (iv x2)]) (st := [.ref a]) kX11_127 rfl dX11_run_33 hfs25 (uw_X11_whyNotBoth (d := d - 1) (x1 := x1) (x2 := x2) (by omega)  ht7 (by omega) (by omega) (by omega) hm) rfl (by omega) (Nat.le_of_ble_eq_true rfl) (Nat.zero_le _) (Nat.zero_le _) rfl (fun r22 hp21 n23 hq24 => ?_)
      obtain ⟨hnn23, bb_27, ht26, hrr22, hhq240, hhq241⟩ := hq24
      subst n23 r22
      have hhq240 : -2 ≤ bb_27 ∧ bb_27 ≤ -1 := hhq240
      have hhq241 : (bb_27 = -1 ∧ ¬ (0 ≤ x1 ∧ x1 < ct ∧ 0 ≤ x2 ∧ x2 < ct)) ∨ (bb_27 = -2 ∧ 0 ≤ x1 ∧ x1 < ct ∧ 0 ≤ x2 ∧ x2 < ct) := hhq241
      change Rn _ _ _ 36 _ [.int (iv bb_27), .ref a] _ _ _ _ _
      obtain ⟨fs32, hfs32⟩ := t_obj ht26 (rd_of CG_0)
      refine r_callV (pc := 36) (as := [.int (iv bb_27)]) (st := []) kX11_82 rfl dX11_run_36 hfs32 (s_X11_refuse (d := d - 1) (x1 := bb_27) (by omega)  ht26 (by omega)) rfl (by omega) (Nat.le_of_ble_eq_true rfl) (Nat.zero_le _) (Nat.zero_le _) rfl (fun r29 hp28 n30 hq31 => ?_)
      obtain ⟨hnn30, ht33, hrr29⟩ := hq31
      subst n30 r29
      change Rn _ _ _ 39 _ [.int (iv bb_27)] _ _ _ _ _
      exact r_iret (pc := 39) dX11_run_39 rfl ⟨by omega, Γ, ct, bb_27, th, kn, kd, ka, kf, kt, kw, kc, bb_27, (Ext_refl Γ), ht33, hk, rfl, by exact an2_r (by omega), by omega, fun h9 => ⟨by omega, rfl, rfl⟩, fun h9 => absurd h9 (by omega)⟩
  · obtain ⟨gF, gT, gW, gC, gTl, gHd, gBy, gOu, gIn, gJo, gn, gm, gq, gdr, Tl, Hd, By, Ou, In, Jo, gpos, hg, hltg, hxg, hgog, houg, hing, hjog, heNg, heDg, heMg⟩ := id hTg
    have hfNg : Int.toNat (sz (Int.toNat x1)) = gn := by omega
    have hfMg : Int.toNat (mn (Int.toNat x1)) = gm := by omega
    obtain ⟨hg_O, hg_from, hg_to, hg_weight, hg_cost, hg_tail, hg_head, hg_by, hg_out, hg_in, hg_joined, hg_b⟩ := id hg
    refine r_astore (pc := 10) (lv' := [(7, .ref ga), (0, .ref a), (1, .int (iv x1)), (2, .int (iv x2)), (3, .int (iv x3)), (4, .int (iv x4)), (5, .int (iv x5)), (6, .int (iv x6))]) dX11_run_10 (by decide) rfl ?_
    refine r_aload_n (pc := 12) dX11_run_12 (i := 0) rfl rfl ?_
    refine r_iload_n (pc := 13) dX11_run_13 (i := 2) rfl rfl ?_
    refine u_columnAt (pc := 14) (x := x2) (st := []) hct hm ht5 kX11_170 dX11_run_14 (by omega) (Nat.le_of_ble_eq_true rfl) (by omega) (fun hp34 ht35 hnoc => ?_) (fun hp34 ca ht35 hyec hTc => ?_)
    · refine r_astoreN (pc := 17) (lv' := [(8, .null), (7, .ref ga), (0, .ref a), (1, .int (iv x1)), (2, .int (iv x2)), (3, .int (iv x3)), (4, .int (iv x4)), (5, .int (iv x5)), (6, .int (iv x6))]) dX11_run_17 (by decide) rfl ?_
      refine r_aload (pc := 19) dX11_run_19 rfl ?_
      refine r_ifnull (pc := 21) dX11_run_21 ?_
      refine r_aloadN (pc := 24) dX11_run_24 rfl ?_
      refine r_ifnonnullN (pc := 26) dX11_run_26 ?_
      refine r_aload_n (pc := 29) dX11_run_29 (i := 0) rfl rfl ?_
      refine r_aload_n (pc := 30) dX11_run_30 (i := 0) rfl rfl ?_
      refine r_iload_n (pc := 31) dX11_run_31 (i := 1) rfl rfl ?_
      refine r_iload_n (pc := 32) dX11_run_32 (i := 2) rfl rfl ?_
      obtain ⟨fs40, hfs40⟩ := t_obj ht35 (rd_of CG_0)
      refine r_callV (pc := 33) (as := [.int (iv x1), .int (iv x2)]) (st := [.ref a]) kX11_127 rfl dX11_run_33 hfs40 (uw_X11_whyNotBoth (d := d - 1) (x1 := x1) (x2 := x2) (by omega)  ht35 (by omega) (by omega) (by omega) hm) rfl (by omega) (Nat.le_of_ble_eq_true rfl) (Nat.zero_le _) (Nat.zero_le _) rfl (fun r37 hp36 n38 hq39 => ?_)
      obtain ⟨hnn38, bb_42, ht41, hrr37, hhq390, hhq391⟩ := hq39
      subst n38 r37
      have hhq390 : -2 ≤ bb_42 ∧ bb_42 ≤ -1 := hhq390
      have hhq391 : (bb_42 = -1 ∧ ¬ (0 ≤ x1 ∧ x1 < ct ∧ 0 ≤ x2 ∧ x2 < ct)) ∨ (bb_42 = -2 ∧ 0 ≤ x1 ∧ x1 < ct ∧ 0 ≤ x2 ∧ x2 < ct) := hhq391
      change Rn _ _ _ 36 _ [.int (iv bb_42), .ref a] _ _ _ _ _
      obtain ⟨fs47, hfs47⟩ := t_obj ht41 (rd_of CG_0)
      refine r_callV (pc := 36) (as := [.int (iv bb_42)]) (st := []) kX11_82 rfl dX11_run_36 hfs47 (s_X11_refuse (d := d - 1) (x1 := bb_42) (by omega)  ht41 (by omega)) rfl (by omega) (Nat.le_of_ble_eq_true rfl) (Nat.zero_le _) (Nat.zero_le _) rfl (fun r44 hp43 n45 hq46 => ?_)
      obtain ⟨hnn45, ht48, hrr44⟩ := hq46
      subst n45 r44
      change Rn _ _ _ 39 _ [.int (iv bb_42)] _ _ _ _ _
      exact r_iret (pc := 39) dX11_run_39 rfl ⟨by omega, Γ, ct, bb_42, th, kn, kd, ka, kf, kt, kw, kc, bb_42, (Ext_refl Γ), ht48, hk, rfl, by exact an2_r (by omega), by omega, fun h9 => ⟨by omega, rfl, rfl⟩, fun h9 => absurd h9 (by omega)⟩
    · obtain ⟨cM, cn, hc, hltc, hxc, heNc⟩ := id hTc
      have hfNc : Int.toNat (sz (Int.toNat x2)) = cn := by omega
      obtain ⟨hc_O, hc_numbers, hc_b⟩ := id hc
      refine r_astore (pc := 17) (lv' := [(8, .ref ca), (7, .ref ga), (0, .ref a), (1, .int (iv x1)), (2, .int (iv x2)), (3, .int (iv x3)), (4, .int (iv x4)), (5, .int (iv x5)), (6, .int (iv x6))]) dX11_run_17 (by decide) rfl ?_
      refine r_aload (pc := 19) dX11_run_19 rfl ?_
      refine r_ifnull (pc := 21) dX11_run_21 ?_
      refine r_aload (pc := 24) dX11_run_24 rfl ?_
      refine r_ifnonnull (pc := 26) (tgt := 40) dX11_run_26 (by decide) ?_
      refine r_iload_n (pc := 40) dX11_run_40 (i := 3) rfl rfl ?_
      refine t_if_lt (pc := 41) (tgt := 90) dX11_run_41 (by decide) (by omega) (fun c41 => ?_) (fun c41 => ?_)
      · refine r_iconst (pc := 90) (v := iv 0) dX11_run_90 (by decide) ?_
        refine r_istore (pc := 91) (lv' := [(9, .int (iv 0)), (8, .ref ca), (7, .ref ga), (0, .ref a), (1, .int (iv x1)), (2, .int (iv x2)), (3, .int (iv x3)), (4, .int (iv x4)), (5, .int (iv x5)), (6, .int (iv x6))]) dX11_run_91 (by decide) rfl ?_
        refine r_iload (pc := 93) dX11_run_93 rfl ?_
        refine t_if_ne (pc := 95) (tgt := 105) dX11_run_95 (by decide) (by omega) (fun c95 => ?_) (fun c95 => ?_)
        · exfalso
          omega
        · refine r_aload_n (pc := 98) dX11_run_98 (i := 0) rfl rfl ?_
          refine r_bipush (pc := 99) (v := iv (-3)) dX11_run_99 (by decide) ?_
          obtain ⟨fs53, hfs53⟩ := t_obj ht35 (rd_of CG_0)
          refine r_callV (pc := 101) (as := [.int (iv (-3))]) (st := []) kX11_82 rfl dX11_run_101 hfs53 (s_X11_refuse (d := d - 1) (x1 := (-3)) (by omega)  ht35 (by omega)) rfl (by omega) (Nat.le_of_ble_eq_true rfl) (Nat.zero_le _) (Nat.zero_le _) rfl (fun r50 hp49 n51 hq52 => ?_)
          obtain ⟨hnn51, ht54, hrr50⟩ := hq52
          subst n51 r50
          change Rn _ _ _ 104 _ [.int (iv (-3))] _ _ _ _ _
          exact r_iret (pc := 104) dX11_run_104 rfl ⟨by omega, Γ, ct, (-3), th, kn, kd, ka, kf, kt, kw, kc, (-3), (Ext_refl Γ), ht54, hk, rfl, by exact an2_b (by omega) (by omega) (by omega), by omega, fun h9 => ⟨by omega, rfl, rfl⟩, fun h9 => absurd h9 (by omega)⟩
      · refine r_iload_n (pc := 44) dX11_run_44 (i := 3) rfl rfl ?_
        refine r_iconst (pc := 45) (v := iv 4) dX11_run_45 (by decide) ?_
        refine t_icmp_gt (pc := 46) (tgt := 90) dX11_run_46 (by decide) (by omega) (by omega) (fun c46 => ?_) (fun c46 => ?_)
        · refine r_iconst (pc := 90) (v := iv 0) dX11_run_90 (by decide) ?_
          refine r_istore (pc := 91) (lv' := [(9, .int (iv 0)), (8, .ref ca), (7, .ref ga), (0, .ref a), (1, .int (iv x1)), (2, .int (iv x2)), (3, .int (iv x3)), (4, .int (iv x4)), (5, .int (iv x5)), (6, .int (iv x6))]) dX11_run_91 (by decide) rfl ?_
          refine r_iload (pc := 93) dX11_run_93 rfl ?_
          refine t_if_ne (pc := 95) (tgt := 105) dX11_run_95 (by decide) (by omega) (fun c95 => ?_) (fun c95 => ?_)
          · exfalso
            omega
          · refine r_aload_n (pc := 98) dX11_run_98 (i := 0) rfl rfl ?_
            refine r_bipush (pc := 99) (v := iv (-3)) dX11_run_99 (by decide) ?_
            obtain ⟨fs59, hfs59⟩ := t_obj ht35 (rd_of CG_0)
            refine r_callV (pc := 101) (as := [.int (iv (-3))]) (st := []) kX11_82 rfl dX11_run_101 hfs59 (s_X11_refuse (d := d - 1) (x1 := (-3)) (by omega)  ht35 (by omega)) rfl (by omega) (Nat.le_of_ble_eq_true rfl) (Nat.zero_le _) (Nat.zero_le _) rfl (fun r56 hp55 n57 hq58 => ?_)
            obtain ⟨hnn57, ht60, hrr56⟩ := hq58
            subst n57 r56
            change Rn _ _ _ 104 _ [.int (iv (-3))] _ _ _ _ _
            exact r_iret (pc := 104) dX11_run_104 rfl ⟨by omega, Γ, ct, (-3), th, kn, kd, ka, kf, kt, kw, kc, (-3), (Ext_refl Γ), ht60, hk, rfl, by exact an2_b (by omega) (by omega) (by omega), by omega, fun h9 => ⟨by omega, rfl, rfl⟩, fun h9 => absurd h9 (by omega)⟩
        · refine r_iload (pc := 49) dX11_run_49 rfl ?_
          refine t_if_lt (pc := 51) (tgt := 90) dX11_run_51 (by decide) (by omega) (fun c51 => ?_) (fun c51 => ?_)
          · refine r_iconst (pc := 90) (v := iv 0) dX11_run_90 (by decide) ?_
            refine r_istore (pc := 91) (lv' := [(9, .int (iv 0)), (8, .ref ca), (7, .ref ga), (0, .ref a), (1, .int (iv x1)), (2, .int (iv x2)), (3, .int (iv x3)), (4, .int (iv x4)), (5, .int (iv x5)), (6, .int (iv x6))]) dX11_run_91 (by decide) rfl ?_
            refine r_iload (pc := 93) dX11_run_93 rfl ?_
            refine t_if_ne (pc := 95) (tgt := 105) dX11_run_95 (by decide) (by omega) (fun c95 => ?_) (fun c95 => ?_)
            · exfalso
              omega
            · refine r_aload_n (pc := 98) dX11_run_98 (i := 0) rfl rfl ?_
              refine r_bipush (pc := 99) (v := iv (-3)) dX11_run_99 (by decide) ?_
              obtain ⟨fs65, hfs65⟩ := t_obj ht35 (rd_of CG_0)
              refine r_callV (pc := 101) (as := [.int (iv (-3))]) (st := []) kX11_82 rfl dX11_run_101 hfs65 (s_X11_refuse (d := d - 1) (x1 := (-3)) (by omega)  ht35 (by omega)) rfl (by omega) (Nat.le_of_ble_eq_true rfl) (Nat.zero_le _) (Nat.zero_le _) rfl (fun r62 hp61 n63 hq64 => ?_)
              obtain ⟨hnn63, ht66, hrr62⟩ := hq64
              subst n63 r62
              change Rn _ _ _ 104 _ [.int (iv (-3))] _ _ _ _ _
              exact r_iret (pc := 104) dX11_run_104 rfl ⟨by omega, Γ, ct, (-3), th, kn, kd, ka, kf, kt, kw, kc, (-3), (Ext_refl Γ), ht66, hk, rfl, by exact an2_b (by omega) (by omega) (by omega), by omega, fun h9 => ⟨by omega, rfl, rfl⟩, fun h9 => absurd h9 (by omega)⟩
          · refine r_iload (pc := 54) dX11_run_54 rfl ?_
            refine r_iconst (pc := 56) (v := iv 3) dX11_run_56 (by decide) ?_
            refine t_icmp_gt (pc := 57) (tgt := 90) dX11_run_57 (by decide) (by omega) (by omega) (fun c57 => ?_) (fun c57 => ?_)
            · refine r_iconst (pc := 90) (v := iv 0) dX11_run_90 (by decide) ?_
              refine r_istore (pc := 91) (lv' := [(9, .int (iv 0)), (8, .ref ca), (7, .ref ga), (0, .ref a), (1, .int (iv x1)), (2, .int (iv x2)), (3, .int (iv x3)), (4, .int (iv x4)), (5, .int (iv x5)), (6, .int (iv x6))]) dX11_run_91 (by decide) rfl ?_
              refine r_iload (pc := 93) dX11_run_93 rfl ?_
              refine t_if_ne (pc := 95) (tgt := 105) dX11_run_95 (by decide) (by omega) (fun c95 => ?_) (fun c95 => ?_)
              · exfalso
                omega
              · refine r_aload_n (pc := 98) dX11_run_98 (i := 0) rfl rfl ?_
                refine r_bipush (pc := 99) (v := iv (-3)) dX11_run_99 (by decide) ?_
                obtain ⟨fs71, hfs71⟩ := t_obj ht35 (rd_of CG_0)
                refine r_callV (pc := 101) (as := [.int (iv (-3))]) (st := []) kX11_82 rfl dX11_run_101 hfs71 (s_X11_refuse (d := d - 1) (x1 := (-3)) (by omega)  ht35 (by omega)) rfl (by omega) (Nat.le_of_ble_eq_true rfl) (Nat.zero_le _) (Nat.zero_le _) rfl (fun r68 hp67 n69 hq70 => ?_)
                obtain ⟨hnn69, ht72, hrr68⟩ := hq70
                subst n69 r68
                change Rn _ _ _ 104 _ [.int (iv (-3))] _ _ _ _ _
                exact r_iret (pc := 104) dX11_run_104 rfl ⟨by omega, Γ, ct, (-3), th, kn, kd, ka, kf, kt, kw, kc, (-3), (Ext_refl Γ), ht72, hk, rfl, by exact an2_b (by omega) (by omega) (by omega), by omega, fun h9 => ⟨by omega, rfl, rfl⟩, fun h9 => absurd h9 (by omega)⟩
            · refine r_iload (pc := 60) dX11_run_60 rfl ?_
              refine t_if_lt (pc := 62) (tgt := 90) dX11_run_62 (by decide) (by omega) (fun c62 => ?_) (fun c62 => ?_)
              · refine r_iconst (pc := 90) (v := iv 0) dX11_run_90 (by decide) ?_
                refine r_istore (pc := 91) (lv' := [(9, .int (iv 0)), (8, .ref ca), (7, .ref ga), (0, .ref a), (1, .int (iv x1)), (2, .int (iv x2)), (3, .int (iv x3)), (4, .int (iv x4)), (5, .int (iv x5)), (6, .int (iv x6))]) dX11_run_91 (by decide) rfl ?_
                refine r_iload (pc := 93) dX11_run_93 rfl ?_
                refine t_if_ne (pc := 95) (tgt := 105) dX11_run_95 (by decide) (by omega) (fun c95 => ?_) (fun c95 => ?_)
                · exfalso
                  omega
                · refine r_aload_n (pc := 98) dX11_run_98 (i := 0) rfl rfl ?_
                  refine r_bipush (pc := 99) (v := iv (-3)) dX11_run_99 (by decide) ?_
                  obtain ⟨fs77, hfs77⟩ := t_obj ht35 (rd_of CG_0)
                  refine r_callV (pc := 101) (as := [.int (iv (-3))]) (st := []) kX11_82 rfl dX11_run_101 hfs77 (s_X11_refuse (d := d - 1) (x1 := (-3)) (by omega)  ht35 (by omega)) rfl (by omega) (Nat.le_of_ble_eq_true rfl) (Nat.zero_le _) (Nat.zero_le _) rfl (fun r74 hp73 n75 hq76 => ?_)
                  obtain ⟨hnn75, ht78, hrr74⟩ := hq76
                  subst n75 r74
                  change Rn _ _ _ 104 _ [.int (iv (-3))] _ _ _ _ _
                  exact r_iret (pc := 104) dX11_run_104 rfl ⟨by omega, Γ, ct, (-3), th, kn, kd, ka, kf, kt, kw, kc, (-3), (Ext_refl Γ), ht78, hk, rfl, by exact an2_b (by omega) (by omega) (by omega), by omega, fun h9 => ⟨by omega, rfl, rfl⟩, fun h9 => absurd h9 (by omega)⟩
              · refine r_iload (pc := 65) dX11_run_65 rfl ?_
                refine r_sipush (pc := 67) (v := iv 200) dX11_run_67 (by decide) ?_
                refine t_icmp_gt (pc := 70) (tgt := 90) dX11_run_70 (by decide) (by omega) (by omega) (fun c70 => ?_) (fun c70 => ?_)
                · refine r_iconst (pc := 90) (v := iv 0) dX11_run_90 (by decide) ?_
                  refine r_istore (pc := 91) (lv' := [(9, .int (iv 0)), (8, .ref ca), (7, .ref ga), (0, .ref a), (1, .int (iv x1)), (2, .int (iv x2)), (3, .int (iv x3)), (4, .int (iv x4)), (5, .int (iv x5)), (6, .int (iv x6))]) dX11_run_91 (by decide) rfl ?_
                  refine r_iload (pc := 93) dX11_run_93 rfl ?_
                  refine t_if_ne (pc := 95) (tgt := 105) dX11_run_95 (by decide) (by omega) (fun c95 => ?_) (fun c95 => ?_)
                  · exfalso
                    omega
                  · refine r_aload_n (pc := 98) dX11_run_98 (i := 0) rfl rfl ?_
                    refine r_bipush (pc := 99) (v := iv (-3)) dX11_run_99 (by decide) ?_
                    obtain ⟨fs83, hfs83⟩ := t_obj ht35 (rd_of CG_0)
                    refine r_callV (pc := 101) (as := [.int (iv (-3))]) (st := []) kX11_82 rfl dX11_run_101 hfs83 (s_X11_refuse (d := d - 1) (x1 := (-3)) (by omega)  ht35 (by omega)) rfl (by omega) (Nat.le_of_ble_eq_true rfl) (Nat.zero_le _) (Nat.zero_le _) rfl (fun r80 hp79 n81 hq82 => ?_)
                    obtain ⟨hnn81, ht84, hrr80⟩ := hq82
                    subst n81 r80
                    change Rn _ _ _ 104 _ [.int (iv (-3))] _ _ _ _ _
                    exact r_iret (pc := 104) dX11_run_104 rfl ⟨by omega, Γ, ct, (-3), th, kn, kd, ka, kf, kt, kw, kc, (-3), (Ext_refl Γ), ht84, hk, rfl, by exact an2_b (by omega) (by omega) (by omega), by omega, fun h9 => ⟨by omega, rfl, rfl⟩, fun h9 => absurd h9 (by omega)⟩
                · refine r_aload (pc := 73) dX11_run_73 rfl ?_
                  refine t_getE (pc := 75) (.int (iv (gn : Int))) ht35 (rd_CG (by omega) hg_O) fX11_134 dX11_run_75 rfl ?_
                  refine r_aload (pc := 78) dX11_run_78 rfl ?_
                  refine t_getE (pc := 80) (.int (iv (cn : Int))) ht35 (rd_CG (by omega) hc_O) fX11_174 dX11_run_80 rfl ?_
                  refine t_icmp_ne (pc := 83) (tgt := 90) dX11_run_83 (by decide) (by omega) (by omega) (fun c83 => ?_) (fun c83 => ?_)
                  · refine r_iconst (pc := 90) (v := iv 0) dX11_run_90 (by decide) ?_
                    refine r_istore (pc := 91) (lv' := [(9, .int (iv 0)), (8, .ref ca), (7, .ref ga), (0, .ref a), (1, .int (iv x1)), (2, .int (iv x2)), (3, .int (iv x3)), (4, .int (iv x4)), (5, .int (iv x5)), (6, .int (iv x6))]) dX11_run_91 (by decide) rfl ?_
                    refine r_iload (pc := 93) dX11_run_93 rfl ?_
                    refine t_if_ne (pc := 95) (tgt := 105) dX11_run_95 (by decide) (by omega) (fun c95 => ?_) (fun c95 => ?_)
                    · exfalso
                      omega
                    · refine r_aload_n (pc := 98) dX11_run_98 (i := 0) rfl rfl ?_
                      refine r_bipush (pc := 99) (v := iv (-3)) dX11_run_99 (by decide) ?_
                      obtain ⟨fs89, hfs89⟩ := t_obj ht35 (rd_of CG_0)
                      refine r_callV (pc := 101) (as := [.int (iv (-3))]) (st := []) kX11_82 rfl dX11_run_101 hfs89 (s_X11_refuse (d := d - 1) (x1 := (-3)) (by omega)  ht35 (by omega)) rfl (by omega) (Nat.le_of_ble_eq_true rfl) (Nat.zero_le _) (Nat.zero_le _) rfl (fun r86 hp85 n87 hq88 => ?_)
                      obtain ⟨hnn87, ht90, hrr86⟩ := hq88
                      subst n87 r86
                      change Rn _ _ _ 104 _ [.int (iv (-3))] _ _ _ _ _
                      exact r_iret (pc := 104) dX11_run_104 rfl ⟨by omega, Γ, ct, (-3), th, kn, kd, ka, kf, kt, kw, kc, (-3), (Ext_refl Γ), ht90, hk, rfl, by exact an2_b (by omega) (by omega) (by omega), by omega, fun h9 => ⟨by omega, rfl, rfl⟩, fun h9 => absurd h9 (by omega)⟩
                  · obtain rfl : gn = cn := by omega
                    refine r_iconst (pc := 86) (v := iv 1) dX11_run_86 (by decide) ?_
                    refine r_goto (pc := 87) (tgt := 91) dX11_run_87 (by decide) ?_
                    refine r_istore (pc := 91) (lv' := [(9, .int (iv 1)), (8, .ref ca), (7, .ref ga), (0, .ref a), (1, .int (iv x1)), (2, .int (iv x2)), (3, .int (iv x3)), (4, .int (iv x4)), (5, .int (iv x5)), (6, .int (iv x6))]) dX11_run_91 (by decide) rfl ?_
                    refine r_iload (pc := 93) dX11_run_93 rfl ?_
                    refine t_if_ne (pc := 95) (tgt := 105) dX11_run_95 (by decide) (by omega) (fun c95 => ?_) (fun c95 => ?_)
                    · refine r_aload_n (pc := 105) dX11_run_105 (i := 0) rfl rfl ?_
                      obtain ⟨fs95, hfs95⟩ := t_obj ht35 (rd_of CG_0)
                      refine r_callV (pc := 106) (as := []) (st := []) kX11_93 rfl dX11_run_106 hfs95 (s_X11_isFull (d := d - 1)  (by omega)  ht35  (by omega)) rfl (by omega) (Nat.le_of_ble_eq_true rfl) (Nat.zero_le _) (Nat.zero_le _) rfl (fun r92 hp91 n93 hq94 => ?_)
                      obtain ⟨hnn93, bb_97, ht96, hrr92, hhq940⟩ := hq94
                      subst n93 r92
                      have hhq940 : (bb_97 = 1 ∧ 120 ≤ ct) ∨ (bb_97 = 0 ∧ ct < 120) := hhq940
                      change Rn _ _ _ 109 _ [.int (iv bb_97)] _ _ _ _ _
                      refine t_if_eq (pc := 109) (tgt := 119) dX11_run_109 (by decide) (by omega) (fun c109 => ?_) (fun c109 => ?_)
                      · refine Rn.bd (fun bd9 => ?_)
                        refine w_new (pc := 119) (fs := [.int 0, .null]) nX11_151 tyX0 tyX0_ok (by decide +kernel) dX11_run_119 (by omega) (by omega) (fun hpN hN1 hN2 hN3 => ?_)
                        have htN := Tw_fr ht96 hN2
                        refine r_dup (pc := 122) dX11_run_122 rfl ?_
                        refine r_aload (pc := 123) dX11_run_123 rfl ?_
                        refine t_getE (pc := 125) (.int (iv (gn : Int))) htN (rd_CG (by omega) hc_O) fX11_174 dX11_run_125 rfl ?_
                        have hlo9 := Tw_lo ht96 bd9
                        have hq_gF : gF < n := Tw.lt9 ht96 bd9 (rd_CG (by omega) hg_from)
                        have hq_gT : gT < n := Tw.lt9 ht96 bd9 (rd_CG (by omega) hg_to)
                        have hq_gW : gW < n := Tw.lt9 ht96 bd9 (rd_CG (by omega) hg_weight)
                        have hq_gC : gC < n := Tw.lt9 ht96 bd9 (rd_CG (by omega) hg_cost)
                        have hq_gTl : gTl < n := Tw.lt9 ht96 bd9 (rd_CG (by omega) hg_tail)
                        have hq_gHd : gHd < n := Tw.lt9 ht96 bd9 (rd_CG (by omega) hg_head)
                        have hq_gBy : gBy < n := Tw.lt9 ht96 bd9 (rd_CG (by omega) hg_by)
                        have hq_gOu : gOu < n := Tw.lt9 ht96 bd9 (rd_CG (by omega) hg_out)
                        have hq_gIn : gIn < n := Tw.lt9 ht96 bd9 (rd_CG (by omega) hg_in)
                        have hq_gJo : gJo < n := Tw.lt9 ht96 bd9 (rd_CG (by omega) hg_joined)
                        have hq_ga : ga < n := Tw.lt9 ht96 bd9 (rd_CG (by omega) hg_O)
                        have hq_cM : cM < n := Tw.lt9 ht96 bd9 (rd_CG (by omega) hc_numbers)
                        have hq_ca : ca < n := Tw.lt9 ht96 bd9 (rd_CG (by omega) hc_O)
                        refine u_initC (pc := 128) (N := gn) (x := (gn : Int)) (st := [.ref n]) ht96 bd9 hna hN2 hN1 (by omega) (by omega) kX11_153 dX11_run_128 (by omega) (Nat.le_of_ble_eq_true rfl) (by omega) (by omega) (fun hp2 Γ2 hE2 ht2 hv => ?_)
                        obtain ⟨hv_O, hv_numbers, hv_b⟩ := id hv
                        have hg := TyG.ext hE2 hg
                        obtain ⟨hg_O, hg_from, hg_to, hg_weight, hg_cost, hg_tail, hg_head, hg_by, hg_out, hg_in, hg_joined, hg_b⟩ := id hg
                        have hxg := XG.ext hE2 hxg
                        have hc := TyC.ext hE2 hc
                        obtain ⟨hc_O, hc_numbers, hc_b⟩ := id hc
                        have hse := TySets.ext hE2 hse
                        have hsh := TyShape.ext hE2 hsh
                        have hfl := TyFlows.ext hE2 hfl
                        have hxc := rd_ext hE2 hxc
                        refine r_astore (pc := 131) (lv' := [(10, .ref n), (9, .int (iv 1)), (8, .ref ca), (7, .ref ga), (0, .ref a), (1, .int (iv x1)), (2, .int (iv x2)), (3, .int (iv x3)), (4, .int (iv x4)), (5, .int (iv x5)), (6, .int (iv x6))]) dX11_run_131 (by decide) rfl ?_
                        refine r_aload (pc := 133) dX11_run_133 rfl ?_
                        refine t_getE (pc := 135) (.ref cM) ht2 (rd_ov (by omega) (rd_CG (by omega) hc_O)) fX11_160 dX11_run_135 rfl ?_
                        refine r_iconst (pc := 138) (v := iv 0) dX11_run_138 (by decide) ?_
                        refine r_aload (pc := 139) dX11_run_139 rfl ?_
                        refine t_getE (pc := 141) (.ref (n + 1)) ht2 (rd_ov (by omega) (rd_CG (by omega) hv_O)) fX11_160 dX11_run_141 rfl ?_
                        refine r_iconst (pc := 144) (v := iv 0) dX11_run_144 (by decide) ?_
                        refine r_aload (pc := 145) dX11_run_145 rfl ?_
                        refine t_getE (pc := 147) (.int (iv (gn : Int))) ht2 (rd_ov (by omega) (rd_CG (by omega) hc_O)) fX11_174 dX11_run_147 rfl ?_
                        refine t_copyJX (pc := 150) (t0 := 1) ht2 (rd_ov (by omega) (rd_CG (by omega) hxc)) (rd_of (ov_s _ _ _)) aX11_179 dX11_run_150 rfl (by omega) (by omega) (Nat.le_of_ble_eq_true rfl) (fun hp98 ht99 => ?_)
                        rw [ov_ov] at ht99
                        refine r_aload (pc := 153) dX11_run_153 rfl ?_
                        refine r_aload (pc := 155) dX11_run_155 rfl ?_
                        refine r_iload_n (pc := 157) dX11_run_157 (i := 3) rfl rfl ?_
                        refine r_iload (pc := 158) dX11_run_158 rfl ?_
                        refine r_iload (pc := 160) dX11_run_160 rfl ?_
                        refine r_iload (pc := 162) dX11_run_162 rfl ?_
                        obtain ⟨fs105, hfs105⟩ := t_obj ht99 (rd_ov (by omega) (rd_CG (by omega) hv_O))
                        refine r_callV (pc := 164) (as := [.ref ga, .int (iv x3), .int (iv x4), .int (iv x5), .int (iv x6)]) (st := []) kX11_185 rfl dX11_run_164 hfs105 (c_X0_playx (d := d - 1) (x2 := x3) (x3 := x4) (x4 := x5) (x5 := x6) (by omega) (TyG.cg (by omega) hg) (XG.cg (by omega) hxg) (TyCw.cg (by omega) hv) ⟨nE_i (by omega), nE_i (by omega), nE_i (by omega), nE_i (by omega), nE_i (by omega), nE_i (by omega), nE_i (by omega), nE_i (by omega), nE_i (by omega), nE_i (by omega), nE_i (by omega), nE_i (by omega)⟩ ht99 (by omega) (by omega) (by omega) (by omega) hgog) rfl (by omega) (Nat.le_of_ble_eq_true rfl) (by omega) (by omega) rfl (fun r100 hp101 n102 hq103 => ?_)
                        obtain ⟨hnn102, hrr100, fc9, ht104, hfc⟩ := hq103
                        subst r100
                        change Rn _ _ _ 167 _ [] _ _ _ _ _
                        refine r_aload_n (pc := 167) dX11_run_167 (i := 0) rfl rfl ?_
                        refine r_aload (pc := 168) dX11_run_168 rfl ?_
                        obtain ⟨Γ3, hE3, ht3, hCX⟩ := col_close hE2 (lo_CG hlo9 (by omega)) hna hv ht104
                        have hth2 := hCX.th
                        obtain ⟨Fs9, hv9, hl9⟩ := ThC_rd hth2
                        obtain ⟨fs111, hfs111⟩ := t_obj ht3 (rd_of CG_0)
                        refine r_callV (pc := 170) (as := [.ref n]) (st := []) kX11_102 rfl dX11_run_170 hfs111 (t_X11_keep (d := d - 1) (r0 := (RX0, TX0, 2)) (by omega) (by omega) (rd_CG (by omega) hv9) rfl (show (RX0, "GraphEngine$Thing") ∈ cas by decide +kernel) ht3) rfl (by omega) (Nat.le_of_ble_eq_true rfl) (Nat.zero_le _) (Nat.zero_le _) rfl (fun r106 hp107 n108 hq109 => ?_)
                        obtain ⟨hnn108, ht110, hrr106⟩ := hq109
                        subst n108 r106
                        change Rn _ _ _ 173 _ [.int (iv ct)] _ _ _ _ _
                        exact r_iret (pc := 173) dX11_run_173 rfl ⟨by omega, Γ3, (ct + 1), 0, (va_up th (ct).toNat (some n)), kn, kd, ka, kf, kt, kw, kc, ct, (Ext_tr (Ext_refl Γ) hE3), ht110, (EK.keep (EK.ext hE3 hk) (by omega) (Or.inr (Or.inl hth2))), rfl, by exact an2_m (hdQ_n (by omega)).symm (by omega) (by omega), by omega, fun h9 => absurd h9 (by omega), fun _ => ⟨by omega, rfl, n, rfl, ⟨fc9, by rw [heNg]; exact hCX, fun v h9 => by rw [hfMg, heDg]; exact (eqB_tr hfc (rnC_eq cpJ_all (fun k hk => by have h1 := hxg.2.1.1 k hk; have h2 := hxg.2.1.2.1 k hk; omega) _)) v (by omega)⟩⟩⟩
                      · refine r_aload_n (pc := 112) dX11_run_112 (i := 0) rfl rfl ?_
                        refine r_bipush (pc := 113) (v := iv (-4)) dX11_run_113 (by decide) ?_
                        obtain ⟨fs116, hfs116⟩ := t_obj ht96 (rd_of CG_0)
                        refine r_callV (pc := 115) (as := [.int (iv (-4))]) (st := []) kX11_82 rfl dX11_run_115 hfs116 (s_X11_refuse (d := d - 1) (x1 := (-4)) (by omega)  ht96 (by omega)) rfl (by omega) (Nat.le_of_ble_eq_true rfl) (Nat.zero_le _) (Nat.zero_le _) rfl (fun r113 hp112 n114 hq115 => ?_)
                        obtain ⟨hnn114, ht117, hrr113⟩ := hq115
                        subst n114 r113
                        change Rn _ _ _ 118 _ [.int (iv (-4))] _ _ _ _ _
                        exact r_iret (pc := 118) dX11_run_118 rfl ⟨by omega, Γ, ct, (-4), th, kn, kd, ka, kf, kt, kw, kc, (-4), (Ext_refl Γ), ht117, hk, rfl, by exact an2_m (hdQ_y (by omega)).symm (by omega) (by omega), by omega, fun h9 => ⟨by omega, rfl, rfl⟩, fun h9 => absurd h9 (by omega)⟩
                    · exfalso
                      omega
set_option maxHeartbeats 4000000 in
set_option maxRecDepth 100000 in
theorem y_X11_ways {D : va_G} {cI cJ cZ cT : ClassId} {lo b L : Nat} {xs : Nat → Int32} {hp : MH} {n d : Nat} {Γ : TG} {a : Nat} {ct : Int} {rv : Int} {th : Nat → Option Nat} {dn : Int} {dd : Int} {da : Int} {df : Nat → Int} {dt : Nat → Int} {dw : Nat → Int} {dc : Nat → Int} {kn : Int} {kd : Int} {ka : Int} {kf : Nat → Int} {kt : Nat → Int} {kw : Nat → Int} {kc : Nat → Int} {so sz dr mn fr tt wt co : Nat → Int} {nu : Nat → Int64} {qi qc : Nat → Int} {x1 x2 x3 : Int} (hd0 : 4 ≤ d) (hk : EK Γ cI cJ cZ a ct th dn dd da df dt dw dc kn kd ka) (hm : HM Γ cI cJ cZ a ct th so sz dr mn fr tt wt co nu qi qc) (hrv : -2147483648 ≤ rv ∧ rv ≤ 2147483647) (hna : a + 84 ≤ n) (ht : Tw (CG Γ cI cJ cZ cT a ct rv th dn dd da df dt dw dc kn kd ka kf kt kw kc) hp) (hx1 : (-2147483648) ≤ x1 ∧ x1 ≤ 2147483647) (hx2 : (-2147483648) ≤ x2 ∧ x2 ≤ 2147483647) (hx3 : (-2147483648) ≤ x3 ∧ x3 ≤ 2147483647) : Mt (gG D cI cJ cZ cT lo b L xs) mX11_ways d 8 400 [.ref a, .int (iv x1), .int (iv x2), .int (iv x3)] hp n (qM Γ cI cJ cZ cT a dn dd da df dt dw dc n ct th (an1 ct so x1 1 (x2 < 0 ∨ 2 < x2 ∨ x3 < 0 ∨ (sz (Int.toNat x1)) ≤ x3) (ct = 120)) (fun Γ1 t => WX Γ1 cI cJ cZ a t (sz (Int.toNat x1)))) := by
  refine Mt.of rfl (Nat.le_of_ble_eq_true rfl) ?_
  refine Rn.pick (lv' := [(0, .ref a), (1, .int (iv x1)), (2, .int (iv x2)), (3, .int (iv x3))]) [0, 1, 2, 3] rfl ?_
  obtain ⟨hct, hth, ⟨hdn, hdd1, hda, har⟩, ⟨hkn, hkd, hka⟩, hsh, hse, hpr, hfl, hsm⟩ := id hk
  refine r_aload_n (pc := 0) dX11_ways_0 (i := 0) rfl rfl ?_
  refine r_iconst (pc := 1) (v := iv 0) dX11_ways_1 (by decide) ?_
  refine t_putX (pc := 2) (ty := .int) ht CG_0 fX11_19 tyX11 tyX11_ok nmX11 (by decide +kernel) (Or.inl rfl) dX11_ways_2 (Nat.le_of_ble_eq_true rfl) rfl rfl rfl (fun hp1 ht2 => ?_)
  have ht3 := RGw_rv ht2
  refine r_aload_n (pc := 5) dX11_ways_5 (i := 0) rfl rfl ?_
  refine r_iload_n (pc := 6) dX11_ways_6 (i := 1) rfl rfl ?_
  refine u_graphAt (pc := 7) (x := x1) (st := []) hct hm ht3 kX11_106 dX11_ways_7 (by omega) (Nat.le_of_ble_eq_true rfl) (by omega) (fun hp4 ht5 hnog => ?_) (fun hp4 ga ht5 hyeg hTg => ?_)
  · refine r_astoreN (pc := 10) (lv' := [(4, .null), (0, .ref a), (1, .int (iv x1)), (2, .int (iv x2)), (3, .int (iv x3))]) dX11_ways_10 (by decide) rfl ?_
    refine r_aloadN (pc := 12) dX11_ways_12 rfl ?_
    refine r_ifnonnullN (pc := 14) dX11_ways_14 ?_
    refine r_aload_n (pc := 17) dX11_ways_17 (i := 0) rfl rfl ?_
    refine r_aload_n (pc := 18) dX11_ways_18 (i := 0) rfl rfl ?_
    refine r_iload_n (pc := 19) dX11_ways_19 (i := 1) rfl rfl ?_
    obtain ⟨fs10, hfs10⟩ := t_obj ht5 (rd_of CG_0)
    refine r_callV (pc := 20) (as := [.int (iv x1)]) (st := [.ref a]) kX11_110 rfl dX11_ways_20 hfs10 (uw_X11_whyNot (d := d - 1) (x1 := x1) (by omega)  ht5 (by omega) (by omega) hm) rfl (by omega) (Nat.le_of_ble_eq_true rfl) (Nat.zero_le _) (Nat.zero_le _) rfl (fun r7 hp6 n8 hq9 => ?_)
    obtain ⟨hnn8, bb_12, ht11, hrr7, hhq90, hhq91⟩ := hq9
    subst n8 r7
    have hhq90 : -2 ≤ bb_12 ∧ bb_12 ≤ -1 := hhq90
    have hhq91 : (bb_12 = -1 ∧ ¬ (0 ≤ x1 ∧ x1 < ct)) ∨ (bb_12 = -2 ∧ 0 ≤ x1 ∧ x1 < ct) := hhq91
    change Rn _ _ _ 23 _ [.int (iv bb_12), .ref a] _ _ _ _ _
    obtain ⟨fs17, hfs17⟩ := t_obj ht11 (rd_of CG_0)
    refine r_callV (pc := 23) (as := [.int (iv bb_12)]) (st := []) kX11_82 rfl dX11_ways_23 hfs17 (s_X11_refuse (d := d - 1) (x1 := bb_12) (by omega)  ht11 (by omega)) rfl (by omega) (Nat.le_of_ble_eq_true rfl) (Nat.zero_le _) (Nat.zero_le _) rfl (fun r14 hp13 n15 hq16 => ?_)
    obtain ⟨hnn15, ht18, hrr14⟩ := hq16
    subst n15 r14
    change Rn _ _ _ 26 _ [.int (iv bb_12)] _ _ _ _ _
    exact r_iret (pc := 26) dX11_ways_26 rfl ⟨by omega, Γ, ct, bb_12, th, kn, kd, ka, kf, kt, kw, kc, bb_12, (Ext_refl Γ), ht18, hk, rfl, by exact an1_r (by omega), by omega, fun h9 => ⟨by omega, rfl, rfl⟩, fun h9 => absurd h9 (by omega)⟩
  · obtain ⟨gF, gT, gW, gC, gTl, gHd, gBy, gOu, gIn, gJo, gn, gm, gq, gdr, Tl, Hd, By, Ou, In, Jo, gpos, hg, hltg, hxg, hgog, houg, hing, hjog, heNg, heDg, heMg⟩ := id hTg
    have hfNg : Int.toNat (sz (Int.toNat x1)) = gn := by omega
    have hfMg : Int.toNat (mn (Int.toNat x1)) = gm := by omega
    obtain ⟨hg_O, hg_from, hg_to, hg_weight, hg_cost, hg_tail, hg_head, hg_by, hg_out, hg_in, hg_joined, hg_b⟩ := id hg
    refine r_astore (pc := 10) (lv' := [(4, .ref ga), (0, .ref a), (1, .int (iv x1)), (2, .int (iv x2)), (3, .int (iv x3))]) dX11_ways_10 (by decide) rfl ?_
    refine r_aload (pc := 12) dX11_ways_12 rfl ?_
    refine r_ifnonnull (pc := 14) (tgt := 27) dX11_ways_14 (by decide) ?_
    refine r_iload_n (pc := 27) dX11_ways_27 (i := 2) rfl rfl ?_
    refine t_if_lt (pc := 28) (tgt := 48) dX11_ways_28 (by decide) (by omega) (fun c28 => ?_) (fun c28 => ?_)
    · refine r_aload_n (pc := 48) dX11_ways_48 (i := 0) rfl rfl ?_
      refine r_bipush (pc := 49) (v := iv (-3)) dX11_ways_49 (by decide) ?_
      obtain ⟨fs23, hfs23⟩ := t_obj ht5 (rd_of CG_0)
      refine r_callV (pc := 51) (as := [.int (iv (-3))]) (st := []) kX11_82 rfl dX11_ways_51 hfs23 (s_X11_refuse (d := d - 1) (x1 := (-3)) (by omega)  ht5 (by omega)) rfl (by omega) (Nat.le_of_ble_eq_true rfl) (Nat.zero_le _) (Nat.zero_le _) rfl (fun r20 hp19 n21 hq22 => ?_)
      obtain ⟨hnn21, ht24, hrr20⟩ := hq22
      subst n21 r20
      change Rn _ _ _ 54 _ [.int (iv (-3))] _ _ _ _ _
      exact r_iret (pc := 54) dX11_ways_54 rfl ⟨by omega, Γ, ct, (-3), th, kn, kd, ka, kf, kt, kw, kc, (-3), (Ext_refl Γ), ht24, hk, rfl, by exact an1_b (by omega) (by omega) (by omega), by omega, fun h9 => ⟨by omega, rfl, rfl⟩, fun h9 => absurd h9 (by omega)⟩
    · refine r_iload_n (pc := 31) dX11_ways_31 (i := 2) rfl rfl ?_
      refine r_iconst (pc := 32) (v := iv 2) dX11_ways_32 (by decide) ?_
      refine t_icmp_gt (pc := 33) (tgt := 48) dX11_ways_33 (by decide) (by omega) (by omega) (fun c33 => ?_) (fun c33 => ?_)
      · refine r_aload_n (pc := 48) dX11_ways_48 (i := 0) rfl rfl ?_
        refine r_bipush (pc := 49) (v := iv (-3)) dX11_ways_49 (by decide) ?_
        obtain ⟨fs29, hfs29⟩ := t_obj ht5 (rd_of CG_0)
        refine r_callV (pc := 51) (as := [.int (iv (-3))]) (st := []) kX11_82 rfl dX11_ways_51 hfs29 (s_X11_refuse (d := d - 1) (x1 := (-3)) (by omega)  ht5 (by omega)) rfl (by omega) (Nat.le_of_ble_eq_true rfl) (Nat.zero_le _) (Nat.zero_le _) rfl (fun r26 hp25 n27 hq28 => ?_)
        obtain ⟨hnn27, ht30, hrr26⟩ := hq28
        subst n27 r26
        change Rn _ _ _ 54 _ [.int (iv (-3))] _ _ _ _ _
        exact r_iret (pc := 54) dX11_ways_54 rfl ⟨by omega, Γ, ct, (-3), th, kn, kd, ka, kf, kt, kw, kc, (-3), (Ext_refl Γ), ht30, hk, rfl, by exact an1_b (by omega) (by omega) (by omega), by omega, fun h9 => ⟨by omega, rfl, rfl⟩, fun h9 => absurd h9 (by omega)⟩
      · refine r_iload_n (pc := 36) dX11_ways_36 (i := 3) rfl rfl ?_
        refine r_aload (pc := 37) dX11_ways_37 rfl ?_
        refine t_getE (pc := 39) (.int (iv (gn : Int))) ht5 (rd_CG (by omega) hg_O) fX11_134 dX11_ways_39 rfl ?_
        refine t_callSI (pc := 42) (as := [.int (iv x3), .int (iv (gn : Int))]) (st := []) kX11_74 dX11_ways_42 (t_X11_isNode (d := d - 1) (x0 := x3) (x1 := (gn : Int)) (by omega)   ht5 (by omega) (by omega) ) rfl (by omega) (Nat.le_of_ble_eq_true rfl) rfl (fun hp31 y33 ht32 by33 => ?_)
        obtain ⟨by331, by332⟩ := by33
        refine t_if_ne (pc := 45) (tgt := 55) dX11_ways_45 (by decide) (by omega) (fun c45 => ?_) (fun c45 => ?_)
        · refine r_aload_n (pc := 55) dX11_ways_55 (i := 0) rfl rfl ?_
          obtain ⟨fs38, hfs38⟩ := t_obj ht32 (rd_of CG_0)
          refine r_callV (pc := 56) (as := []) (st := []) kX11_93 rfl dX11_ways_56 hfs38 (s_X11_isFull (d := d - 1)  (by omega)  ht32  (by omega)) rfl (by omega) (Nat.le_of_ble_eq_true rfl) (Nat.zero_le _) (Nat.zero_le _) rfl (fun r35 hp34 n36 hq37 => ?_)
          obtain ⟨hnn36, bb_40, ht39, hrr35, hhq370⟩ := hq37
          subst n36 r35
          have hhq370 : (bb_40 = 1 ∧ 120 ≤ ct) ∨ (bb_40 = 0 ∧ ct < 120) := hhq370
          change Rn _ _ _ 59 _ [.int (iv bb_40)] _ _ _ _ _
          refine t_if_eq (pc := 59) (tgt := 71) dX11_ways_59 (by decide) (by omega) (fun c59 => ?_) (fun c59 => ?_)
          · refine r_aload_n (pc := 71) dX11_ways_71 (i := 0) rfl rfl ?_
            refine Rn.bd (fun bd9 => ?_)
            refine w_new (pc := 72) (fs := [.int 0, .null, .null, .null, .null, .null]) nX11_189 tyX10 tyX10_ok (by decide +kernel) dX11_ways_72 (by omega) (by omega) (fun hpN hN1 hN2 hN3 => ?_)
            have htN := Tw_fr ht39 hN2
            refine r_dup (pc := 75) dX11_ways_75 rfl ?_
            refine r_aload (pc := 76) dX11_ways_76 rfl ?_
            refine r_iload_n (pc := 78) dX11_ways_78 (i := 2) rfl rfl ?_
            refine r_iload_n (pc := 79) dX11_ways_79 (i := 3) rfl rfl ?_
            have hsq9 : gn * gn ≤ 256 := Nat.le_trans (Nat.mul_le_mul (show gn ≤ 16 by omega) (show gn ≤ 16 by omega)) (by decide)
            refine r_callI (pc := 80) (as := [.ref ga, .int (iv x2), .int (iv x3)]) (st := [.ref n, .ref a]) kX11_191 dX11_ways_80 (t_X10_init (d := d - 1) (x2 := x2) (x3 := x3) (by omega) (TyG.cg (by omega) hg) (XG.cg (by omega) hxg) hN1 (Tw_lo ht39 bd9) htN (by omega) (by omega)) rfl (by omega) (Nat.le_of_ble_eq_true rfl) (by omega) (by omega) rfl (fun r9 hp9 n9 q9 => ?_)
            obtain ⟨hn9, hr9, Γ1, hE1, ht9, hP1⟩ := q9
            subst r9
            obtain ⟨Γ2, hE2, eq2⟩ := CG_x hE1
            rw [← eq2] at ht9 hP1
            have hg := TyG.ext hE2 hg
            obtain ⟨hg_O, hg_from, hg_to, hg_weight, hg_cost, hg_tail, hg_head, hg_by, hg_out, hg_in, hg_joined, hg_b⟩ := id hg
            have hxg := XG.ext hE2 hxg
            have hse := TySets.ext hE2 hse
            have hsh := TyShape.ext hE2 hsh
            have hfl := TyFlows.ext hE2 hfl
            have hWX : WX Γ2 cI cJ cZ a n (sz (Int.toNat x1)) := ⟨gn, TyW.uncg (by omega) hP1, by omega, heNg⟩
            have hth2 := hWX.th
            change Rn _ _ _ 83 _ [.ref n, .ref a] _ _ _ _ _
            obtain ⟨Fs9, hv9, hl9⟩ := ThW_rd hth2
            obtain ⟨fs46, hfs46⟩ := t_obj ht9 (rd_of CG_0)
            refine r_callV (pc := 83) (as := [.ref n]) (st := []) kX11_102 rfl dX11_ways_83 hfs46 (t_X11_keep (d := d - 1) (r0 := (RX10, TX10, 6)) (by omega) (by omega) (rd_CG (by omega) hv9) rfl (show (RX10, "GraphEngine$Thing") ∈ cas by decide +kernel) ht9) rfl (by omega) (Nat.le_of_ble_eq_true rfl) (Nat.zero_le _) (Nat.zero_le _) rfl (fun r41 hp42 n43 hq44 => ?_)
            obtain ⟨hnn43, ht45, hrr41⟩ := hq44
            subst n43 r41
            change Rn _ _ _ 86 _ [.int (iv ct)] _ _ _ _ _
            exact r_iret (pc := 86) dX11_ways_86 rfl ⟨by omega, Γ2, (ct + 1), 0, (va_up th (ct).toNat (some n)), kn, kd, ka, kf, kt, kw, kc, ct, (Ext_tr (Ext_refl Γ) hE2), ht45, (EK.keep (EK.ext hE2 hk) (by omega) (Or.inr (Or.inr (Or.inl hth2)))), rfl, by exact an1_m (hdQ_n (by omega)).symm (by omega) (by omega), by omega, fun h9 => absurd h9 (by omega), fun _ => ⟨by omega, rfl, n, rfl, hWX⟩⟩
          · refine r_aload_n (pc := 62) dX11_ways_62 (i := 0) rfl rfl ?_
            refine r_bipush (pc := 63) (v := iv (-4)) dX11_ways_63 (by decide) ?_
            obtain ⟨fs51, hfs51⟩ := t_obj ht39 (rd_of CG_0)
            refine r_callV (pc := 65) (as := [.int (iv (-4))]) (st := []) kX11_82 rfl dX11_ways_65 hfs51 (s_X11_refuse (d := d - 1) (x1 := (-4)) (by omega)  ht39 (by omega)) rfl (by omega) (Nat.le_of_ble_eq_true rfl) (Nat.zero_le _) (Nat.zero_le _) rfl (fun r48 hp47 n49 hq50 => ?_)
            obtain ⟨hnn49, ht52, hrr48⟩ := hq50
            subst n49 r48
            change Rn _ _ _ 68 _ [.int (iv (-4))] _ _ _ _ _
            refine r_goto (pc := 68) (tgt := 86) dX11_ways_68 (by decide) ?_
            exact r_iret (pc := 86) dX11_ways_86 rfl ⟨by omega, Γ, ct, (-4), th, kn, kd, ka, kf, kt, kw, kc, (-4), (Ext_refl Γ), ht52, hk, rfl, by exact an1_m (hdQ_y (by omega)).symm (by omega) (by omega), by omega, fun h9 => ⟨by omega, rfl, rfl⟩, fun h9 => absurd h9 (by omega)⟩
        · refine r_aload_n (pc := 48) dX11_ways_48 (i := 0) rfl rfl ?_
          refine r_bipush (pc := 49) (v := iv (-3)) dX11_ways_49 (by decide) ?_
          obtain ⟨fs57, hfs57⟩ := t_obj ht32 (rd_of CG_0)
          refine r_callV (pc := 51) (as := [.int (iv (-3))]) (st := []) kX11_82 rfl dX11_ways_51 hfs57 (s_X11_refuse (d := d - 1) (x1 := (-3)) (by omega)  ht32 (by omega)) rfl (by omega) (Nat.le_of_ble_eq_true rfl) (Nat.zero_le _) (Nat.zero_le _) rfl (fun r54 hp53 n55 hq56 => ?_)
          obtain ⟨hnn55, ht58, hrr54⟩ := hq56
          subst n55 r54
          change Rn _ _ _ 54 _ [.int (iv (-3))] _ _ _ _ _
          exact r_iret (pc := 54) dX11_ways_54 rfl ⟨by omega, Γ, ct, (-3), th, kn, kd, ka, kf, kt, kw, kc, (-3), (Ext_refl Γ), ht58, hk, rfl, by exact an1_b (by omega) (by omega) (by omega), by omega, fun h9 => ⟨by omega, rfl, rfl⟩, fun h9 => absurd h9 (by omega)⟩
set_option maxHeartbeats 4000000 in
set_option maxRecDepth 100000 in
theorem y_X11_partsByColumn {D : va_G} {cI cJ cZ cT : ClassId} {lo b L : Nat} {xs : Nat → Int32} {hp : MH} {n d : Nat} {Γ : TG} {a : Nat} {ct : Int} {rv : Int} {th : Nat → Option Nat} {dn : Int} {dd : Int} {da : Int} {df : Nat → Int} {dt : Nat → Int} {dw : Nat → Int} {dc : Nat → Int} {kn : Int} {kd : Int} {ka : Int} {kf : Nat → Int} {kt : Nat → Int} {kw : Nat → Int} {kc : Nat → Int} {so sz dr mn fr tt wt co : Nat → Int} {nu : Nat → Int64} {qi qc : Nat → Int} {x1 x2 : Int} (hd0 : 4 ≤ d) (hk : EK Γ cI cJ cZ a ct th dn dd da df dt dw dc kn kd ka) (hm : HM Γ cI cJ cZ a ct th so sz dr mn fr tt wt co nu qi qc) (hrv : -2147483648 ≤ rv ∧ rv ≤ 2147483647) (hna : a + 84 ≤ n) (ht : Tw (CG Γ cI cJ cZ cT a ct rv th dn dd da df dt dw dc kn kd ka kf kt kw kc) hp) (hx1 : (-2147483648) ≤ x1 ∧ x1 ≤ 2147483647) (hx2 : (-2147483648) ≤ x2 ∧ x2 ≤ 2147483647) (hr0 : rv = 0) : Mt (gG D cI cJ cZ cT lo b L xs) mX11_partsByColumn d 4 52 [.ref a, .int (iv x1), .int (iv x2)] hp n (qM Γ cI cJ cZ cT a dn dd da df dt dw dc n ct th (an2 ct so x1 1 x2 2 (sz (Int.toNat x2) ≠ sz (Int.toNat x1)) (ct = 120)) (fun Γ1 t => WQ Γ1 cI cJ cZ a (sz (Int.toNat x1)) (ptE (Int.toNat (mn (Int.toNat x1))) (dr (Int.toNat x1)) (sh fr (60 * x1)) (sh tt (60 * x1)) (sj nu (16 * x2)) 4) t)) := by
  refine Mt.of rfl (Nat.le_of_ble_eq_true rfl) ?_
  refine Rn.pick (lv' := [(0, .ref a), (1, .int (iv x1)), (2, .int (iv x2))]) [0, 1, 2] rfl ?_
  obtain ⟨hct, hth, ⟨hdn, hdd1, hda, har⟩, ⟨hkn, hkd, hka⟩, hsh, hse, hpr, hfl, hsm⟩ := id hk
  refine r_aload_n (pc := 0) dX11_partsByColumn_0 (i := 0) rfl rfl ?_
  refine r_iload_n (pc := 1) dX11_partsByColumn_1 (i := 1) rfl rfl ?_
  refine u_graphAt (pc := 2) (x := x1) (st := []) hct hm ht kX11_106 dX11_partsByColumn_2 (by omega) (Nat.le_of_ble_eq_true rfl) (by omega) (fun hp1 ht2 hnog => ?_) (fun hp1 ga ht2 hyeg hTg => ?_)
  · refine r_astore_nN (pc := 5) (lv' := [(3, .null), (0, .ref a), (1, .int (iv x1)), (2, .int (iv x2))]) dX11_partsByColumn_5 (i := 3) rfl (by decide) rfl ?_
    refine r_aload_n (pc := 6) dX11_partsByColumn_6 (i := 0) rfl rfl ?_
    refine r_iload_n (pc := 7) dX11_partsByColumn_7 (i := 2) rfl rfl ?_
    refine u_columnAt (pc := 8) (x := x2) (st := []) hct hm ht2 kX11_170 dX11_partsByColumn_8 (by omega) (Nat.le_of_ble_eq_true rfl) (by omega) (fun hp3 ht4 hnoc => ?_) (fun hp3 ca ht4 hyec hTc => ?_)
    · refine r_astoreN (pc := 11) (lv' := [(4, .null), (3, .null), (0, .ref a), (1, .int (iv x1)), (2, .int (iv x2))]) dX11_partsByColumn_11 (by decide) rfl ?_
      refine r_aload_nN (pc := 13) dX11_partsByColumn_13 (i := 3) rfl rfl ?_
      refine r_ifnullN (pc := 14) (tgt := 22) dX11_partsByColumn_14 (by decide) ?_
      refine r_aload_n (pc := 22) dX11_partsByColumn_22 (i := 0) rfl rfl ?_
      refine r_aload_n (pc := 23) dX11_partsByColumn_23 (i := 0) rfl rfl ?_
      refine r_iload_n (pc := 24) dX11_partsByColumn_24 (i := 1) rfl rfl ?_
      refine r_iload_n (pc := 25) dX11_partsByColumn_25 (i := 2) rfl rfl ?_
      obtain ⟨fs9, hfs9⟩ := t_obj ht4 (rd_of CG_0)
      refine r_callV (pc := 26) (as := [.int (iv x1), .int (iv x2)]) (st := [.ref a]) kX11_127 rfl dX11_partsByColumn_26 hfs9 (uw_X11_whyNotBoth (d := d - 1) (x1 := x1) (x2 := x2) (by omega)  ht4 (by omega) (by omega) (by omega) hm) rfl (by omega) (Nat.le_of_ble_eq_true rfl) (Nat.zero_le _) (Nat.zero_le _) rfl (fun r6 hp5 n7 hq8 => ?_)
      obtain ⟨hnn7, bb_11, ht10, hrr6, hhq80, hhq81⟩ := hq8
      subst n7 r6
      have hhq80 : -2 ≤ bb_11 ∧ bb_11 ≤ -1 := hhq80
      have hhq81 : (bb_11 = -1 ∧ ¬ (0 ≤ x1 ∧ x1 < ct ∧ 0 ≤ x2 ∧ x2 < ct)) ∨ (bb_11 = -2 ∧ 0 ≤ x1 ∧ x1 < ct ∧ 0 ≤ x2 ∧ x2 < ct) := hhq81
      change Rn _ _ _ 29 _ [.int (iv bb_11), .ref a] _ _ _ _ _
      obtain ⟨fs16, hfs16⟩ := t_obj ht10 (rd_of CG_0)
      refine r_callV (pc := 29) (as := [.int (iv bb_11)]) (st := []) kX11_82 rfl dX11_partsByColumn_29 hfs16 (s_X11_refuse (d := d - 1) (x1 := bb_11) (by omega)  ht10 (by omega)) rfl (by omega) (Nat.le_of_ble_eq_true rfl) (Nat.zero_le _) (Nat.zero_le _) rfl (fun r13 hp12 n14 hq15 => ?_)
      obtain ⟨hnn14, ht17, hrr13⟩ := hq15
      subst n14 r13
      change Rn _ _ _ 32 _ [.int (iv bb_11)] _ _ _ _ _
      exact r_iret (pc := 32) dX11_partsByColumn_32 rfl ⟨by omega, Γ, ct, bb_11, th, kn, kd, ka, kf, kt, kw, kc, bb_11, (Ext_refl Γ), ht17, hk, rfl, by exact an2_r (by omega), by omega, fun h9 => ⟨by omega, rfl, rfl⟩, fun h9 => absurd h9 (by omega)⟩
    · obtain ⟨cM, cn, hc, hltc, hxc, heNc⟩ := id hTc
      have hfNc : Int.toNat (sz (Int.toNat x2)) = cn := by omega
      obtain ⟨hc_O, hc_numbers, hc_b⟩ := id hc
      refine r_astore (pc := 11) (lv' := [(4, .ref ca), (3, .null), (0, .ref a), (1, .int (iv x1)), (2, .int (iv x2))]) dX11_partsByColumn_11 (by decide) rfl ?_
      refine r_aload_nN (pc := 13) dX11_partsByColumn_13 (i := 3) rfl rfl ?_
      refine r_ifnullN (pc := 14) (tgt := 22) dX11_partsByColumn_14 (by decide) ?_
      refine r_aload_n (pc := 22) dX11_partsByColumn_22 (i := 0) rfl rfl ?_
      refine r_aload_n (pc := 23) dX11_partsByColumn_23 (i := 0) rfl rfl ?_
      refine r_iload_n (pc := 24) dX11_partsByColumn_24 (i := 1) rfl rfl ?_
      refine r_iload_n (pc := 25) dX11_partsByColumn_25 (i := 2) rfl rfl ?_
      obtain ⟨fs22, hfs22⟩ := t_obj ht4 (rd_of CG_0)
      refine r_callV (pc := 26) (as := [.int (iv x1), .int (iv x2)]) (st := [.ref a]) kX11_127 rfl dX11_partsByColumn_26 hfs22 (uw_X11_whyNotBoth (d := d - 1) (x1 := x1) (x2 := x2) (by omega)  ht4 (by omega) (by omega) (by omega) hm) rfl (by omega) (Nat.le_of_ble_eq_true rfl) (Nat.zero_le _) (Nat.zero_le _) rfl (fun r19 hp18 n20 hq21 => ?_)
      obtain ⟨hnn20, bb_24, ht23, hrr19, hhq210, hhq211⟩ := hq21
      subst n20 r19
      have hhq210 : -2 ≤ bb_24 ∧ bb_24 ≤ -1 := hhq210
      have hhq211 : (bb_24 = -1 ∧ ¬ (0 ≤ x1 ∧ x1 < ct ∧ 0 ≤ x2 ∧ x2 < ct)) ∨ (bb_24 = -2 ∧ 0 ≤ x1 ∧ x1 < ct ∧ 0 ≤ x2 ∧ x2 < ct) := hhq211
      change Rn _ _ _ 29 _ [.int (iv bb_24), .ref a] _ _ _ _ _
      obtain ⟨fs29, hfs29⟩ := t_obj ht23 (rd_of CG_0)
      refine r_callV (pc := 29) (as := [.int (iv bb_24)]) (st := []) kX11_82 rfl dX11_partsByColumn_29 hfs29 (s_X11_refuse (d := d - 1) (x1 := bb_24) (by omega)  ht23 (by omega)) rfl (by omega) (Nat.le_of_ble_eq_true rfl) (Nat.zero_le _) (Nat.zero_le _) rfl (fun r26 hp25 n27 hq28 => ?_)
      obtain ⟨hnn27, ht30, hrr26⟩ := hq28
      subst n27 r26
      change Rn _ _ _ 32 _ [.int (iv bb_24)] _ _ _ _ _
      exact r_iret (pc := 32) dX11_partsByColumn_32 rfl ⟨by omega, Γ, ct, bb_24, th, kn, kd, ka, kf, kt, kw, kc, bb_24, (Ext_refl Γ), ht30, hk, rfl, by exact an2_r (by omega), by omega, fun h9 => ⟨by omega, rfl, rfl⟩, fun h9 => absurd h9 (by omega)⟩
  · obtain ⟨gF, gT, gW, gC, gTl, gHd, gBy, gOu, gIn, gJo, gn, gm, gq, gdr, Tl, Hd, By, Ou, In, Jo, gpos, hg, hltg, hxg, hgog, houg, hing, hjog, heNg, heDg, heMg⟩ := id hTg
    have hfNg : Int.toNat (sz (Int.toNat x1)) = gn := by omega
    have hfMg : Int.toNat (mn (Int.toNat x1)) = gm := by omega
    obtain ⟨hg_O, hg_from, hg_to, hg_weight, hg_cost, hg_tail, hg_head, hg_by, hg_out, hg_in, hg_joined, hg_b⟩ := id hg
    refine r_astore_n (pc := 5) (lv' := [(3, .ref ga), (0, .ref a), (1, .int (iv x1)), (2, .int (iv x2))]) dX11_partsByColumn_5 (i := 3) rfl (by decide) rfl ?_
    refine r_aload_n (pc := 6) dX11_partsByColumn_6 (i := 0) rfl rfl ?_
    refine r_iload_n (pc := 7) dX11_partsByColumn_7 (i := 2) rfl rfl ?_
    refine u_columnAt (pc := 8) (x := x2) (st := []) hct hm ht2 kX11_170 dX11_partsByColumn_8 (by omega) (Nat.le_of_ble_eq_true rfl) (by omega) (fun hp31 ht32 hnoc => ?_) (fun hp31 ca ht32 hyec hTc => ?_)
    · refine r_astoreN (pc := 11) (lv' := [(4, .null), (3, .ref ga), (0, .ref a), (1, .int (iv x1)), (2, .int (iv x2))]) dX11_partsByColumn_11 (by decide) rfl ?_
      refine r_aload_n (pc := 13) dX11_partsByColumn_13 (i := 3) rfl rfl ?_
      refine r_ifnull (pc := 14) dX11_partsByColumn_14 ?_
      refine r_aloadN (pc := 17) dX11_partsByColumn_17 rfl ?_
      refine r_ifnonnullN (pc := 19) dX11_partsByColumn_19 ?_
      refine r_aload_n (pc := 22) dX11_partsByColumn_22 (i := 0) rfl rfl ?_
      refine r_aload_n (pc := 23) dX11_partsByColumn_23 (i := 0) rfl rfl ?_
      refine r_iload_n (pc := 24) dX11_partsByColumn_24 (i := 1) rfl rfl ?_
      refine r_iload_n (pc := 25) dX11_partsByColumn_25 (i := 2) rfl rfl ?_
      obtain ⟨fs37, hfs37⟩ := t_obj ht32 (rd_of CG_0)
      refine r_callV (pc := 26) (as := [.int (iv x1), .int (iv x2)]) (st := [.ref a]) kX11_127 rfl dX11_partsByColumn_26 hfs37 (uw_X11_whyNotBoth (d := d - 1) (x1 := x1) (x2 := x2) (by omega)  ht32 (by omega) (by omega) (by omega) hm) rfl (by omega) (Nat.le_of_ble_eq_true rfl) (Nat.zero_le _) (Nat.zero_le _) rfl (fun r34 hp33 n35 hq36 => ?_)
      obtain ⟨hnn35, bb_39, ht38, hrr34, hhq360, hhq361⟩ := hq36
      subst n35 r34
      have hhq360 : -2 ≤ bb_39 ∧ bb_39 ≤ -1 := hhq360
      have hhq361 : (bb_39 = -1 ∧ ¬ (0 ≤ x1 ∧ x1 < ct ∧ 0 ≤ x2 ∧ x2 < ct)) ∨ (bb_39 = -2 ∧ 0 ≤ x1 ∧ x1 < ct ∧ 0 ≤ x2 ∧ x2 < ct) := hhq361
      change Rn _ _ _ 29 _ [.int (iv bb_39), .ref a] _ _ _ _ _
      obtain ⟨fs44, hfs44⟩ := t_obj ht38 (rd_of CG_0)
      refine r_callV (pc := 29) (as := [.int (iv bb_39)]) (st := []) kX11_82 rfl dX11_partsByColumn_29 hfs44 (s_X11_refuse (d := d - 1) (x1 := bb_39) (by omega)  ht38 (by omega)) rfl (by omega) (Nat.le_of_ble_eq_true rfl) (Nat.zero_le _) (Nat.zero_le _) rfl (fun r41 hp40 n42 hq43 => ?_)
      obtain ⟨hnn42, ht45, hrr41⟩ := hq43
      subst n42 r41
      change Rn _ _ _ 32 _ [.int (iv bb_39)] _ _ _ _ _
      exact r_iret (pc := 32) dX11_partsByColumn_32 rfl ⟨by omega, Γ, ct, bb_39, th, kn, kd, ka, kf, kt, kw, kc, bb_39, (Ext_refl Γ), ht45, hk, rfl, by exact an2_r (by omega), by omega, fun h9 => ⟨by omega, rfl, rfl⟩, fun h9 => absurd h9 (by omega)⟩
    · obtain ⟨cM, cn, hc, hltc, hxc, heNc⟩ := id hTc
      have hfNc : Int.toNat (sz (Int.toNat x2)) = cn := by omega
      obtain ⟨hc_O, hc_numbers, hc_b⟩ := id hc
      refine r_astore (pc := 11) (lv' := [(4, .ref ca), (3, .ref ga), (0, .ref a), (1, .int (iv x1)), (2, .int (iv x2))]) dX11_partsByColumn_11 (by decide) rfl ?_
      refine r_aload_n (pc := 13) dX11_partsByColumn_13 (i := 3) rfl rfl ?_
      refine r_ifnull (pc := 14) dX11_partsByColumn_14 ?_
      refine r_aload (pc := 17) dX11_partsByColumn_17 rfl ?_
      refine r_ifnonnull (pc := 19) (tgt := 33) dX11_partsByColumn_19 (by decide) ?_
      refine r_aload_n (pc := 33) dX11_partsByColumn_33 (i := 3) rfl rfl ?_
      refine t_getE (pc := 34) (.int (iv (gn : Int))) ht32 (rd_CG (by omega) hg_O) fX11_134 dX11_partsByColumn_34 rfl ?_
      refine r_aload (pc := 37) dX11_partsByColumn_37 rfl ?_
      refine t_getE (pc := 39) (.int (iv (cn : Int))) ht32 (rd_CG (by omega) hc_O) fX11_174 dX11_partsByColumn_39 rfl ?_
      refine t_icmp_eq (pc := 42) (tgt := 52) dX11_partsByColumn_42 (by decide) (by omega) (by omega) (fun c42 => ?_) (fun c42 => ?_)
      · obtain rfl : gn = cn := by omega
        refine r_aload_n (pc := 52) dX11_partsByColumn_52 (i := 0) rfl rfl ?_
        obtain ⟨fs50, hfs50⟩ := t_obj ht32 (rd_of CG_0)
        refine r_callV (pc := 53) (as := []) (st := []) kX11_93 rfl dX11_partsByColumn_53 hfs50 (s_X11_isFull (d := d - 1)  (by omega)  ht32  (by omega)) rfl (by omega) (Nat.le_of_ble_eq_true rfl) (Nat.zero_le _) (Nat.zero_le _) rfl (fun r47 hp46 n48 hq49 => ?_)
        obtain ⟨hnn48, bb_52, ht51, hrr47, hhq490⟩ := hq49
        subst n48 r47
        have hhq490 : (bb_52 = 1 ∧ 120 ≤ ct) ∨ (bb_52 = 0 ∧ ct < 120) := hhq490
        change Rn _ _ _ 56 _ [.int (iv bb_52)] _ _ _ _ _
        refine t_if_eq (pc := 56) (tgt := 68) dX11_partsByColumn_56 (by decide) (by omega) (fun c56 => ?_) (fun c56 => ?_)
        · refine r_aload_n (pc := 68) dX11_partsByColumn_68 (i := 0) rfl rfl ?_
          refine Rn.bd (fun bd9 => ?_)
          refine w_new (pc := 69) (fs := [.int 0, .int 0, .null, .null]) nX11_145 tyX5 tyX5_ok (by decide +kernel) dX11_partsByColumn_69 (by omega) (by omega) (fun hpN hN1 hN2 hN3 => ?_)
          have htN := Tw_fr ht51 hN2
          refine r_dup (pc := 72) dX11_partsByColumn_72 rfl ?_
          refine r_aload_n (pc := 73) dX11_partsByColumn_73 (i := 3) rfl rfl ?_
          refine r_iconst (pc := 74) (v := iv 4) dX11_partsByColumn_74 (by decide) ?_
          refine r_aload (pc := 75) dX11_partsByColumn_75 rfl ?_
          refine r_callI (pc := 77) (as := [.ref ga, .int (iv 4), .ref ca]) (st := [.ref n, .ref a]) kX11_196 dX11_partsByColumn_77 (c_X5_initx_4 (d := d - 1) (x2 := 4) (nuc := sj nu (16 * x2)) (by omega) (TyG.cg (by omega) hg) (XG.cg (by omega) hxg) hN1 (Tw_lo ht51 bd9) htN (by omega) houg hing hjog (rd_CG (by omega) hc_O) (rd_CG (by omega) hxc)) rfl (by omega) (Nat.le_of_ble_eq_true rfl) (by omega) (by omega) rfl (fun r9 hp9 n9 q9 => ?_)
          obtain ⟨hn9, hr9, Γ1, z9, vu9, vo9, hE1, ht9, hP1, hP2, hP3, hP4, hP5, hP6⟩ := q9
          subst r9
          have hWQ := WQ_mk (a := a) ht9 hP1 hna hP2 hP3 hP4 hP5 hP6 heNg rfl
          obtain ⟨Γ2, hE2, eq2⟩ := CG_x hE1
          rw [← eq2] at ht9 hP1 hWQ
          have hWQ2 := WQ_un trivial hWQ
          have hg := TyG.ext hE2 hg
          obtain ⟨hg_O, hg_from, hg_to, hg_weight, hg_cost, hg_tail, hg_head, hg_by, hg_out, hg_in, hg_joined, hg_b⟩ := id hg
          have hxg := XG.ext hE2 hxg
          have hc := TyC.ext hE2 hc
          obtain ⟨hc_O, hc_numbers, hc_b⟩ := id hc
          have hse := TySets.ext hE2 hse
          have hsh := TyShape.ext hE2 hsh
          have hfl := TyFlows.ext hE2 hfl
          obtain ⟨Z9, q8, hQX, -, -⟩ := id hWQ2
          have hth2 := hQX.th
          change Rn _ _ _ 80 _ [.ref n, .ref a] _ _ _ _ _
          obtain ⟨Fs9, hv9, hl9⟩ := ThQ_rd hth2
          obtain ⟨fs58, hfs58⟩ := t_obj ht9 (rd_of CG_0)
          refine r_callV (pc := 80) (as := [.ref n]) (st := []) kX11_102 rfl dX11_partsByColumn_80 hfs58 (t_X11_keep (d := d - 1) (r0 := (RX5, TX5, 4)) (by omega) (by omega) (rd_CG (by omega) hv9) rfl (show (RX5, "GraphEngine$Thing") ∈ cas by decide +kernel) ht9) rfl (by omega) (Nat.le_of_ble_eq_true rfl) (Nat.zero_le _) (Nat.zero_le _) rfl (fun r53 hp54 n55 hq56 => ?_)
          obtain ⟨hnn55, ht57, hrr53⟩ := hq56
          subst n55 r53
          change Rn _ _ _ 83 _ [.int (iv ct)] _ _ _ _ _
          exact r_iret (pc := 83) dX11_partsByColumn_83 rfl ⟨by omega, Γ2, (ct + 1), rv, (va_up th (ct).toNat (some n)), kn, kd, ka, kf, kt, kw, kc, ct, (Ext_tr (Ext_refl Γ) hE2), ht57, (EK.keep (EK.ext hE2 hk) (by omega) (Or.inr (Or.inr (Or.inr hth2)))), rfl, by exact an2_m (hdQ_n (by omega)).symm (by omega) (by omega), by omega, fun h9 => absurd h9 (by omega), fun _ => ⟨by omega, rfl, n, rfl, by rw [hfMg, heDg]; exact hWQ2⟩⟩
        · refine r_aload_n (pc := 59) dX11_partsByColumn_59 (i := 0) rfl rfl ?_
          refine r_bipush (pc := 60) (v := iv (-4)) dX11_partsByColumn_60 (by decide) ?_
          obtain ⟨fs63, hfs63⟩ := t_obj ht51 (rd_of CG_0)
          refine r_callV (pc := 62) (as := [.int (iv (-4))]) (st := []) kX11_82 rfl dX11_partsByColumn_62 hfs63 (s_X11_refuse (d := d - 1) (x1 := (-4)) (by omega)  ht51 (by omega)) rfl (by omega) (Nat.le_of_ble_eq_true rfl) (Nat.zero_le _) (Nat.zero_le _) rfl (fun r60 hp59 n61 hq62 => ?_)
          obtain ⟨hnn61, ht64, hrr60⟩ := hq62
          subst n61 r60
          change Rn _ _ _ 65 _ [.int (iv (-4))] _ _ _ _ _
          refine r_goto (pc := 65) (tgt := 83) dX11_partsByColumn_65 (by decide) ?_
          exact r_iret (pc := 83) dX11_partsByColumn_83 rfl ⟨by omega, Γ, ct, (-4), th, kn, kd, ka, kf, kt, kw, kc, (-4), (Ext_refl Γ), ht64, hk, rfl, by exact an2_m (hdQ_y (by omega)).symm (by omega) (by omega), by omega, fun h9 => ⟨by omega, rfl, rfl⟩, fun h9 => absurd h9 (by omega)⟩
      · refine r_aload_n (pc := 45) dX11_partsByColumn_45 (i := 0) rfl rfl ?_
        refine r_bipush (pc := 46) (v := iv (-3)) dX11_partsByColumn_46 (by decide) ?_
        obtain ⟨fs69, hfs69⟩ := t_obj ht32 (rd_of CG_0)
        refine r_callV (pc := 48) (as := [.int (iv (-3))]) (st := []) kX11_82 rfl dX11_partsByColumn_48 hfs69 (s_X11_refuse (d := d - 1) (x1 := (-3)) (by omega)  ht32 (by omega)) rfl (by omega) (Nat.le_of_ble_eq_true rfl) (Nat.zero_le _) (Nat.zero_le _) rfl (fun r66 hp65 n67 hq68 => ?_)
        obtain ⟨hnn67, ht70, hrr66⟩ := hq68
        subst n67 r66
        change Rn _ _ _ 51 _ [.int (iv (-3))] _ _ _ _ _
        exact r_iret (pc := 51) dX11_partsByColumn_51 rfl ⟨by omega, Γ, ct, (-3), th, kn, kd, ka, kf, kt, kw, kc, (-3), (Ext_refl Γ), ht70, hk, rfl, by exact an2_b (by omega) (by omega) (by omega), by omega, fun h9 => ⟨by omega, rfl, rfl⟩, fun h9 => absurd h9 (by omega)⟩
set_option maxHeartbeats 4000000 in
set_option maxRecDepth 100000 in
theorem y_X11_parts_n {D : va_G} {cI cJ cZ cT : ClassId} {lo b L : Nat} {xs : Nat → Int32} {hp : MH} {n d : Nat} {Γ : TG} {a : Nat} {ct : Int} {rv : Int} {th : Nat → Option Nat} {dn : Int} {dd : Int} {da : Int} {df : Nat → Int} {dt : Nat → Int} {dw : Nat → Int} {dc : Nat → Int} {kn : Int} {kd : Int} {ka : Int} {kf : Nat → Int} {kt : Nat → Int} {kw : Nat → Int} {kc : Nat → Int} {so sz dr mn fr tt wt co : Nat → Int} {nu : Nat → Int64} {qi qc : Nat → Int} {x1 x2 x3 : Int} (hd0 : 4 ≤ d) (hk : EK Γ cI cJ cZ a ct th dn dd da df dt dw dc kn kd ka) (hm : HM Γ cI cJ cZ a ct th so sz dr mn fr tt wt co nu qi qc) (hrv : -2147483648 ≤ rv ∧ rv ≤ 2147483647) (hna : a + 84 ≤ n) (ht : Tw (CG Γ cI cJ cZ cT a ct rv th dn dd da df dt dw dc kn kd ka kf kt kw kc) hp) (hx1 : (-2147483648) ≤ x1 ∧ x1 ≤ 2147483647) (hx2 : (-2147483648) ≤ x2 ∧ x2 ≤ 2147483647) (hx3 : (-2147483648) ≤ x3 ∧ x3 ≤ 2147483647) (h4 : x2 ≠ 4) : Mt (gG D cI cJ cZ cT lo b L xs) mX11_parts d 4 52 [.ref a, .int (iv x1), .int (iv x2), .int (iv x3)] hp n (qM Γ cI cJ cZ cT a dn dd da df dt dw dc n ct th (an1 ct so x1 1 (x2 < 0 ∨ 4 < x2) (ct = 120)) (fun Γ1 t => WQ Γ1 cI cJ cZ a (sz (Int.toNat x1)) (ptE (Int.toNat (mn (Int.toNat x1))) (dr (Int.toNat x1)) (sh fr (60 * x1)) (sh tt (60 * x1)) (sj nu (16 * x3)) x2) t)) := by
  refine Mt.of rfl (Nat.le_of_ble_eq_true rfl) ?_
  refine Rn.pick (lv' := [(0, .ref a), (1, .int (iv x1)), (2, .int (iv x2)), (3, .int (iv x3))]) [0, 1, 2, 3] rfl ?_
  obtain ⟨hct, hth, ⟨hdn, hdd1, hda, har⟩, ⟨hkn, hkd, hka⟩, hsh, hse, hpr, hfl, hsm⟩ := id hk
  refine r_aload_n (pc := 0) dX11_parts_0 (i := 0) rfl rfl ?_
  refine r_iconst (pc := 1) (v := iv 0) dX11_parts_1 (by decide) ?_
  refine t_putX (pc := 2) (ty := .int) ht CG_0 fX11_19 tyX11 tyX11_ok nmX11 (by decide +kernel) (Or.inl rfl) dX11_parts_2 (Nat.le_of_ble_eq_true rfl) rfl rfl rfl (fun hp1 ht2 => ?_)
  have ht3 := RGw_rv ht2
  refine r_iload_n (pc := 5) dX11_parts_5 (i := 2) rfl rfl ?_
  refine r_iconst (pc := 6) (v := iv 4) dX11_parts_6 (by decide) ?_
  refine t_icmp_ne (pc := 7) (tgt := 17) dX11_parts_7 (by decide) (by omega) (by omega) (fun c7 => ?_) (fun c7 => ?_)
  · refine r_aload_n (pc := 17) dX11_parts_17 (i := 0) rfl rfl ?_
    refine r_iload_n (pc := 18) dX11_parts_18 (i := 1) rfl rfl ?_
    refine u_graphAt (pc := 19) (x := x1) (st := []) hct hm ht3 kX11_106 dX11_parts_19 (by omega) (Nat.le_of_ble_eq_true rfl) (by omega) (fun hp4 ht5 hnog => ?_) (fun hp4 ga ht5 hyeg hTg => ?_)
    · refine r_astoreN (pc := 22) (lv' := [(4, .null), (0, .ref a), (1, .int (iv x1)), (2, .int (iv x2)), (3, .int (iv x3))]) dX11_parts_22 (by decide) rfl ?_
      refine r_aloadN (pc := 24) dX11_parts_24 rfl ?_
      refine r_ifnonnullN (pc := 26) dX11_parts_26 ?_
      refine r_aload_n (pc := 29) dX11_parts_29 (i := 0) rfl rfl ?_
      refine r_aload_n (pc := 30) dX11_parts_30 (i := 0) rfl rfl ?_
      refine r_iload_n (pc := 31) dX11_parts_31 (i := 1) rfl rfl ?_
      obtain ⟨fs10, hfs10⟩ := t_obj ht5 (rd_of CG_0)
      refine r_callV (pc := 32) (as := [.int (iv x1)]) (st := [.ref a]) kX11_110 rfl dX11_parts_32 hfs10 (uw_X11_whyNot (d := d - 1) (x1 := x1) (by omega)  ht5 (by omega) (by omega) hm) rfl (by omega) (Nat.le_of_ble_eq_true rfl) (Nat.zero_le _) (Nat.zero_le _) rfl (fun r7 hp6 n8 hq9 => ?_)
      obtain ⟨hnn8, bb_12, ht11, hrr7, hhq90, hhq91⟩ := hq9
      subst n8 r7
      have hhq90 : -2 ≤ bb_12 ∧ bb_12 ≤ -1 := hhq90
      have hhq91 : (bb_12 = -1 ∧ ¬ (0 ≤ x1 ∧ x1 < ct)) ∨ (bb_12 = -2 ∧ 0 ≤ x1 ∧ x1 < ct) := hhq91
      change Rn _ _ _ 35 _ [.int (iv bb_12), .ref a] _ _ _ _ _
      obtain ⟨fs17, hfs17⟩ := t_obj ht11 (rd_of CG_0)
      refine r_callV (pc := 35) (as := [.int (iv bb_12)]) (st := []) kX11_82 rfl dX11_parts_35 hfs17 (s_X11_refuse (d := d - 1) (x1 := bb_12) (by omega)  ht11 (by omega)) rfl (by omega) (Nat.le_of_ble_eq_true rfl) (Nat.zero_le _) (Nat.zero_le _) rfl (fun r14 hp13 n15 hq16 => ?_)
      obtain ⟨hnn15, ht18, hrr14⟩ := hq16
      subst n15 r14
      change Rn _ _ _ 38 _ [.int (iv bb_12)] _ _ _ _ _
      exact r_iret (pc := 38) dX11_parts_38 rfl ⟨by omega, Γ, ct, bb_12, th, kn, kd, ka, kf, kt, kw, kc, bb_12, (Ext_refl Γ), ht18, hk, rfl, by exact an1_r (by omega), by omega, fun h9 => ⟨by omega, rfl, rfl⟩, fun h9 => absurd h9 (by omega)⟩
    · obtain ⟨gF, gT, gW, gC, gTl, gHd, gBy, gOu, gIn, gJo, gn, gm, gq, gdr, Tl, Hd, By, Ou, In, Jo, gpos, hg, hltg, hxg, hgog, houg, hing, hjog, heNg, heDg, heMg⟩ := id hTg
      have hfNg : Int.toNat (sz (Int.toNat x1)) = gn := by omega
      have hfMg : Int.toNat (mn (Int.toNat x1)) = gm := by omega
      obtain ⟨hg_O, hg_from, hg_to, hg_weight, hg_cost, hg_tail, hg_head, hg_by, hg_out, hg_in, hg_joined, hg_b⟩ := id hg
      refine r_astore (pc := 22) (lv' := [(4, .ref ga), (0, .ref a), (1, .int (iv x1)), (2, .int (iv x2)), (3, .int (iv x3))]) dX11_parts_22 (by decide) rfl ?_
      refine r_aload (pc := 24) dX11_parts_24 rfl ?_
      refine r_ifnonnull (pc := 26) (tgt := 39) dX11_parts_26 (by decide) ?_
      refine r_iload_n (pc := 39) dX11_parts_39 (i := 2) rfl rfl ?_
      refine t_if_lt (pc := 40) (tgt := 48) dX11_parts_40 (by decide) (by omega) (fun c40 => ?_) (fun c40 => ?_)
      · refine r_aload_n (pc := 48) dX11_parts_48 (i := 0) rfl rfl ?_
        refine r_bipush (pc := 49) (v := iv (-3)) dX11_parts_49 (by decide) ?_
        obtain ⟨fs23, hfs23⟩ := t_obj ht5 (rd_of CG_0)
        refine r_callV (pc := 51) (as := [.int (iv (-3))]) (st := []) kX11_82 rfl dX11_parts_51 hfs23 (s_X11_refuse (d := d - 1) (x1 := (-3)) (by omega)  ht5 (by omega)) rfl (by omega) (Nat.le_of_ble_eq_true rfl) (Nat.zero_le _) (Nat.zero_le _) rfl (fun r20 hp19 n21 hq22 => ?_)
        obtain ⟨hnn21, ht24, hrr20⟩ := hq22
        subst n21 r20
        change Rn _ _ _ 54 _ [.int (iv (-3))] _ _ _ _ _
        exact r_iret (pc := 54) dX11_parts_54 rfl ⟨by omega, Γ, ct, (-3), th, kn, kd, ka, kf, kt, kw, kc, (-3), (Ext_refl Γ), ht24, hk, rfl, by exact an1_b (by omega) (by omega) (by omega), by omega, fun h9 => ⟨by omega, rfl, rfl⟩, fun h9 => absurd h9 (by omega)⟩
      · refine r_iload_n (pc := 43) dX11_parts_43 (i := 2) rfl rfl ?_
        refine r_iconst (pc := 44) (v := iv 4) dX11_parts_44 (by decide) ?_
        refine t_icmp_le (pc := 45) (tgt := 55) dX11_parts_45 (by decide) (by omega) (by omega) (fun c45 => ?_) (fun c45 => ?_)
        · refine r_aload_n (pc := 55) dX11_parts_55 (i := 0) rfl rfl ?_
          obtain ⟨fs29, hfs29⟩ := t_obj ht5 (rd_of CG_0)
          refine r_callV (pc := 56) (as := []) (st := []) kX11_93 rfl dX11_parts_56 hfs29 (s_X11_isFull (d := d - 1)  (by omega)  ht5  (by omega)) rfl (by omega) (Nat.le_of_ble_eq_true rfl) (Nat.zero_le _) (Nat.zero_le _) rfl (fun r26 hp25 n27 hq28 => ?_)
          obtain ⟨hnn27, bb_31, ht30, hrr26, hhq280⟩ := hq28
          subst n27 r26
          have hhq280 : (bb_31 = 1 ∧ 120 ≤ ct) ∨ (bb_31 = 0 ∧ ct < 120) := hhq280
          change Rn _ _ _ 59 _ [.int (iv bb_31)] _ _ _ _ _
          refine t_if_eq (pc := 59) (tgt := 71) dX11_parts_59 (by decide) (by omega) (fun c59 => ?_) (fun c59 => ?_)
          · refine r_aload_n (pc := 71) dX11_parts_71 (i := 0) rfl rfl ?_
            refine Rn.bd (fun bd9 => ?_)
            refine w_new (pc := 72) (fs := [.int 0, .int 0, .null, .null]) nX11_145 tyX5 tyX5_ok (by decide +kernel) dX11_parts_72 (by omega) (by omega) (fun hpN hN1 hN2 hN3 => ?_)
            have htN := Tw_fr ht30 hN2
            refine r_dup (pc := 75) dX11_parts_75 rfl ?_
            refine r_aload (pc := 76) dX11_parts_76 rfl ?_
            refine r_iload_n (pc := 78) dX11_parts_78 (i := 2) rfl rfl ?_
            refine r_null (pc := 79) dX11_parts_79 ?_
            refine r_callI (pc := 80) (as := [.ref ga, .int (iv x2), .null]) (st := [.ref n, .ref a]) kX11_196 dX11_parts_80 (c_X5_initx_n (d := d - 1) (x2 := x2) (nuc := sj nu (16 * x3)) (by omega) (TyG.cg (by omega) hg) (XG.cg (by omega) hxg) hN1 (Tw_lo ht30 bd9) htN (by omega) houg hing hjog) rfl (by omega) (Nat.le_of_ble_eq_true rfl) (by omega) (by omega) rfl (fun r9 hp9 n9 q9 => ?_)
            obtain ⟨hn9, hr9, Γ1, z9, vu9, vo9, hE1, ht9, hP1, hP2, hP3, hP4, hP5, hP6⟩ := q9
            subst r9
            have hWQ := WQ_mk (a := a) ht9 hP1 hna hP2 hP3 hP4 hP5 hP6 heNg rfl
            obtain ⟨Γ2, hE2, eq2⟩ := CG_x hE1
            rw [← eq2] at ht9 hP1 hWQ
            have hWQ2 := WQ_un trivial hWQ
            have hg := TyG.ext hE2 hg
            obtain ⟨hg_O, hg_from, hg_to, hg_weight, hg_cost, hg_tail, hg_head, hg_by, hg_out, hg_in, hg_joined, hg_b⟩ := id hg
            have hxg := XG.ext hE2 hxg
            have hse := TySets.ext hE2 hse
            have hsh := TyShape.ext hE2 hsh
            have hfl := TyFlows.ext hE2 hfl
            obtain ⟨Z9, q8, hQX, -, -⟩ := id hWQ2
            have hth2 := hQX.th
            change Rn _ _ _ 83 _ [.ref n, .ref a] _ _ _ _ _
            obtain ⟨Fs9, hv9, hl9⟩ := ThQ_rd hth2
            obtain ⟨fs37, hfs37⟩ := t_obj ht9 (rd_of CG_0)
            refine r_callV (pc := 83) (as := [.ref n]) (st := []) kX11_102 rfl dX11_parts_83 hfs37 (t_X11_keep (d := d - 1) (r0 := (RX5, TX5, 4)) (by omega) (by omega) (rd_CG (by omega) hv9) rfl (show (RX5, "GraphEngine$Thing") ∈ cas by decide +kernel) ht9) rfl (by omega) (Nat.le_of_ble_eq_true rfl) (Nat.zero_le _) (Nat.zero_le _) rfl (fun r32 hp33 n34 hq35 => ?_)
            obtain ⟨hnn34, ht36, hrr32⟩ := hq35
            subst n34 r32
            change Rn _ _ _ 86 _ [.int (iv ct)] _ _ _ _ _
            exact r_iret (pc := 86) dX11_parts_86 rfl ⟨by omega, Γ2, (ct + 1), 0, (va_up th (ct).toNat (some n)), kn, kd, ka, kf, kt, kw, kc, ct, (Ext_tr (Ext_refl Γ) hE2), ht36, (EK.keep (EK.ext hE2 hk) (by omega) (Or.inr (Or.inr (Or.inr hth2)))), rfl, by exact an1_m (hdQ_n (by omega)).symm (by omega) (by omega), by omega, fun h9 => absurd h9 (by omega), fun _ => ⟨by omega, rfl, n, rfl, by rw [hfMg, heDg]; exact hWQ2⟩⟩
          · refine r_aload_n (pc := 62) dX11_parts_62 (i := 0) rfl rfl ?_
            refine r_bipush (pc := 63) (v := iv (-4)) dX11_parts_63 (by decide) ?_
            obtain ⟨fs42, hfs42⟩ := t_obj ht30 (rd_of CG_0)
            refine r_callV (pc := 65) (as := [.int (iv (-4))]) (st := []) kX11_82 rfl dX11_parts_65 hfs42 (s_X11_refuse (d := d - 1) (x1 := (-4)) (by omega)  ht30 (by omega)) rfl (by omega) (Nat.le_of_ble_eq_true rfl) (Nat.zero_le _) (Nat.zero_le _) rfl (fun r39 hp38 n40 hq41 => ?_)
            obtain ⟨hnn40, ht43, hrr39⟩ := hq41
            subst n40 r39
            change Rn _ _ _ 68 _ [.int (iv (-4))] _ _ _ _ _
            refine r_goto (pc := 68) (tgt := 86) dX11_parts_68 (by decide) ?_
            exact r_iret (pc := 86) dX11_parts_86 rfl ⟨by omega, Γ, ct, (-4), th, kn, kd, ka, kf, kt, kw, kc, (-4), (Ext_refl Γ), ht43, hk, rfl, by exact an1_m (hdQ_y (by omega)).symm (by omega) (by omega), by omega, fun h9 => ⟨by omega, rfl, rfl⟩, fun h9 => absurd h9 (by omega)⟩
        · refine r_aload_n (pc := 48) dX11_parts_48 (i := 0) rfl rfl ?_
          refine r_bipush (pc := 49) (v := iv (-3)) dX11_parts_49 (by decide) ?_
          obtain ⟨fs48, hfs48⟩ := t_obj ht5 (rd_of CG_0)
          refine r_callV (pc := 51) (as := [.int (iv (-3))]) (st := []) kX11_82 rfl dX11_parts_51 hfs48 (s_X11_refuse (d := d - 1) (x1 := (-3)) (by omega)  ht5 (by omega)) rfl (by omega) (Nat.le_of_ble_eq_true rfl) (Nat.zero_le _) (Nat.zero_le _) rfl (fun r45 hp44 n46 hq47 => ?_)
          obtain ⟨hnn46, ht49, hrr45⟩ := hq47
          subst n46 r45
          change Rn _ _ _ 54 _ [.int (iv (-3))] _ _ _ _ _
          exact r_iret (pc := 54) dX11_parts_54 rfl ⟨by omega, Γ, ct, (-3), th, kn, kd, ka, kf, kt, kw, kc, (-3), (Ext_refl Γ), ht49, hk, rfl, by exact an1_b (by omega) (by omega) (by omega), by omega, fun h9 => ⟨by omega, rfl, rfl⟩, fun h9 => absurd h9 (by omega)⟩
  · exfalso
    omega
set_option maxHeartbeats 4000000 in
set_option maxRecDepth 100000 in
theorem y_X11_parts_c {D : va_G} {cI cJ cZ cT : ClassId} {lo b L : Nat} {xs : Nat → Int32} {hp : MH} {n d : Nat} {Γ : TG} {a : Nat} {ct : Int} {rv : Int} {th : Nat → Option Nat} {dn : Int} {dd : Int} {da : Int} {df : Nat → Int} {dt : Nat → Int} {dw : Nat → Int} {dc : Nat → Int} {kn : Int} {kd : Int} {ka : Int} {kf : Nat → Int} {kt : Nat → Int} {kw : Nat → Int} {kc : Nat → Int} {so sz dr mn fr tt wt co : Nat → Int} {nu : Nat → Int64} {qi qc : Nat → Int} {x1 x2 x3 : Int} (hd0 : 5 ≤ d) (hk : EK Γ cI cJ cZ a ct th dn dd da df dt dw dc kn kd ka) (hm : HM Γ cI cJ cZ a ct th so sz dr mn fr tt wt co nu qi qc) (hrv : -2147483648 ≤ rv ∧ rv ≤ 2147483647) (hna : a + 84 ≤ n) (ht : Tw (CG Γ cI cJ cZ cT a ct rv th dn dd da df dt dw dc kn kd ka kf kt kw kc) hp) (hx1 : (-2147483648) ≤ x1 ∧ x1 ≤ 2147483647) (hx2 : 4 ≤ x2 ∧ x2 ≤ 4) (hx3 : (-2147483648) ≤ x3 ∧ x3 ≤ 2147483647) : Mt (gG D cI cJ cZ cT lo b L xs) mX11_parts d 4 52 [.ref a, .int (iv x1), .int (iv x2), .int (iv x3)] hp n (qM Γ cI cJ cZ cT a dn dd da df dt dw dc n ct th (an2 ct so x1 1 x3 2 (sz (Int.toNat x3) ≠ sz (Int.toNat x1)) (ct = 120)) (fun Γ1 t => WQ Γ1 cI cJ cZ a (sz (Int.toNat x1)) (ptE (Int.toNat (mn (Int.toNat x1))) (dr (Int.toNat x1)) (sh fr (60 * x1)) (sh tt (60 * x1)) (sj nu (16 * x3)) 4) t)) := by
  refine Mt.of rfl (Nat.le_of_ble_eq_true rfl) ?_
  refine Rn.pick (lv' := [(0, .ref a), (1, .int (iv x1)), (2, .int (iv x2)), (3, .int (iv x3))]) [0, 1, 2, 3] rfl ?_
  obtain ⟨hct, hth, ⟨hdn, hdd1, hda, har⟩, ⟨hkn, hkd, hka⟩, hsh, hse, hpr, hfl, hsm⟩ := id hk
  refine r_aload_n (pc := 0) dX11_parts_0 (i := 0) rfl rfl ?_
  refine r_iconst (pc := 1) (v := iv 0) dX11_parts_1 (by decide) ?_
  refine t_putX (pc := 2) (ty := .int) ht CG_0 fX11_19 tyX11 tyX11_ok nmX11 (by decide +kernel) (Or.inl rfl) dX11_parts_2 (Nat.le_of_ble_eq_true rfl) rfl rfl rfl (fun hp1 ht2 => ?_)
  have ht3 := RGw_rv ht2
  refine r_iload_n (pc := 5) dX11_parts_5 (i := 2) rfl rfl ?_
  refine r_iconst (pc := 6) (v := iv 4) dX11_parts_6 (by decide) ?_
  refine t_icmp_ne (pc := 7) (tgt := 17) dX11_parts_7 (by decide) (by omega) (by omega) (fun c7 => ?_) (fun c7 => ?_)
  · exfalso
    omega
  · refine r_aload_n (pc := 10) dX11_parts_10 (i := 0) rfl rfl ?_
    refine r_iload_n (pc := 11) dX11_parts_11 (i := 1) rfl rfl ?_
    refine r_iload_n (pc := 12) dX11_parts_12 (i := 3) rfl rfl ?_
    obtain ⟨fs9, hfs9⟩ := t_obj ht3 (rd_of CG_0)
    refine r_callV (pc := 13) (as := [.int (iv x1), .int (iv x3)]) (st := []) kX11_193 rfl dX11_parts_13 hfs9 (y_X11_partsByColumn (d := d - 1) (x1 := x1) (x2 := x3) (by omega) hk hm (by omega) (by omega) ht3 (by omega) (by omega) (by omega)) rfl (by omega) (Nat.le_of_ble_eq_true rfl) (by omega) (by omega) rfl (fun r4 hp5 n6 hq7 => ?_)
    obtain ⟨hn8, Γ8, ct8, rv8, th8, kn8, kd8, ka8, kf8, kt8, kw8, kc8, v8, hE8, ht8, hk8, hr8, hA8, hb8, hneg8, hpos8⟩ := hq7
    subst r4
    change Rn _ _ _ 16 _ [.int (iv v8)] _ _ _ _ _
    exact r_iret (pc := 16) dX11_parts_16 rfl ⟨hn8, Γ8, ct8, rv8, th8, kn8, kd8, ka8, kf8, kt8, kw8, kc8, v8, hE8, ht8, hk8, rfl, hA8, hb8, hneg8, hpos8⟩
set_option maxHeartbeats 4000000 in
set_option maxRecDepth 100000 in
theorem y_X11_parts {D : va_G} {cI cJ cZ cT : ClassId} {lo b L : Nat} {xs : Nat → Int32} {hp : MH} {n d : Nat} {Γ : TG} {a : Nat} {ct : Int} {rv : Int} {th : Nat → Option Nat} {dn : Int} {dd : Int} {da : Int} {df : Nat → Int} {dt : Nat → Int} {dw : Nat → Int} {dc : Nat → Int} {kn : Int} {kd : Int} {ka : Int} {kf : Nat → Int} {kt : Nat → Int} {kw : Nat → Int} {kc : Nat → Int} {so sz dr mn fr tt wt co : Nat → Int} {nu : Nat → Int64} {qi qc : Nat → Int} {x1 x2 x3 : Int} (hd0 : 5 ≤ d) (hk : EK Γ cI cJ cZ a ct th dn dd da df dt dw dc kn kd ka) (hm : HM Γ cI cJ cZ a ct th so sz dr mn fr tt wt co nu qi qc) (hrv : -2147483648 ≤ rv ∧ rv ≤ 2147483647) (hna : a + 84 ≤ n) (ht : Tw (CG Γ cI cJ cZ cT a ct rv th dn dd da df dt dw dc kn kd ka kf kt kw kc) hp) (hx1 : -2147483648 ≤ x1 ∧ x1 ≤ 2147483647) (hx2 : -2147483648 ≤ x2 ∧ x2 ≤ 2147483647) (hx3 : -2147483648 ≤ x3 ∧ x3 ≤ 2147483647) : Mt (gG D cI cJ cZ cT lo b L xs) mX11_parts d 4 52 [.ref a, .int (iv x1), .int (iv x2), .int (iv x3)] hp n (qM Γ cI cJ cZ cT a dn dd da df dt dw dc n ct th (hdQ (x2 = 4) (an2 ct so x1 1 x3 2 (sz (Int.toNat x3) ≠ sz (Int.toNat x1)) (ct = 120)) (an1 ct so x1 1 (x2 < 0 ∨ 4 < x2) (ct = 120))) (fun Γ1 t => WQ Γ1 cI cJ cZ a (sz (Int.toNat x1)) (ptE (Int.toNat (mn (Int.toNat x1))) (dr (Int.toNat x1)) (sh fr (60 * x1)) (sh tt (60 * x1)) (sj nu (16 * x3)) x2) t)) := by
  by_cases h4 : x2 = 4
  · subst h4
    rw [hdQ_y rfl]
    exact y_X11_parts_c (by omega) hk hm hrv hna ht hx1 (by omega) hx3
  · rw [hdQ_n h4]
    exact y_X11_parts_n (by omega) hk hm hrv hna ht hx1 hx2 hx3 h4
set_option maxHeartbeats 4000000 in
set_option maxRecDepth 100000 in
theorem y_X11_graph {D : va_G} {cI cJ cZ cT : ClassId} {lo b L : Nat} {xs : Nat → Int32} {hp : MH} {n d : Nat} {Γ : TG} {a : Nat} {ct : Int} {rv : Int} {th : Nat → Option Nat} {dn : Int} {dd : Int} {da : Int} {df : Nat → Int} {dt : Nat → Int} {dw : Nat → Int} {dc : Nat → Int} {kn : Int} {kd : Int} {ka : Int} {kf : Nat → Int} {kt : Nat → Int} {kw : Nat → Int} {kc : Nat → Int} {so sz dr mn fr tt wt co : Nat → Int} {nu : Nat → Int64} {qi qc : Nat → Int} (hd0 : 3 ≤ d) (hk : EK Γ cI cJ cZ a ct th dn dd da df dt dw dc kn kd ka) (hm : HM Γ cI cJ cZ a ct th so sz dr mn fr tt wt co nu qi qc) (hrv : -2147483648 ≤ rv ∧ rv ≤ 2147483647) (hna : a + 84 ≤ n) (ht : Tw (CG Γ cI cJ cZ cT a ct rv th dn dd da df dt dw dc kn kd ka kf kt kw kc) hp)  (hdq : DQ dn dd da df dt dw dc sz dr mn fr tt wt co) : Mt (gG D cI cJ cZ cT lo b L xs) mX11_graph d 11 662 [.ref a] hp n (qM Γ cI cJ cZ cT a dn dd da df dt dw dc n ct th (hdQ (60 < (((acc (cpE (sh fr 7200) (sh tt 7200) (sh wt 7200) (sh co 7200) 0) (Int.toNat (mn 120)))).length : Int) ∨ ct = 120) (-4) ct) (fun Γ1 t => WG Γ1 cI cJ cZ a (sz 120) (dr 120) (acc (cpE (sh fr 7200) (sh tt 7200) (sh wt 7200) (sh co 7200) 0) (Int.toNat (mn 120))) t)) := by
  refine Mt.of rfl (Nat.le_of_ble_eq_true rfl) ?_
  refine Rn.pick (lv' := [(0, .ref a)]) [0] rfl ?_
  obtain ⟨hct, hth, ⟨hdn, hdd1, hda, har⟩, ⟨hkn, hkd, hka⟩, hsh, hse, hpr, hfl, hsm⟩ := id hk
  have hlen : (((acc (cpE (sh fr 7200) (sh tt 7200) (sh wt 7200) (sh co 7200) 0) (Int.toNat (mn 120)))).length : Int) ≤ 60 := by have h9 := hdq.2.2.1; rw [cp_len]; omega
  refine r_aload_n (pc := 0) dX11_graph_0 (i := 0) rfl rfl ?_
  refine r_iconst (pc := 1) (v := iv 0) dX11_graph_1 (by decide) ?_
  refine t_putX (pc := 2) (ty := .int) ht CG_0 fX11_19 tyX11 tyX11_ok nmX11 (by decide +kernel) (Or.inl rfl) dX11_graph_2 (Nat.le_of_ble_eq_true rfl) rfl rfl rfl (fun hp1 ht2 => ?_)
  have ht3 := RGw_rv ht2
  refine r_aload_n (pc := 5) dX11_graph_5 (i := 0) rfl rfl ?_
  obtain ⟨fs8, hfs8⟩ := t_obj ht3 (rd_of CG_0)
  refine r_callV (pc := 6) (as := []) (st := []) kX11_93 rfl dX11_graph_6 hfs8 (s_X11_isFull (d := d - 1)  (by omega)  ht3  (by omega)) rfl (by omega) (Nat.le_of_ble_eq_true rfl) (Nat.zero_le _) (Nat.zero_le _) rfl (fun r5 hp4 n6 hq7 => ?_)
  obtain ⟨hnn6, bb_10, ht9, hrr5, hhq70⟩ := hq7
  subst n6 r5
  have hhq70 : (bb_10 = 1 ∧ 120 ≤ ct) ∨ (bb_10 = 0 ∧ ct < 120) := hhq70
  change Rn _ _ _ 9 _ [.int (iv bb_10)] _ _ _ _ _
  refine t_if_eq (pc := 9) (tgt := 21) dX11_graph_9 (by decide) (by omega) (fun c9 => ?_) (fun c9 => ?_)
  · refine r_aload_n (pc := 21) dX11_graph_21 (i := 0) rfl rfl ?_
    refine Rn.bd (fun bd9 => ?_)
    refine w_new (pc := 22) (fs := [.int 0, .int 0, .int 0, .null, .null, .null, .null, .int 0, .null, .null, .null, .null, .null, .null]) nX11_97 tyX3 tyX3_ok (by decide +kernel) dX11_graph_22 (by omega) (by omega) (fun hpN hN1 hN2 hN3 => ?_)
    have htN := Tw_fr ht9 hN2
    refine r_dup (pc := 25) dX11_graph_25 rfl ?_
    refine r_aload_n (pc := 26) dX11_graph_26 (i := 0) rfl rfl ?_
    refine t_getE (pc := 27) (.ref (a + 2)) htN (rd_of CG_0) fX11_25 dX11_graph_27 rfl ?_
    refine u_initG_dr (pc := 30) (st := [.ref n, .ref a]) ht9 bd9 hna hN2 hN1 (by omega) (by omega) (by omega) har kX11_99 dX11_graph_30 (by omega) (Nat.le_of_ble_eq_true rfl) (by omega) (by omega) (fun hp2 Γ2 wr2 hE2 ht2 hGX => ?_)
    have hse := TySets.ext hE2 hse
    have hsh := TyShape.ext hE2 hsh
    have hfl := TyFlows.ext hE2 hfl
    have hth2 := hGX.th
    obtain ⟨Fs9, hv9, hl9⟩ := ThG_rd hth2
    obtain ⟨fs16, hfs16⟩ := t_obj ht2 (rd_of CG_0)
    refine r_callV (pc := 33) (as := [.ref n]) (st := []) kX11_102 rfl dX11_graph_33 hfs16 (t_X11_keep (d := d - 1) (r0 := (RX3, TX3, 14)) (by omega) (by omega) (rd_CG (by omega) hv9) rfl (show (RX3, "GraphEngine$Thing") ∈ cas by decide +kernel) ht2) rfl (by omega) (Nat.le_of_ble_eq_true rfl) (Nat.zero_le _) (Nat.zero_le _) rfl (fun r11 hp12 n13 hq14 => ?_)
    obtain ⟨hnn13, ht15, hrr11⟩ := hq14
    subst n13 r11
    change Rn _ _ _ 36 _ [.int (iv ct)] _ _ _ _ _
    exact r_iret (pc := 36) dX11_graph_36 rfl ⟨by omega, Γ2, (ct + 1), 0, (va_up th (ct).toNat (some n)), kn, kd, ka, kf, kt, kw, kc, ct, (Ext_tr (Ext_refl Γ) hE2), ht15, (EK.keep (EK.ext hE2 hk) (by omega) (Or.inl hth2)), rfl, by exact (hdQ_n (by omega)).symm, by omega, fun h9 => absurd h9 (by omega), fun _ => ⟨by omega, rfl, n, rfl, WG_mk hGX (dq_PL hdq (by omega)) hdq.1 hdq.2.1⟩⟩
  · refine r_aload_n (pc := 12) dX11_graph_12 (i := 0) rfl rfl ?_
    refine r_bipush (pc := 13) (v := iv (-4)) dX11_graph_13 (by decide) ?_
    obtain ⟨fs21, hfs21⟩ := t_obj ht9 (rd_of CG_0)
    refine r_callV (pc := 15) (as := [.int (iv (-4))]) (st := []) kX11_82 rfl dX11_graph_15 hfs21 (s_X11_refuse (d := d - 1) (x1 := (-4)) (by omega)  ht9 (by omega)) rfl (by omega) (Nat.le_of_ble_eq_true rfl) (Nat.zero_le _) (Nat.zero_le _) rfl (fun r18 hp17 n19 hq20 => ?_)
    obtain ⟨hnn19, ht22, hrr18⟩ := hq20
    subst n19 r18
    change Rn _ _ _ 18 _ [.int (iv (-4))] _ _ _ _ _
    refine r_goto (pc := 18) (tgt := 36) dX11_graph_18 (by decide) ?_
    exact r_iret (pc := 36) dX11_graph_36 rfl ⟨by omega, Γ, ct, (-4), th, kn, kd, ka, kf, kt, kw, kc, (-4), (Ext_refl Γ), ht22, hk, rfl, by exact (hdQ_y (by omega)).symm, by omega, fun h9 => ⟨by omega, rfl, rfl⟩, fun h9 => absurd h9 (by omega)⟩
def qDr (Γ : TG) (cI cJ cZ cT : ClassId) (a : Nat) (ct : Int) (th : Nat → Option Nat) (dn : Int) (dd : Int) (da : Int) (df : Nat → Int) (dt : Nat → Int) (dw : Nat → Int) (dc : Nat → Int) (kn : Int) (kd : Int) (ka : Int) (kf : Nat → Int) (kt : Nat → Int) (kw : Nat → Int) (kc : Nat → Int) (n : Nat) : Option Value → MH → Nat → Prop := fun r hp1 n1 => n1 = n ∧ ∃ (ct1 rv1 : Int) (th1 : Nat → Option Nat) (v : Int), Tw (CG Γ cI cJ cZ cT a ct1 rv1 th1 dn dd da df dt dw dc kn kd ka kf kt kw kc) hp1 ∧ r = some (.int (iv v)) ∧ ((ct = 0 ∧ v = -1 ∧ ct1 = ct ∧ th1 = th ∧ rv1 = -1) ∨ (0 < ct ∧ v = ct - 1 ∧ ct1 = ct - 1 ∧ th1 = va_up th (ct - 1).toNat none ∧ rv1 = 0))
set_option maxHeartbeats 4000000 in
set_option maxRecDepth 100000 in
theorem y_X11_drop {D : va_G} {cI cJ cZ cT : ClassId} {lo b L : Nat} {xs : Nat → Int32} {hp : MH} {n d : Nat} {Γ : TG} {a : Nat} {ct : Int} {rv : Int} {th : Nat → Option Nat} {dn : Int} {dd : Int} {da : Int} {df : Nat → Int} {dt : Nat → Int} {dw : Nat → Int} {dc : Nat → Int} {kn : Int} {kd : Int} {ka : Int} {kf : Nat → Int} {kt : Nat → Int} {kw : Nat → Int} {kc : Nat → Int} {so sz dr mn fr tt wt co : Nat → Int} {nu : Nat → Int64} {qi qc : Nat → Int} (hd0 : 1 ≤ d) (hk : EK Γ cI cJ cZ a ct th dn dd da df dt dw dc kn kd ka) (hm : HM Γ cI cJ cZ a ct th so sz dr mn fr tt wt co nu qi qc) (hrv : -2147483648 ≤ rv ∧ rv ≤ 2147483647) (hna : a + 84 ≤ n) (ht : Tw (CG Γ cI cJ cZ cT a ct rv th dn dd da df dt dw dc kn kd ka kf kt kw kc) hp)  : Mt (gG D cI cJ cZ cT lo b L xs) mX11_drop d 0 0 [.ref a] hp n (qDr Γ cI cJ cZ cT a ct th dn dd da df dt dw dc kn kd ka kf kt kw kc n) := by
  refine Mt.of rfl (Nat.le_of_ble_eq_true rfl) ?_
  refine Rn.pick (lv' := [(0, .ref a)]) [0] rfl ?_
  obtain ⟨hct, hth, ⟨hdn, hdd1, hda, har⟩, ⟨hkn, hkd, hka⟩, hsh, hse, hpr, hfl, hsm⟩ := id hk
  refine r_aload_n (pc := 0) dX11_drop_0 (i := 0) rfl rfl ?_
  refine r_iconst (pc := 1) (v := iv 0) dX11_drop_1 (by decide) ?_
  refine t_putX (pc := 2) (ty := .int) ht CG_0 fX11_19 tyX11 tyX11_ok nmX11 (by decide +kernel) (Or.inl rfl) dX11_drop_2 (Nat.le_of_ble_eq_true rfl) rfl rfl rfl (fun hp1 ht2 => ?_)
  have ht3 := RGw_rv ht2
  refine r_aload_n (pc := 5) dX11_drop_5 (i := 0) rfl rfl ?_
  refine t_getE (pc := 6) (.int (iv ct)) ht3 (rd_of CG_0) fX11_15 dX11_drop_6 rfl ?_
  refine t_if_gt (pc := 9) (tgt := 18) dX11_drop_9 (by decide) (by omega) (fun c9 => ?_) (fun c9 => ?_)
  · refine r_aload_n (pc := 18) dX11_drop_18 (i := 0) rfl rfl ?_
    refine r_dup (pc := 19) dX11_drop_19 rfl ?_
    refine t_getE (pc := 20) (.int (iv ct)) ht3 (rd_of CG_0) fX11_15 dX11_drop_20 rfl ?_
    refine r_iconst (pc := 23) (v := iv 1) dX11_drop_23 (by decide) ?_
    refine r_isub (pc := 24) (v := iv (ct - 1)) dX11_drop_24 (iv_sub _ _) ?_
    refine t_putX (pc := 25) (ty := .int) ht3 CG_0 fX11_15 tyX11 tyX11_ok nmX11 (by decide +kernel) (Or.inl rfl) dX11_drop_25 (Nat.le_of_ble_eq_true rfl) rfl rfl rfl (fun hp4 ht5 => ?_)
    have ht6 := RGw_ct ht5
    refine r_aload_n (pc := 28) dX11_drop_28 (i := 0) rfl rfl ?_
    refine t_getE (pc := 29) (.ref (a + 1)) ht6 (rd_of CG_0) fX11_11 dX11_drop_29 rfl ?_
    refine r_aload_n (pc := 32) dX11_drop_32 (i := 0) rfl rfl ?_
    refine t_getE (pc := 33) (.int (iv (ct - 1))) ht6 (rd_of CG_0) fX11_15 dX11_drop_33 rfl ?_
    refine r_null (pc := 36) dX11_drop_36 ?_
    refine t_aastN (pc := 37) (t0 := 3) (x := ct - 1) ht6 CG_1 dX11_drop_37 rfl (by omega) (by omega) (fun hp9 ht7 => ?_)
    have ht8 := CGw_th ht7
    refine r_aload_n (pc := 38) dX11_drop_38 (i := 0) rfl rfl ?_
    refine t_getE (pc := 39) (.int (iv (ct - 1))) ht8 (rd_of CG_0) fX11_15 dX11_drop_39 rfl ?_
    exact r_iret (pc := 42) dX11_drop_42 rfl ⟨rfl, (ct - 1), 0, (va_up th (ct - 1).toNat none), (ct - 1), ht8, rfl, Or.inr ⟨by omega, rfl, rfl, rfl, by omega⟩⟩
  · refine r_aload_n (pc := 12) dX11_drop_12 (i := 0) rfl rfl ?_
    refine r_iconst (pc := 13) (v := iv (-1)) dX11_drop_13 (by decide) ?_
    obtain ⟨fs14, hfs14⟩ := t_obj ht3 (rd_of CG_0)
    refine r_callV (pc := 14) (as := [.int (iv (-1))]) (st := []) kX11_82 rfl dX11_drop_14 hfs14 (s_X11_refuse (d := d - 1) (x1 := (-1)) (by omega)  ht3 (by omega)) rfl (by omega) (Nat.le_of_ble_eq_true rfl) (Nat.zero_le _) (Nat.zero_le _) rfl (fun r11 hp10 n12 hq13 => ?_)
    obtain ⟨hnn12, ht15, hrr11⟩ := hq13
    subst n12 r11
    change Rn _ _ _ 17 _ [.int (iv (-1))] _ _ _ _ _
    exact r_iret (pc := 17) dX11_drop_17 rfl ⟨rfl, ct, (-1), th, (-1), ht15, rfl, Or.inl ⟨by omega, rfl, rfl, rfl, by omega⟩⟩
