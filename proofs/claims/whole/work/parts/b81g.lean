set_option maxHeartbeats 4000000 in
set_option maxRecDepth 100000 in
theorem c_X3_detailx {D : va_G} {cI cJ cZ cT : ClassId} {lo b L : Nat} {xs : Nat → Int32} {hp : MH} {n d : Nat} {Γ : TG} {ga : Nat} {gF : Nat} {gT : Nat} {gW : Nat} {gC : Nat} {gTl : Nat} {gHd : Nat} {gBy : Nat} {gOu : Nat} {gIn : Nat} {gJo : Nat} {gn : Nat} {gm : Nat} {gq : Nat} {gdr : Int} {F T W C Tl Hd By Ou In Jo : Nat → Int} {x1 x2 : Int} (hd0 : 0 ≤ d) (hg : TyG Γ cI cJ cZ ga gF gT gW gC gTl gHd gBy gOu gIn gJo gn gm gq gdr) (hxg : XG Γ cI gF gT gW gC gTl gHd gBy gOu gIn gJo gn gm gq F T W C Tl Hd By Ou In Jo) (ht : Tw Γ hp) (hx1 : 0 ≤ x1 ∧ x1 ≤ 6) (hx2 : (-2147483648) ≤ x2 ∧ x2 ≤ 2147483647) (hk : 3 ≤ x1 → 0 ≤ x2 ∧ x2 < (gm : Int)) : Mt (gG D cI cJ cZ cT lo b L xs) mX3_detail d 0 0 [.ref ga, .int (iv x1), .int (iv x2)] hp n (pI Γ n (fun r => (r = ofV (gn : Int) gdr (gm : Int) F T W C x1 (Int.toNat x2)))) := by
  refine Mt.of rfl (Nat.le_of_ble_eq_true rfl) ?_
  refine Rn.pick (lv' := [(0, .ref ga), (1, .int (iv x1)), (2, .int (iv x2))]) [0, 1, 2] rfl ?_
  obtain ⟨hg_O, hg_from, hg_to, hg_weight, hg_cost, hg_tail, hg_head, hg_by, hg_out, hg_in, hg_joined, hg_b⟩ := id hg
  obtain ⟨⟨hxg_F, hxg_T, hxg_W, hxg_C, hxg_Tl, hxg_Hd, hxg_By, hxg_Ou, hxg_In, hxg_Jo⟩, ⟨hrg_F, hrg_T, hrg_W, hrg_C, hrg_Tl, hrg_Hd, hrg_By, hrg_Ou, hrg_In, hrg_Jo⟩, houg⟩ := id hxg
  have hgb := hg_b
  refine r_iload_n (pc := 0) dX3_detail_0 (i := 1) rfl rfl ?_
  by_cases c1 : x1 = 0
  · refine r_tableIn (pc := 1) (off := 39) (tgt := 40) dX3_detail_1 (by rw [iv_toInt (by omega) (by omega)]; omega) (by rw [iv_toInt (by omega) (by omega)]; omega) (by rw [iv_toInt (by omega) (by omega), c1]; decide) (by decide) ?_
    refine r_aload_n (pc := 40) dX3_detail_40 (i := 0) rfl rfl ?_
    refine t_getE (pc := 41) (.int (iv (gn : Int))) ht hg_O fX3_49 dX3_detail_41 rfl ?_
    exact r_iret (pc := 44) dX3_detail_44 rfl ⟨rfl, ht, _, rfl, by unfold ofV; (repeat' split) <;> first | rfl | omega⟩
  by_cases c2 : x1 = 1
  · refine r_tableIn (pc := 1) (off := 44) (tgt := 45) dX3_detail_1 (by rw [iv_toInt (by omega) (by omega)]; omega) (by rw [iv_toInt (by omega) (by omega)]; omega) (by rw [iv_toInt (by omega) (by omega), c2]; decide) (by decide) ?_
    refine r_aload_n (pc := 45) dX3_detail_45 (i := 0) rfl rfl ?_
    refine t_getE (pc := 46) (.int (iv (gm : Int))) ht hg_O fX3_25 dX3_detail_46 rfl ?_
    exact r_iret (pc := 49) dX3_detail_49 rfl ⟨rfl, ht, _, rfl, by unfold ofV; (repeat' split) <;> first | rfl | omega⟩
  by_cases c3 : x1 = 2
  · refine r_tableIn (pc := 1) (off := 49) (tgt := 50) dX3_detail_1 (by rw [iv_toInt (by omega) (by omega)]; omega) (by rw [iv_toInt (by omega) (by omega)]; omega) (by rw [iv_toInt (by omega) (by omega), c3]; decide) (by decide) ?_
    refine r_aload_n (pc := 50) dX3_detail_50 (i := 0) rfl rfl ?_
    refine t_getE (pc := 51) (.int (iv gdr)) ht hg_O fX3_19 dX3_detail_51 rfl ?_
    refine t_if_eq (pc := 54) (tgt := 61) dX3_detail_54 (by decide) (by omega) (fun c54 => ?_) (fun c54 => ?_)
    · refine r_iconst (pc := 61) (v := iv 0) dX3_detail_61 (by decide) ?_
      exact r_iret (pc := 62) dX3_detail_62 rfl ⟨rfl, ht, _, rfl, by unfold ofV; (repeat' split) <;> first | rfl | omega⟩
    · refine r_iconst (pc := 57) (v := iv 1) dX3_detail_57 (by decide) ?_
      refine r_goto (pc := 58) (tgt := 62) dX3_detail_58 (by decide) ?_
      exact r_iret (pc := 62) dX3_detail_62 rfl ⟨rfl, ht, _, rfl, by unfold ofV; (repeat' split) <;> first | rfl | omega⟩
  by_cases c4 : x1 = 3
  · refine r_tableIn (pc := 1) (off := 62) (tgt := 63) dX3_detail_1 (by rw [iv_toInt (by omega) (by omega)]; omega) (by rw [iv_toInt (by omega) (by omega)]; omega) (by rw [iv_toInt (by omega) (by omega), c4]; decide) (by decide) ?_
    refine r_aload_n (pc := 63) dX3_detail_63 (i := 0) rfl rfl ?_
    refine t_getE (pc := 64) (.ref gF) ht hg_O fX3_36 dX3_detail_64 rfl ?_
    refine r_iload_n (pc := 67) dX3_detail_67 (i := 2) rfl rfl ?_
    refine t_ialdX (pc := 68) (t0 := 0) ht hxg_F dX3_detail_68 rfl (by omega) (by omega) (fun b5 => ?_)
    have rb5 := (show Rfx gm 0 ((gn : Int) - 1) F by assumption) (Int.toNat x2) (by omega)
    exact r_iret (pc := 69) dX3_detail_69 rfl ⟨rfl, ht, _, rfl, by unfold ofV; (repeat' split) <;> first | rfl | omega⟩
  by_cases c6 : x1 = 4
  · refine r_tableIn (pc := 1) (off := 69) (tgt := 70) dX3_detail_1 (by rw [iv_toInt (by omega) (by omega)]; omega) (by rw [iv_toInt (by omega) (by omega)]; omega) (by rw [iv_toInt (by omega) (by omega), c6]; decide) (by decide) ?_
    refine r_aload_n (pc := 70) dX3_detail_70 (i := 0) rfl rfl ?_
    refine t_getE (pc := 71) (.ref gT) ht hg_O fX3_40 dX3_detail_71 rfl ?_
    refine r_iload_n (pc := 74) dX3_detail_74 (i := 2) rfl rfl ?_
    refine t_ialdX (pc := 75) (t0 := 0) ht hxg_T dX3_detail_75 rfl (by omega) (by omega) (fun b7 => ?_)
    have rb7 := (show Rfx gm 0 ((gn : Int) - 1) T by assumption) (Int.toNat x2) (by omega)
    exact r_iret (pc := 76) dX3_detail_76 rfl ⟨rfl, ht, _, rfl, by unfold ofV; (repeat' split) <;> first | rfl | omega⟩
  by_cases c8 : x1 = 5
  · refine r_tableIn (pc := 1) (off := 76) (tgt := 77) dX3_detail_1 (by rw [iv_toInt (by omega) (by omega)]; omega) (by rw [iv_toInt (by omega) (by omega)]; omega) (by rw [iv_toInt (by omega) (by omega), c8]; decide) (by decide) ?_
    refine r_aload_n (pc := 77) dX3_detail_77 (i := 0) rfl rfl ?_
    refine t_getE (pc := 78) (.ref gW) ht hg_O fX3_44 dX3_detail_78 rfl ?_
    refine r_iload_n (pc := 81) dX3_detail_81 (i := 2) rfl rfl ?_
    refine t_ialdX (pc := 82) (t0 := 0) ht hxg_W dX3_detail_82 rfl (by omega) (by omega) (fun b9 => ?_)
    have rb9 := (show Rfx gm (-1000) 1000 W by assumption) (Int.toNat x2) (by omega)
    exact r_iret (pc := 83) dX3_detail_83 rfl ⟨rfl, ht, _, rfl, by unfold ofV; (repeat' split) <;> first | rfl | omega⟩
  refine r_tableOut (pc := 1) (tgt := 84) dX3_detail_1 (by rw [iv_toInt (by omega) (by omega)]; omega) (by decide) ?_
  refine r_aload_n (pc := 84) dX3_detail_84 (i := 0) rfl rfl ?_
  refine t_getE (pc := 85) (.ref gC) ht hg_O fX3_48 dX3_detail_85 rfl ?_
  refine r_iload_n (pc := 88) dX3_detail_88 (i := 2) rfl rfl ?_
  refine t_ialdX (pc := 89) (t0 := 0) ht hxg_C dX3_detail_89 rfl (by omega) (by omega) (fun b10 => ?_)
  have rb10 := (show Rfx gm (-1000) 1000 C by assumption) (Int.toNat x2) (by omega)
  exact r_iret (pc := 90) dX3_detail_90 rfl ⟨rfl, ht, _, rfl, by unfold ofV; (repeat' split) <;> first | rfl | omega⟩
set_option maxHeartbeats 4000000 in
set_option maxRecDepth 100000 in
theorem y_X11_of {D : va_G} {cI cJ cZ cT : ClassId} {lo b L : Nat} {xs : Nat → Int32} {hp : MH} {n d : Nat} {Γ : TG} {a : Nat} {ct : Int} {rv : Int} {th : Nat → Option Nat} {dn : Int} {dd : Int} {da : Int} {df : Nat → Int} {dt : Nat → Int} {dw : Nat → Int} {dc : Nat → Int} {kn : Int} {kd : Int} {ka : Int} {kf : Nat → Int} {kt : Nat → Int} {kw : Nat → Int} {kc : Nat → Int} {so sz dr mn fr tt wt co : Nat → Int} {nu : Nat → Int64} {qi qc : Nat → Int} {x1 x2 x3 : Int} (hd0 : 4 ≤ d) (hk : EK Γ cI cJ cZ a ct th dn dd da df dt dw dc kn kd ka) (hm : HM Γ cI cJ cZ a ct th so sz dr mn fr tt wt co nu qi qc) (hrv : -2147483648 ≤ rv ∧ rv ≤ 2147483647) (hna : a + 84 ≤ n) (ht : Tw (CG Γ cI cJ cZ cT a ct rv th dn dd da df dt dw dc kn kd ka kf kt kw kc) hp) (hx1 : (-2147483648) ≤ x1 ∧ x1 ≤ 2147483647) (hx2 : (-2147483648) ≤ x2 ∧ x2 ≤ 2147483647) (hx3 : (-2147483648) ≤ x3 ∧ x3 ≤ 2147483647) : Mt (gG D cI cJ cZ cT lo b L xs) mX11_of d 0 0 [.ref a, .int (iv x1), .int (iv x2), .int (iv x3)] hp n (qA Γ cI cJ cZ cT a dn dd da df dt dw dc n ct th (fun r w9 => ∃ v : Int, r = some (.int (iv v)) ∧ w9 = dn1 ct so x1 1 (x2 < 0 ∨ 6 < x2 ∨ (2 < x2 ∧ (x3 < 0 ∨ (mn (Int.toNat x1)) ≤ x3))) ∧ (w9 ≠ 0 → v = 0) ∧ (w9 = 0 → v = (ofV (sz (Int.toNat x1)) (dr (Int.toNat x1)) (mn (Int.toNat x1)) (sh fr (60 * x1)) (sh tt (60 * x1)) (sh wt (60 * x1)) (sh co (60 * x1)) x2 (Int.toNat x3))))) := by
  refine Mt.of rfl (Nat.le_of_ble_eq_true rfl) ?_
  refine Rn.pick (lv' := [(0, .ref a), (1, .int (iv x1)), (2, .int (iv x2)), (3, .int (iv x3))]) [0, 1, 2, 3] rfl ?_
  obtain ⟨hct, hth, ⟨hdn, hdd1, hda, har⟩, ⟨hkn, hkd, hka⟩, hsh, hse, hpr, hfl, hsm⟩ := id hk
  refine r_aload_n (pc := 0) dX11_of_0 (i := 0) rfl rfl ?_
  refine r_iconst (pc := 1) (v := iv 0) dX11_of_1 (by decide) ?_
  refine t_putX (pc := 2) (ty := .int) ht CG_0 fX11_19 tyX11 tyX11_ok nmX11 (by decide +kernel) (Or.inl rfl) dX11_of_2 (Nat.le_of_ble_eq_true rfl) rfl rfl rfl (fun hp1 ht2 => ?_)
  have ht3 := RGw_rv ht2
  refine r_aload_n (pc := 5) dX11_of_5 (i := 0) rfl rfl ?_
  refine r_iload_n (pc := 6) dX11_of_6 (i := 1) rfl rfl ?_
  refine u_graphAt (pc := 7) (x := x1) (st := []) hct hm ht3 kX11_106 dX11_of_7 (by omega) (Nat.le_of_ble_eq_true rfl) (by omega) (fun hp4 ht5 hnog => ?_) (fun hp4 ga ht5 hyeg hTg => ?_)
  · refine r_astoreN (pc := 10) (lv' := [(4, .null), (0, .ref a), (1, .int (iv x1)), (2, .int (iv x2)), (3, .int (iv x3))]) dX11_of_10 (by decide) rfl ?_
    refine r_aloadN (pc := 12) dX11_of_12 rfl ?_
    refine r_ifnonnullN (pc := 14) dX11_of_14 ?_
    refine r_aload_n (pc := 17) dX11_of_17 (i := 0) rfl rfl ?_
    refine r_aload_n (pc := 18) dX11_of_18 (i := 0) rfl rfl ?_
    refine r_iload_n (pc := 19) dX11_of_19 (i := 1) rfl rfl ?_
    obtain ⟨fs10, hfs10⟩ := t_obj ht5 (rd_of CG_0)
    refine r_callV (pc := 20) (as := [.int (iv x1)]) (st := [.ref a]) kX11_110 rfl dX11_of_20 hfs10 (uw_X11_whyNot (d := d - 1) (x1 := x1) (by omega)  ht5 (by omega) (by omega) hm) rfl (by omega) (Nat.le_of_ble_eq_true rfl) (Nat.zero_le _) (Nat.zero_le _) rfl (fun r7 hp6 n8 hq9 => ?_)
    obtain ⟨hnn8, bb_12, ht11, hrr7, hhq90, hhq91⟩ := hq9
    subst n8 r7
    have hhq90 : -2 ≤ bb_12 ∧ bb_12 ≤ -1 := hhq90
    have hhq91 : (bb_12 = -1 ∧ ¬ (0 ≤ x1 ∧ x1 < ct)) ∨ (bb_12 = -2 ∧ 0 ≤ x1 ∧ x1 < ct) := hhq91
    change Rn _ _ _ 23 _ [.int (iv bb_12), .ref a] _ _ _ _ _
    obtain ⟨fs17, hfs17⟩ := t_obj ht11 (rd_of CG_0)
    refine r_callV (pc := 23) (as := [.int (iv bb_12)]) (st := []) kX11_203 rfl dX11_of_23 hfs17 (s_X11_deny (d := d - 1) (x1 := bb_12) (by omega)  ht11 (by omega)) rfl (by omega) (Nat.le_of_ble_eq_true rfl) (Nat.zero_le _) (Nat.zero_le _) rfl (fun r14 hp13 n15 hq16 => ?_)
    obtain ⟨hnn15, ht18, hrr14⟩ := hq16
    subst n15 r14
    change Rn _ _ _ 26 _ [.int (iv 0)] _ _ _ _ _
    exact r_iret (pc := 26) dX11_of_26 rfl ⟨by omega, Γ, bb_12, kn, kd, ka, kf, kt, kw, kc, (Ext_refl Γ), ht18, hk, by omega, 0, rfl, by exact dn1_r (by omega), by (intro h9; first | rfl | omega | (exfalso; omega)), by (intro h9; first | (exfalso; omega) | (rw [heNg, heDg, heMg]; exact hdt))⟩
  · obtain ⟨gF, gT, gW, gC, gTl, gHd, gBy, gOu, gIn, gJo, gn, gm, gq, gdr, Tl, Hd, By, Ou, In, Jo, gpos, hg, hltg, hxg, hgog, houg, hing, hjog, heNg, heDg, heMg⟩ := id hTg
    have hfNg : Int.toNat (sz (Int.toNat x1)) = gn := by omega
    have hfMg : Int.toNat (mn (Int.toNat x1)) = gm := by omega
    obtain ⟨hg_O, hg_from, hg_to, hg_weight, hg_cost, hg_tail, hg_head, hg_by, hg_out, hg_in, hg_joined, hg_b⟩ := id hg
    refine r_astore (pc := 10) (lv' := [(4, .ref ga), (0, .ref a), (1, .int (iv x1)), (2, .int (iv x2)), (3, .int (iv x3))]) dX11_of_10 (by decide) rfl ?_
    refine r_aload (pc := 12) dX11_of_12 rfl ?_
    refine r_ifnonnull (pc := 14) (tgt := 27) dX11_of_14 (by decide) ?_
    refine r_iload_n (pc := 27) dX11_of_27 (i := 2) rfl rfl ?_
    refine t_if_lt (pc := 28) (tgt := 54) dX11_of_28 (by decide) (by omega) (fun c28 => ?_) (fun c28 => ?_)
    · refine r_aload_n (pc := 54) dX11_of_54 (i := 0) rfl rfl ?_
      refine r_bipush (pc := 55) (v := iv (-3)) dX11_of_55 (by decide) ?_
      obtain ⟨fs23, hfs23⟩ := t_obj ht5 (rd_of CG_0)
      refine r_callV (pc := 57) (as := [.int (iv (-3))]) (st := []) kX11_203 rfl dX11_of_57 hfs23 (s_X11_deny (d := d - 1) (x1 := (-3)) (by omega)  ht5 (by omega)) rfl (by omega) (Nat.le_of_ble_eq_true rfl) (Nat.zero_le _) (Nat.zero_le _) rfl (fun r20 hp19 n21 hq22 => ?_)
      obtain ⟨hnn21, ht24, hrr20⟩ := hq22
      subst n21 r20
      change Rn _ _ _ 60 _ [.int (iv 0)] _ _ _ _ _
      exact r_iret (pc := 60) dX11_of_60 rfl ⟨by omega, Γ, (-3), kn, kd, ka, kf, kt, kw, kc, (Ext_refl Γ), ht24, hk, by omega, 0, rfl, by exact dn1_b rfl (by omega) (by omega), by (intro h9; first | rfl | omega | (exfalso; omega)), by (intro h9; first | (exfalso; omega) | (rw [heNg, heDg, heMg]; exact hdt))⟩
    · refine r_iload_n (pc := 31) dX11_of_31 (i := 2) rfl rfl ?_
      refine r_bipush (pc := 32) (v := iv 6) dX11_of_32 (by decide) ?_
      refine t_icmp_gt (pc := 34) (tgt := 54) dX11_of_34 (by decide) (by omega) (by omega) (fun c34 => ?_) (fun c34 => ?_)
      · refine r_aload_n (pc := 54) dX11_of_54 (i := 0) rfl rfl ?_
        refine r_bipush (pc := 55) (v := iv (-3)) dX11_of_55 (by decide) ?_
        obtain ⟨fs29, hfs29⟩ := t_obj ht5 (rd_of CG_0)
        refine r_callV (pc := 57) (as := [.int (iv (-3))]) (st := []) kX11_203 rfl dX11_of_57 hfs29 (s_X11_deny (d := d - 1) (x1 := (-3)) (by omega)  ht5 (by omega)) rfl (by omega) (Nat.le_of_ble_eq_true rfl) (Nat.zero_le _) (Nat.zero_le _) rfl (fun r26 hp25 n27 hq28 => ?_)
        obtain ⟨hnn27, ht30, hrr26⟩ := hq28
        subst n27 r26
        change Rn _ _ _ 60 _ [.int (iv 0)] _ _ _ _ _
        exact r_iret (pc := 60) dX11_of_60 rfl ⟨by omega, Γ, (-3), kn, kd, ka, kf, kt, kw, kc, (Ext_refl Γ), ht30, hk, by omega, 0, rfl, by exact dn1_b rfl (by omega) (by omega), by (intro h9; first | rfl | omega | (exfalso; omega)), by (intro h9; first | (exfalso; omega) | (rw [heNg, heDg, heMg]; exact hdt))⟩
      · refine r_iload_n (pc := 37) dX11_of_37 (i := 2) rfl rfl ?_
        refine r_iconst (pc := 38) (v := iv 3) dX11_of_38 (by decide) ?_
        refine t_icmp_lt (pc := 39) (tgt := 61) dX11_of_39 (by decide) (by omega) (by omega) (fun c39 => ?_) (fun c39 => ?_)
        · refine r_aload (pc := 61) dX11_of_61 rfl ?_
          refine r_iload_n (pc := 63) dX11_of_63 (i := 2) rfl rfl ?_
          refine r_iload_n (pc := 64) dX11_of_64 (i := 3) rfl rfl ?_
          refine t_callVI (pc := 65) (as := [.int (iv x2), .int (iv x3)]) (st := []) ht5 (rd_CG (by omega) hg_O) kX11_210 rfl dX11_of_65 (c_X3_detailx (d := d - 1) (x1 := x2) (x2 := x3) (by omega) (TyG.cg (by omega) hg) (XG.cg (by omega) hxg) ht5 (by omega) (by omega) (by omega)) rfl (by omega) (Nat.le_of_ble_eq_true rfl) rfl (fun hp32 y31 ht33 by31 => ?_)
          have fy31 : (y31 = ofV (gn : Int) gdr (gm : Int) (sh fr (60 * x1)) (sh tt (60 * x1)) (sh wt (60 * x1)) (sh co (60 * x1)) x2 (Int.toNat x3)) := by31
          have hdt := fy31
          exact r_iret (pc := 68) dX11_of_68 rfl ⟨by omega, Γ, 0, kn, kd, ka, kf, kt, kw, kc, (Ext_refl Γ), ht33, hk, by omega, y31, rfl, by exact dn1_m rfl (by omega) (by omega), by (intro h9; first | rfl | omega | (exfalso; omega)), by (intro h9; first | (exfalso; omega) | (rw [heNg, heDg, heMg]; exact hdt))⟩
        · refine r_iload_n (pc := 42) dX11_of_42 (i := 3) rfl rfl ?_
          refine r_aload (pc := 43) dX11_of_43 rfl ?_
          refine t_getE (pc := 45) (.int (iv (gm : Int))) ht5 (rd_CG (by omega) hg_O) fX11_135 dX11_of_45 rfl ?_
          refine t_callSI (pc := 48) (as := [.int (iv x3), .int (iv (gm : Int))]) (st := []) kX11_74 dX11_of_48 (t_X11_isNode (d := d - 1) (x0 := x3) (x1 := (gm : Int)) (by omega)   ht5 (by omega) (by omega) ) rfl (by omega) (Nat.le_of_ble_eq_true rfl) rfl (fun hp34 y36 ht35 by36 => ?_)
          obtain ⟨by361, by362⟩ := by36
          refine t_if_ne (pc := 51) (tgt := 61) dX11_of_51 (by decide) (by omega) (fun c51 => ?_) (fun c51 => ?_)
          · refine r_aload (pc := 61) dX11_of_61 rfl ?_
            refine r_iload_n (pc := 63) dX11_of_63 (i := 2) rfl rfl ?_
            refine r_iload_n (pc := 64) dX11_of_64 (i := 3) rfl rfl ?_
            refine t_callVI (pc := 65) (as := [.int (iv x2), .int (iv x3)]) (st := []) ht35 (rd_CG (by omega) hg_O) kX11_210 rfl dX11_of_65 (c_X3_detailx (d := d - 1) (x1 := x2) (x2 := x3) (by omega) (TyG.cg (by omega) hg) (XG.cg (by omega) hxg) ht35 (by omega) (by omega) (by omega)) rfl (by omega) (Nat.le_of_ble_eq_true rfl) rfl (fun hp38 y37 ht39 by37 => ?_)
            have fy37 : (y37 = ofV (gn : Int) gdr (gm : Int) (sh fr (60 * x1)) (sh tt (60 * x1)) (sh wt (60 * x1)) (sh co (60 * x1)) x2 (Int.toNat x3)) := by37
            have hdt := fy37
            exact r_iret (pc := 68) dX11_of_68 rfl ⟨by omega, Γ, 0, kn, kd, ka, kf, kt, kw, kc, (Ext_refl Γ), ht39, hk, by omega, y37, rfl, by exact dn1_m rfl (by omega) (by omega), by (intro h9; first | rfl | omega | (exfalso; omega)), by (intro h9; first | (exfalso; omega) | (rw [heNg, heDg, heMg]; exact hdt))⟩
          · refine r_aload_n (pc := 54) dX11_of_54 (i := 0) rfl rfl ?_
            refine r_bipush (pc := 55) (v := iv (-3)) dX11_of_55 (by decide) ?_
            obtain ⟨fs44, hfs44⟩ := t_obj ht35 (rd_of CG_0)
            refine r_callV (pc := 57) (as := [.int (iv (-3))]) (st := []) kX11_203 rfl dX11_of_57 hfs44 (s_X11_deny (d := d - 1) (x1 := (-3)) (by omega)  ht35 (by omega)) rfl (by omega) (Nat.le_of_ble_eq_true rfl) (Nat.zero_le _) (Nat.zero_le _) rfl (fun r41 hp40 n42 hq43 => ?_)
            obtain ⟨hnn42, ht45, hrr41⟩ := hq43
            subst n42 r41
            change Rn _ _ _ 60 _ [.int (iv 0)] _ _ _ _ _
            exact r_iret (pc := 60) dX11_of_60 rfl ⟨by omega, Γ, (-3), kn, kd, ka, kf, kt, kw, kc, (Ext_refl Γ), ht45, hk, by omega, 0, rfl, by exact dn1_b rfl (by omega) (by omega), by (intro h9; first | rfl | omega | (exfalso; omega)), by (intro h9; first | (exfalso; omega) | (rw [heNg, heDg, heMg]; exact hdt))⟩
set_option maxHeartbeats 4000000 in
set_option maxRecDepth 100000 in
theorem y_X11_at {D : va_G} {cI cJ cZ cT : ClassId} {lo b L : Nat} {xs : Nat → Int32} {hp : MH} {n d : Nat} {Γ : TG} {a : Nat} {ct : Int} {rv : Int} {th : Nat → Option Nat} {dn : Int} {dd : Int} {da : Int} {df : Nat → Int} {dt : Nat → Int} {dw : Nat → Int} {dc : Nat → Int} {kn : Int} {kd : Int} {ka : Int} {kf : Nat → Int} {kt : Nat → Int} {kw : Nat → Int} {kc : Nat → Int} {so sz dr mn fr tt wt co : Nat → Int} {nu : Nat → Int64} {qi qc : Nat → Int} {x1 x2 : Int} (hd0 : 4 ≤ d) (hk : EK Γ cI cJ cZ a ct th dn dd da df dt dw dc kn kd ka) (hm : HM Γ cI cJ cZ a ct th so sz dr mn fr tt wt co nu qi qc) (hrv : -2147483648 ≤ rv ∧ rv ≤ 2147483647) (hna : a + 84 ≤ n) (ht : Tw (CG Γ cI cJ cZ cT a ct rv th dn dd da df dt dw dc kn kd ka kf kt kw kc) hp) (hx1 : (-2147483648) ≤ x1 ∧ x1 ≤ 2147483647) (hx2 : (-2147483648) ≤ x2 ∧ x2 ≤ 2147483647) : Mt (gG D cI cJ cZ cT lo b L xs) mX11_at d 0 0 [.ref a, .int (iv x1), .int (iv x2)] hp n (qA Γ cI cJ cZ cT a dn dd da df dt dw dc n ct th (fun r w9 => ∃ v : Int64, r = some (.long v) ∧ w9 = dn1 ct so x1 2 (x2 ≠ -1 ∧ ¬ (0 ≤ x2 ∧ x2 < sz (Int.toNat x1))) ∧ (w9 ≠ 0 → v = 0) ∧ (w9 = 0 → x2 = -1 → v = suA (sj nu (16 * x1)) (Int.toNat (sz (Int.toNat x1)))) ∧ (w9 = 0 → x2 ≠ -1 → v = sj nu (16 * x1) (Int.toNat x2)))) := by
  refine Mt.of rfl (Nat.le_of_ble_eq_true rfl) ?_
  refine Rn.pick (lv' := [(0, .ref a), (1, .int (iv x1)), (2, .int (iv x2))]) [0, 1, 2] rfl ?_
  obtain ⟨hct, hth, ⟨hdn, hdd1, hda, har⟩, ⟨hkn, hkd, hka⟩, hsh, hse, hpr, hfl, hsm⟩ := id hk
  refine r_aload_n (pc := 0) dX11_at_0 (i := 0) rfl rfl ?_
  refine r_iconst (pc := 1) (v := iv 0) dX11_at_1 (by decide) ?_
  refine t_putX (pc := 2) (ty := .int) ht CG_0 fX11_19 tyX11 tyX11_ok nmX11 (by decide +kernel) (Or.inl rfl) dX11_at_2 (Nat.le_of_ble_eq_true rfl) rfl rfl rfl (fun hp1 ht2 => ?_)
  have ht3 := RGw_rv ht2
  refine r_aload_n (pc := 5) dX11_at_5 (i := 0) rfl rfl ?_
  refine r_iload_n (pc := 6) dX11_at_6 (i := 1) rfl rfl ?_
  refine u_columnAt (pc := 7) (x := x1) (st := []) hct hm ht3 kX11_170 dX11_at_7 (by omega) (Nat.le_of_ble_eq_true rfl) (by omega) (fun hp4 ht5 hnoc => ?_) (fun hp4 ca ht5 hyec hTc => ?_)
  · refine r_astore_nN (pc := 10) (lv' := [(3, .null), (0, .ref a), (1, .int (iv x1)), (2, .int (iv x2))]) dX11_at_10 (i := 3) rfl (by decide) rfl ?_
    refine r_aload_nN (pc := 11) dX11_at_11 (i := 3) rfl rfl ?_
    refine r_ifnonnullN (pc := 12) dX11_at_12 ?_
    refine r_aload_n (pc := 15) dX11_at_15 (i := 0) rfl rfl ?_
    refine r_aload_n (pc := 16) dX11_at_16 (i := 0) rfl rfl ?_
    refine r_iload_n (pc := 17) dX11_at_17 (i := 1) rfl rfl ?_
    obtain ⟨fs10, hfs10⟩ := t_obj ht5 (rd_of CG_0)
    refine r_callV (pc := 18) (as := [.int (iv x1)]) (st := [.ref a]) kX11_110 rfl dX11_at_18 hfs10 (uw_X11_whyNot (d := d - 1) (x1 := x1) (by omega)  ht5 (by omega) (by omega) hm) rfl (by omega) (Nat.le_of_ble_eq_true rfl) (Nat.zero_le _) (Nat.zero_le _) rfl (fun r7 hp6 n8 hq9 => ?_)
    obtain ⟨hnn8, bb_12, ht11, hrr7, hhq90, hhq91⟩ := hq9
    subst n8 r7
    have hhq90 : -2 ≤ bb_12 ∧ bb_12 ≤ -1 := hhq90
    have hhq91 : (bb_12 = -1 ∧ ¬ (0 ≤ x1 ∧ x1 < ct)) ∨ (bb_12 = -2 ∧ 0 ≤ x1 ∧ x1 < ct) := hhq91
    change Rn _ _ _ 21 _ [.int (iv bb_12), .ref a] _ _ _ _ _
    obtain ⟨fs17, hfs17⟩ := t_obj ht11 (rd_of CG_0)
    refine r_callV (pc := 21) (as := [.int (iv bb_12)]) (st := []) kX11_203 rfl dX11_at_21 hfs17 (s_X11_deny (d := d - 1) (x1 := bb_12) (by omega)  ht11 (by omega)) rfl (by omega) (Nat.le_of_ble_eq_true rfl) (Nat.zero_le _) (Nat.zero_le _) rfl (fun r14 hp13 n15 hq16 => ?_)
    obtain ⟨hnn15, ht18, hrr14⟩ := hq16
    subst n15 r14
    change Rn _ _ _ 24 _ [.int (iv 0)] _ _ _ _ _
    refine r_i2l (pc := 24) (v := (iv 0).toInt64) dX11_at_24 rfl ?_
    exact r_lret (pc := 25) dX11_at_25 rfl ⟨by omega, Γ, bb_12, kn, kd, ka, kf, kt, kw, kc, (Ext_refl Γ), ht18, hk, by omega, ((iv 0).toInt64), rfl, by exact dn1_r (by omega), by (intro h9; first | rfl | omega | (exfalso; omega)), by (intro h9 h8; first | (exfalso; omega) | (rw [hfNc]; exact hto)), by (intro h9 h8; first | (exfalso; omega) | rfl)⟩
  · obtain ⟨cM, cn, hc, hltc, hxc, heNc⟩ := id hTc
    have hfNc : Int.toNat (sz (Int.toNat x1)) = cn := by omega
    obtain ⟨hc_O, hc_numbers, hc_b⟩ := id hc
    refine r_astore_n (pc := 10) (lv' := [(3, .ref ca), (0, .ref a), (1, .int (iv x1)), (2, .int (iv x2))]) dX11_at_10 (i := 3) rfl (by decide) rfl ?_
    refine r_aload_n (pc := 11) dX11_at_11 (i := 3) rfl rfl ?_
    refine r_ifnonnull (pc := 12) (tgt := 26) dX11_at_12 (by decide) ?_
    refine r_iload_n (pc := 26) dX11_at_26 (i := 2) rfl rfl ?_
    refine r_iconst (pc := 27) (v := iv (-1)) dX11_at_27 (by decide) ?_
    refine t_icmp_ne (pc := 28) (tgt := 36) dX11_at_28 (by decide) (by omega) (by omega) (fun c28 => ?_) (fun c28 => ?_)
    · refine r_iload_n (pc := 36) dX11_at_36 (i := 2) rfl rfl ?_
      refine r_aload_n (pc := 37) dX11_at_37 (i := 3) rfl rfl ?_
      refine t_getE (pc := 38) (.int (iv (cn : Int))) ht5 (rd_CG (by omega) hc_O) fX11_174 dX11_at_38 rfl ?_
      refine t_callSI (pc := 41) (as := [.int (iv x2), .int (iv (cn : Int))]) (st := []) kX11_74 dX11_at_41 (t_X11_isNode (d := d - 1) (x0 := x2) (x1 := (cn : Int)) (by omega)   ht5 (by omega) (by omega) ) rfl (by omega) (Nat.le_of_ble_eq_true rfl) rfl (fun hp19 y21 ht20 by21 => ?_)
      obtain ⟨by211, by212⟩ := by21
      refine t_if_eq (pc := 44) (tgt := 56) dX11_at_44 (by decide) (by omega) (fun c44 => ?_) (fun c44 => ?_)
      · refine r_aload_n (pc := 56) dX11_at_56 (i := 0) rfl rfl ?_
        refine r_bipush (pc := 57) (v := iv (-3)) dX11_at_57 (by decide) ?_
        obtain ⟨fs26, hfs26⟩ := t_obj ht20 (rd_of CG_0)
        refine r_callV (pc := 59) (as := [.int (iv (-3))]) (st := []) kX11_203 rfl dX11_at_59 hfs26 (s_X11_deny (d := d - 1) (x1 := (-3)) (by omega)  ht20 (by omega)) rfl (by omega) (Nat.le_of_ble_eq_true rfl) (Nat.zero_le _) (Nat.zero_le _) rfl (fun r23 hp22 n24 hq25 => ?_)
        obtain ⟨hnn24, ht27, hrr23⟩ := hq25
        subst n24 r23
        change Rn _ _ _ 62 _ [.int (iv 0)] _ _ _ _ _
        refine r_i2l (pc := 62) (v := (iv 0).toInt64) dX11_at_62 rfl ?_
        exact r_lret (pc := 63) dX11_at_63 rfl ⟨by omega, Γ, (-3), kn, kd, ka, kf, kt, kw, kc, (Ext_refl Γ), ht27, hk, by omega, ((iv 0).toInt64), rfl, by exact dn1_b rfl (by omega) (by omega), by (intro h9; first | rfl | omega | (exfalso; omega)), by (intro h9 h8; first | (exfalso; omega) | (rw [hfNc]; exact hto)), by (intro h9 h8; first | (exfalso; omega) | rfl)⟩
      · refine r_aload_n (pc := 47) dX11_at_47 (i := 3) rfl rfl ?_
        refine t_getE (pc := 48) (.ref cM) ht20 (rd_CG (by omega) hc_O) fX11_160 dX11_at_48 rfl ?_
        refine r_iload_n (pc := 51) dX11_at_51 (i := 2) rfl rfl ?_
        refine t_laldX (pc := 52) (t0 := 1) ht20 (rd_CG (by omega) hxc) dX11_at_52 rfl (by omega) (by omega) ?_
        refine r_goto (pc := 53) (tgt := 63) dX11_at_53 (by decide) ?_
        exact r_lret (pc := 63) dX11_at_63 rfl ⟨by omega, Γ, 0, kn, kd, ka, kf, kt, kw, kc, (Ext_refl Γ), ht20, hk, by omega, ((sj nu (16 * x1)) (Int.toNat x2)), rfl, by exact dn1_m rfl (by omega) (by omega), by (intro h9; first | rfl | omega | (exfalso; omega)), by (intro h9 h8; first | (exfalso; omega) | (rw [hfNc]; exact hto)), by (intro h9 h8; first | (exfalso; omega) | rfl)⟩
    · refine r_aload_n (pc := 31) dX11_at_31 (i := 3) rfl rfl ?_
      refine t_callVJ (pc := 32) (as := []) (st := []) ht5 (rd_CG (by omega) hc_O) kX11_213 rfl dX11_at_32 (c_X0_totalx (d := d - 1) (by omega) (by omega) (rd_CG (by omega) hc_O) (rd_CG (by omega) hxc) ht5) rfl (by omega) (Nat.le_of_ble_eq_true rfl) rfl (fun hp29 y28 ht30 hto => ?_)
      exact r_lret (pc := 35) dX11_at_35 rfl ⟨by omega, Γ, 0, kn, kd, ka, kf, kt, kw, kc, (Ext_refl Γ), ht30, hk, by omega, y28, rfl, by exact dn1_m rfl (by omega) (by omega), by (intro h9; first | rfl | omega | (exfalso; omega)), by (intro h9 h8; first | (exfalso; omega) | (rw [hfNc]; exact hto)), by (intro h9 h8; first | (exfalso; omega) | rfl)⟩
set_option maxHeartbeats 4000000 in
set_option maxRecDepth 100000 in
theorem y_X11_part {D : va_G} {cI cJ cZ cT : ClassId} {lo b L : Nat} {xs : Nat → Int32} {hp : MH} {n d : Nat} {Γ : TG} {a : Nat} {ct : Int} {rv : Int} {th : Nat → Option Nat} {dn : Int} {dd : Int} {da : Int} {df : Nat → Int} {dt : Nat → Int} {dw : Nat → Int} {dc : Nat → Int} {kn : Int} {kd : Int} {ka : Int} {kf : Nat → Int} {kt : Nat → Int} {kw : Nat → Int} {kc : Nat → Int} {so sz dr mn fr tt wt co : Nat → Int} {nu : Nat → Int64} {qi qc : Nat → Int} {x1 x2 : Int} (hd0 : 4 ≤ d) (hk : EK Γ cI cJ cZ a ct th dn dd da df dt dw dc kn kd ka) (hm : HM Γ cI cJ cZ a ct th so sz dr mn fr tt wt co nu qi qc) (hrv : -2147483648 ≤ rv ∧ rv ≤ 2147483647) (hna : a + 84 ≤ n) (ht : Tw (CG Γ cI cJ cZ cT a ct rv th dn dd da df dt dw dc kn kd ka kf kt kw kc) hp) (hx1 : (-2147483648) ≤ x1 ∧ x1 ≤ 2147483647) (hx2 : (-2147483648) ≤ x2 ∧ x2 ≤ 2147483647) : Mt (gG D cI cJ cZ cT lo b L xs) mX11_part d 0 0 [.ref a, .int (iv x1), .int (iv x2)] hp n (qA Γ cI cJ cZ cT a dn dd da df dt dw dc n ct th (fun r w9 => ∃ v : Int, r = some (.int (iv v)) ∧ w9 = dn1 ct so x1 4 (x2 ≠ -1 ∧ ¬ (0 ≤ x2 ∧ x2 < sz (Int.toNat x1))) ∧ (w9 ≠ 0 → v = 0) ∧ (w9 = 0 → x2 = -1 → v = qc (Int.toNat x1)) ∧ (w9 = 0 → x2 ≠ -1 → v = sh qi (16 * x1) (Int.toNat x2)))) := by
  refine Mt.of rfl (Nat.le_of_ble_eq_true rfl) ?_
  refine Rn.pick (lv' := [(0, .ref a), (1, .int (iv x1)), (2, .int (iv x2))]) [0, 1, 2] rfl ?_
  obtain ⟨hct, hth, ⟨hdn, hdd1, hda, har⟩, ⟨hkn, hkd, hka⟩, hsh, hse, hpr, hfl, hsm⟩ := id hk
  refine r_aload_n (pc := 0) dX11_part_0 (i := 0) rfl rfl ?_
  refine r_iconst (pc := 1) (v := iv 0) dX11_part_1 (by decide) ?_
  refine t_putX (pc := 2) (ty := .int) ht CG_0 fX11_19 tyX11 tyX11_ok nmX11 (by decide +kernel) (Or.inl rfl) dX11_part_2 (Nat.le_of_ble_eq_true rfl) rfl rfl rfl (fun hp1 ht2 => ?_)
  have ht3 := RGw_rv ht2
  refine r_aload_n (pc := 5) dX11_part_5 (i := 0) rfl rfl ?_
  refine r_iload_n (pc := 6) dX11_part_6 (i := 1) rfl rfl ?_
  refine u_partsAt (pc := 7) (x := x1) (st := []) hct hm ht3 kX11_140 dX11_part_7 (by omega) (Nat.le_of_ble_eq_true rfl) (by omega) (fun hp4 ht5 hnor => ?_) (fun hp4 ra ht5 hyer hTr => ?_)
  · refine r_astore_nN (pc := 10) (lv' := [(3, .null), (0, .ref a), (1, .int (iv x1)), (2, .int (iv x2))]) dX11_part_10 (i := 3) rfl (by decide) rfl ?_
    refine r_aload_nN (pc := 11) dX11_part_11 (i := 3) rfl rfl ?_
    refine r_ifnonnullN (pc := 12) dX11_part_12 ?_
    refine r_aload_n (pc := 15) dX11_part_15 (i := 0) rfl rfl ?_
    refine r_aload_n (pc := 16) dX11_part_16 (i := 0) rfl rfl ?_
    refine r_iload_n (pc := 17) dX11_part_17 (i := 1) rfl rfl ?_
    obtain ⟨fs10, hfs10⟩ := t_obj ht5 (rd_of CG_0)
    refine r_callV (pc := 18) (as := [.int (iv x1)]) (st := [.ref a]) kX11_110 rfl dX11_part_18 hfs10 (uw_X11_whyNot (d := d - 1) (x1 := x1) (by omega)  ht5 (by omega) (by omega) hm) rfl (by omega) (Nat.le_of_ble_eq_true rfl) (Nat.zero_le _) (Nat.zero_le _) rfl (fun r7 hp6 n8 hq9 => ?_)
    obtain ⟨hnn8, bb_12, ht11, hrr7, hhq90, hhq91⟩ := hq9
    subst n8 r7
    have hhq90 : -2 ≤ bb_12 ∧ bb_12 ≤ -1 := hhq90
    have hhq91 : (bb_12 = -1 ∧ ¬ (0 ≤ x1 ∧ x1 < ct)) ∨ (bb_12 = -2 ∧ 0 ≤ x1 ∧ x1 < ct) := hhq91
    change Rn _ _ _ 21 _ [.int (iv bb_12), .ref a] _ _ _ _ _
    obtain ⟨fs17, hfs17⟩ := t_obj ht11 (rd_of CG_0)
    refine r_callV (pc := 21) (as := [.int (iv bb_12)]) (st := []) kX11_203 rfl dX11_part_21 hfs17 (s_X11_deny (d := d - 1) (x1 := bb_12) (by omega)  ht11 (by omega)) rfl (by omega) (Nat.le_of_ble_eq_true rfl) (Nat.zero_le _) (Nat.zero_le _) rfl (fun r14 hp13 n15 hq16 => ?_)
    obtain ⟨hnn15, ht18, hrr14⟩ := hq16
    subst n15 r14
    change Rn _ _ _ 24 _ [.int (iv 0)] _ _ _ _ _
    exact r_iret (pc := 24) dX11_part_24 rfl ⟨by omega, Γ, bb_12, kn, kd, ka, kf, kt, kw, kc, (Ext_refl Γ), ht18, hk, by omega, 0, rfl, by exact dn1_r (by omega), by (intro h9; first | rfl | omega | (exfalso; omega)), by (intro h9 h8; first | (exfalso; omega) | omega), by (intro h9 h8; first | (exfalso; omega) | rfl)⟩
  · obtain ⟨rN, rO, rn, rz, rvo, hr, hltr, hxr, hyr, hrxr, hryr, hmbr, heNr, heZr⟩ := id hTr
    obtain ⟨hr_O, hr_number, hr_nodesOf, hr_b⟩ := id hr
    refine r_astore_n (pc := 10) (lv' := [(3, .ref ra), (0, .ref a), (1, .int (iv x1)), (2, .int (iv x2))]) dX11_part_10 (i := 3) rfl (by decide) rfl ?_
    refine r_aload_n (pc := 11) dX11_part_11 (i := 3) rfl rfl ?_
    refine r_ifnonnull (pc := 12) (tgt := 25) dX11_part_12 (by decide) ?_
    refine r_iload_n (pc := 25) dX11_part_25 (i := 2) rfl rfl ?_
    refine r_iconst (pc := 26) (v := iv (-1)) dX11_part_26 (by decide) ?_
    refine t_icmp_ne (pc := 27) (tgt := 35) dX11_part_27 (by decide) (by omega) (by omega) (fun c27 => ?_) (fun c27 => ?_)
    · refine r_iload_n (pc := 35) dX11_part_35 (i := 2) rfl rfl ?_
      refine r_aload_n (pc := 36) dX11_part_36 (i := 3) rfl rfl ?_
      refine t_getE (pc := 37) (.int (iv (rn : Int))) ht5 (rd_CG (by omega) hr_O) fX11_144 dX11_part_37 rfl ?_
      refine t_callSI (pc := 40) (as := [.int (iv x2), .int (iv (rn : Int))]) (st := []) kX11_74 dX11_part_40 (t_X11_isNode (d := d - 1) (x0 := x2) (x1 := (rn : Int)) (by omega)   ht5 (by omega) (by omega) ) rfl (by omega) (Nat.le_of_ble_eq_true rfl) rfl (fun hp19 y21 ht20 by21 => ?_)
      obtain ⟨by211, by212⟩ := by21
      refine t_if_eq (pc := 43) (tgt := 55) dX11_part_43 (by decide) (by omega) (fun c43 => ?_) (fun c43 => ?_)
      · refine r_aload_n (pc := 55) dX11_part_55 (i := 0) rfl rfl ?_
        refine r_bipush (pc := 56) (v := iv (-3)) dX11_part_56 (by decide) ?_
        obtain ⟨fs26, hfs26⟩ := t_obj ht20 (rd_of CG_0)
        refine r_callV (pc := 58) (as := [.int (iv (-3))]) (st := []) kX11_203 rfl dX11_part_58 hfs26 (s_X11_deny (d := d - 1) (x1 := (-3)) (by omega)  ht20 (by omega)) rfl (by omega) (Nat.le_of_ble_eq_true rfl) (Nat.zero_le _) (Nat.zero_le _) rfl (fun r23 hp22 n24 hq25 => ?_)
        obtain ⟨hnn24, ht27, hrr23⟩ := hq25
        subst n24 r23
        change Rn _ _ _ 61 _ [.int (iv 0)] _ _ _ _ _
        exact r_iret (pc := 61) dX11_part_61 rfl ⟨by omega, Γ, (-3), kn, kd, ka, kf, kt, kw, kc, (Ext_refl Γ), ht27, hk, by omega, 0, rfl, by exact dn1_b rfl (by omega) (by omega), by (intro h9; first | rfl | omega | (exfalso; omega)), by (intro h9 h8; first | (exfalso; omega) | omega), by (intro h9 h8; first | (exfalso; omega) | rfl)⟩
      · refine r_aload_n (pc := 46) dX11_part_46 (i := 3) rfl rfl ?_
        refine t_getE (pc := 47) (.ref rN) ht20 (rd_CG (by omega) hr_O) fX11_231 dX11_part_47 rfl ?_
        refine r_iload_n (pc := 50) dX11_part_50 (i := 2) rfl rfl ?_
        refine t_ialdX (pc := 51) (t0 := 0) ht20 (rd_CG (by omega) hxr) dX11_part_51 rfl (by omega) (by omega) (fun b28 => ?_)
        have rb28 := (show Rfx rn 0 ((rz : Int) - 1) (sh qi (16 * x1)) by assumption) (Int.toNat x2) (by omega)
        refine r_goto (pc := 52) (tgt := 61) dX11_part_52 (by decide) ?_
        exact r_iret (pc := 61) dX11_part_61 rfl ⟨by omega, Γ, 0, kn, kd, ka, kf, kt, kw, kc, (Ext_refl Γ), ht20, hk, by omega, ((sh qi (16 * x1)) (Int.toNat x2)), rfl, by exact dn1_m rfl (by omega) (by omega), by (intro h9; first | rfl | omega | (exfalso; omega)), by (intro h9 h8; first | (exfalso; omega) | omega), by (intro h9 h8; first | (exfalso; omega) | rfl)⟩
    · refine r_aload_n (pc := 30) dX11_part_30 (i := 3) rfl rfl ?_
      refine t_getE (pc := 31) (.int (iv (rz : Int))) ht5 (rd_CG (by omega) hr_O) fX11_228 dX11_part_31 rfl ?_
      exact r_iret (pc := 34) dX11_part_34 rfl ⟨by omega, Γ, 0, kn, kd, ka, kf, kt, kw, kc, (Ext_refl Γ), ht5, hk, by omega, (rz : Int), rfl, by exact dn1_m rfl (by omega) (by omega), by (intro h9; first | rfl | omega | (exfalso; omega)), by (intro h9 h8; first | (exfalso; omega) | omega), by (intro h9 h8; first | (exfalso; omega) | rfl)⟩
theorem mb_none {q : Nat → Int} {n k z : Int} (h : ∀ j : Nat, (j : Int) < n → 0 ≤ q j ∧ q j ≤ z - 1) (hk : ¬ (0 ≤ k ∧ k < z)) : mbP q n k 0 := fun j => ⟨fun h9 => absurd h9 (Me_0 j), fun h9 => by have h8 := h j h9.1; omega⟩
set_option maxHeartbeats 4000000 in
set_option maxRecDepth 100000 in
theorem y_X11_members {D : va_G} {cI cJ cZ cT : ClassId} {lo b L : Nat} {xs : Nat → Int32} {hp : MH} {n d : Nat} {Γ : TG} {a : Nat} {ct : Int} {rv : Int} {th : Nat → Option Nat} {dn : Int} {dd : Int} {da : Int} {df : Nat → Int} {dt : Nat → Int} {dw : Nat → Int} {dc : Nat → Int} {kn : Int} {kd : Int} {ka : Int} {kf : Nat → Int} {kt : Nat → Int} {kw : Nat → Int} {kc : Nat → Int} {so sz dr mn fr tt wt co : Nat → Int} {nu : Nat → Int64} {qi qc : Nat → Int} {x1 x2 : Int} (hd0 : 4 ≤ d) (hk : EK Γ cI cJ cZ a ct th dn dd da df dt dw dc kn kd ka) (hm : HM Γ cI cJ cZ a ct th so sz dr mn fr tt wt co nu qi qc) (hrv : -2147483648 ≤ rv ∧ rv ≤ 2147483647) (hna : a + 84 ≤ n) (ht : Tw (CG Γ cI cJ cZ cT a ct rv th dn dd da df dt dw dc kn kd ka kf kt kw kc) hp) (hx1 : (-2147483648) ≤ x1 ∧ x1 ≤ 2147483647) (hx2 : (-2147483648) ≤ x2 ∧ x2 ≤ 2147483647) : Mt (gG D cI cJ cZ cT lo b L xs) mX11_members d 0 0 [.ref a, .int (iv x1), .int (iv x2)] hp n (qA Γ cI cJ cZ cT a dn dd da df dt dw dc n ct th (fun r w9 => ∃ v : Int, r = some (.int (iv v)) ∧ w9 = dn1 ct so x1 4 False ∧ (w9 ≠ 0 → v = 0) ∧ (w9 = 0 → 0 ≤ v ∧ mbP (sh qi (16 * x1)) (sz (Int.toNat x1)) x2 v))) := by
  refine Mt.of rfl (Nat.le_of_ble_eq_true rfl) ?_
  refine Rn.pick (lv' := [(0, .ref a), (1, .int (iv x1)), (2, .int (iv x2))]) [0, 1, 2] rfl ?_
  obtain ⟨hct, hth, ⟨hdn, hdd1, hda, har⟩, ⟨hkn, hkd, hka⟩, hsh, hse, hpr, hfl, hsm⟩ := id hk
  refine r_aload_n (pc := 0) dX11_members_0 (i := 0) rfl rfl ?_
  refine r_iconst (pc := 1) (v := iv 0) dX11_members_1 (by decide) ?_
  refine t_putX (pc := 2) (ty := .int) ht CG_0 fX11_19 tyX11 tyX11_ok nmX11 (by decide +kernel) (Or.inl rfl) dX11_members_2 (Nat.le_of_ble_eq_true rfl) rfl rfl rfl (fun hp1 ht2 => ?_)
  have ht3 := RGw_rv ht2
  refine r_aload_n (pc := 5) dX11_members_5 (i := 0) rfl rfl ?_
  refine r_iload_n (pc := 6) dX11_members_6 (i := 1) rfl rfl ?_
  refine u_partsAt (pc := 7) (x := x1) (st := []) hct hm ht3 kX11_140 dX11_members_7 (by omega) (Nat.le_of_ble_eq_true rfl) (by omega) (fun hp4 ht5 hnor => ?_) (fun hp4 ra ht5 hyer hTr => ?_)
  · refine r_astore_nN (pc := 10) (lv' := [(3, .null), (0, .ref a), (1, .int (iv x1)), (2, .int (iv x2))]) dX11_members_10 (i := 3) rfl (by decide) rfl ?_
    refine r_aload_nN (pc := 11) dX11_members_11 (i := 3) rfl rfl ?_
    refine r_ifnonnullN (pc := 12) dX11_members_12 ?_
    refine r_aload_n (pc := 15) dX11_members_15 (i := 0) rfl rfl ?_
    refine r_aload_n (pc := 16) dX11_members_16 (i := 0) rfl rfl ?_
    refine r_iload_n (pc := 17) dX11_members_17 (i := 1) rfl rfl ?_
    obtain ⟨fs10, hfs10⟩ := t_obj ht5 (rd_of CG_0)
    refine r_callV (pc := 18) (as := [.int (iv x1)]) (st := [.ref a]) kX11_110 rfl dX11_members_18 hfs10 (uw_X11_whyNot (d := d - 1) (x1 := x1) (by omega)  ht5 (by omega) (by omega) hm) rfl (by omega) (Nat.le_of_ble_eq_true rfl) (Nat.zero_le _) (Nat.zero_le _) rfl (fun r7 hp6 n8 hq9 => ?_)
    obtain ⟨hnn8, bb_12, ht11, hrr7, hhq90, hhq91⟩ := hq9
    subst n8 r7
    have hhq90 : -2 ≤ bb_12 ∧ bb_12 ≤ -1 := hhq90
    have hhq91 : (bb_12 = -1 ∧ ¬ (0 ≤ x1 ∧ x1 < ct)) ∨ (bb_12 = -2 ∧ 0 ≤ x1 ∧ x1 < ct) := hhq91
    change Rn _ _ _ 21 _ [.int (iv bb_12), .ref a] _ _ _ _ _
    obtain ⟨fs17, hfs17⟩ := t_obj ht11 (rd_of CG_0)
    refine r_callV (pc := 21) (as := [.int (iv bb_12)]) (st := []) kX11_203 rfl dX11_members_21 hfs17 (s_X11_deny (d := d - 1) (x1 := bb_12) (by omega)  ht11 (by omega)) rfl (by omega) (Nat.le_of_ble_eq_true rfl) (Nat.zero_le _) (Nat.zero_le _) rfl (fun r14 hp13 n15 hq16 => ?_)
    obtain ⟨hnn15, ht18, hrr14⟩ := hq16
    subst n15 r14
    change Rn _ _ _ 24 _ [.int (iv 0)] _ _ _ _ _
    exact r_iret (pc := 24) dX11_members_24 rfl ⟨by omega, Γ, bb_12, kn, kd, ka, kf, kt, kw, kc, (Ext_refl Γ), ht18, hk, by omega, 0, rfl, by exact dn1_r (by omega), by (intro h9; first | rfl | omega | (exfalso; omega)), by (intro h9; first | (exfalso; omega) | exact ⟨by omega, mb_none (z := (rz : Int)) (fun j hj => hrxr j (by omega)) (by omega)⟩ | exact ⟨(hryr _ (by omega)).1, by have h8 := hmbr (Int.toNat x2) (by omega); rw [Int.toNat_of_nonneg (show 0 ≤ x2 by omega), ← heNr] at h8; exact h8⟩)⟩
  · obtain ⟨rN, rO, rn, rz, rvo, hr, hltr, hxr, hyr, hrxr, hryr, hmbr, heNr, heZr⟩ := id hTr
    obtain ⟨hr_O, hr_number, hr_nodesOf, hr_b⟩ := id hr
    refine r_astore_n (pc := 10) (lv' := [(3, .ref ra), (0, .ref a), (1, .int (iv x1)), (2, .int (iv x2))]) dX11_members_10 (i := 3) rfl (by decide) rfl ?_
    refine r_aload_n (pc := 11) dX11_members_11 (i := 3) rfl rfl ?_
    refine r_ifnonnull (pc := 12) (tgt := 25) dX11_members_12 (by decide) ?_
    refine r_iload_n (pc := 25) dX11_members_25 (i := 2) rfl rfl ?_
    refine r_aload_n (pc := 26) dX11_members_26 (i := 3) rfl rfl ?_
    refine t_getE (pc := 27) (.int (iv (rz : Int))) ht5 (rd_CG (by omega) hr_O) fX11_228 dX11_members_27 rfl ?_
    refine t_callSI (pc := 30) (as := [.int (iv x2), .int (iv (rz : Int))]) (st := []) kX11_74 dX11_members_30 (t_X11_isNode (d := d - 1) (x0 := x2) (x1 := (rz : Int)) (by omega)   ht5 (by omega) (by omega) ) rfl (by omega) (Nat.le_of_ble_eq_true rfl) rfl (fun hp19 y21 ht20 by21 => ?_)
    obtain ⟨by211, by212⟩ := by21
    refine t_if_eq (pc := 33) (tgt := 45) dX11_members_33 (by decide) (by omega) (fun c33 => ?_) (fun c33 => ?_)
    · refine r_iconst (pc := 45) (v := iv 0) dX11_members_45 (by decide) ?_
      exact r_iret (pc := 46) dX11_members_46 rfl ⟨by omega, Γ, 0, kn, kd, ka, kf, kt, kw, kc, (Ext_refl Γ), ht20, hk, by omega, 0, rfl, by exact dn1_m rfl (by omega) (fun h9 => h9), by (intro h9; first | rfl | omega | (exfalso; omega)), by (intro h9; first | (exfalso; omega) | exact ⟨by omega, mb_none (z := (rz : Int)) (fun j hj => hrxr j (by omega)) (by omega)⟩ | exact ⟨(hryr _ (by omega)).1, by have h8 := hmbr (Int.toNat x2) (by omega); rw [Int.toNat_of_nonneg (show 0 ≤ x2 by omega), ← heNr] at h8; exact h8⟩)⟩
    · refine r_aload_n (pc := 36) dX11_members_36 (i := 3) rfl rfl ?_
      refine t_getE (pc := 37) (.ref rO) ht20 (rd_CG (by omega) hr_O) fX11_235 dX11_members_37 rfl ?_
      refine r_iload_n (pc := 40) dX11_members_40 (i := 2) rfl rfl ?_
      refine t_ialdX (pc := 41) (t0 := 0) ht20 (rd_CG (by omega) hyr) dX11_members_41 rfl (by omega) (by omega) (fun b22 => ?_)
      have rb22 := (show Rfx rn 0 65535 rvo by assumption) (Int.toNat x2) (by omega)
      refine r_goto (pc := 42) (tgt := 46) dX11_members_42 (by decide) ?_
      exact r_iret (pc := 46) dX11_members_46 rfl ⟨by omega, Γ, 0, kn, kd, ka, kf, kt, kw, kc, (Ext_refl Γ), ht20, hk, by omega, (rvo (Int.toNat x2)), rfl, by exact dn1_m rfl (by omega) (fun h9 => h9), by (intro h9; first | rfl | omega | (exfalso; omega)), by (intro h9; first | (exfalso; omega) | exact ⟨by omega, mb_none (z := (rz : Int)) (fun j hj => hrxr j (by omega)) (by omega)⟩ | exact ⟨(hryr _ (by omega)).1, by have h8 := hmbr (Int.toNat x2) (by omega); rw [Int.toNat_of_nonneg (show 0 ≤ x2 by omega), ← heNr] at h8; exact h8⟩)⟩
set_option maxHeartbeats 4000000 in
set_option maxRecDepth 100000 in
theorem y_X11_way {D : va_G} {cI cJ cZ cT : ClassId} {lo b L : Nat} {xs : Nat → Int32} {hp : MH} {n d : Nat} {Γ : TG} {a : Nat} {ct : Int} {rv : Int} {th : Nat → Option Nat} {dn : Int} {dd : Int} {da : Int} {df : Nat → Int} {dt : Nat → Int} {dw : Nat → Int} {dc : Nat → Int} {kn : Int} {kd : Int} {ka : Int} {kf : Nat → Int} {kt : Nat → Int} {kw : Nat → Int} {kc : Nat → Int} {so sz dr mn fr tt wt co : Nat → Int} {nu : Nat → Int64} {qi qc : Nat → Int} {x1 x2 x3 : Int} (hd0 : 4 ≤ d) (hk : EK Γ cI cJ cZ a ct th dn dd da df dt dw dc kn kd ka) (hm : HM Γ cI cJ cZ a ct th so sz dr mn fr tt wt co nu qi qc) (hrv : -2147483648 ≤ rv ∧ rv ≤ 2147483647) (hna : a + 84 ≤ n) (ht : Tw (CG Γ cI cJ cZ cT a ct rv th dn dd da df dt dw dc kn kd ka kf kt kw kc) hp) (hx1 : (-2147483648) ≤ x1 ∧ x1 ≤ 2147483647) (hx2 : (-2147483648) ≤ x2 ∧ x2 ≤ 2147483647) (hx3 : (-2147483648) ≤ x3 ∧ x3 ≤ 2147483647) : Mt (gG D cI cJ cZ cT lo b L xs) mX11_way d 0 0 [.ref a, .int (iv x1), .int (iv x2), .int (iv x3)] hp n (qA Γ cI cJ cZ cT a dn dd da df dt dw dc n ct th (fun r w9 => ∃ v : Int64, r = some (.long v) ∧ w9 = dn1 ct so x1 3 (x3 < 0 ∨ 3 < x3 ∨ x2 < 0 ∨ (sz (Int.toNat x1)) ≤ x2))) := by
  refine Mt.of rfl (Nat.le_of_ble_eq_true rfl) ?_
  refine Rn.pick (lv' := [(0, .ref a), (1, .int (iv x1)), (2, .int (iv x2)), (3, .int (iv x3))]) [0, 1, 2, 3] rfl ?_
  obtain ⟨hct, hth, ⟨hdn, hdd1, hda, har⟩, ⟨hkn, hkd, hka⟩, hsh, hse, hpr, hfl, hsm⟩ := id hk
  refine r_aload_n (pc := 0) dX11_way_0 (i := 0) rfl rfl ?_
  refine r_iconst (pc := 1) (v := iv 0) dX11_way_1 (by decide) ?_
  refine t_putX (pc := 2) (ty := .int) ht CG_0 fX11_19 tyX11 tyX11_ok nmX11 (by decide +kernel) (Or.inl rfl) dX11_way_2 (Nat.le_of_ble_eq_true rfl) rfl rfl rfl (fun hp1 ht2 => ?_)
  have ht3 := RGw_rv ht2
  refine r_aload_n (pc := 5) dX11_way_5 (i := 0) rfl rfl ?_
  refine r_iload_n (pc := 6) dX11_way_6 (i := 1) rfl rfl ?_
  refine u_waysAt (pc := 7) (x := x1) (st := []) hct hm ht3 kX11_217 dX11_way_7 (by omega) (Nat.le_of_ble_eq_true rfl) (by omega) (fun hp4 ht5 hnow => ?_) (fun hp4 wa ht5 hyew hTw => ?_)
  · refine r_astoreN (pc := 10) (lv' := [(4, .null), (0, .ref a), (1, .int (iv x1)), (2, .int (iv x2)), (3, .int (iv x3))]) dX11_way_10 (by decide) rfl ?_
    refine r_aloadN (pc := 12) dX11_way_12 rfl ?_
    refine r_ifnonnullN (pc := 14) dX11_way_14 ?_
    refine r_aload_n (pc := 17) dX11_way_17 (i := 0) rfl rfl ?_
    refine r_aload_n (pc := 18) dX11_way_18 (i := 0) rfl rfl ?_
    refine r_iload_n (pc := 19) dX11_way_19 (i := 1) rfl rfl ?_
    obtain ⟨fs10, hfs10⟩ := t_obj ht5 (rd_of CG_0)
    refine r_callV (pc := 20) (as := [.int (iv x1)]) (st := [.ref a]) kX11_110 rfl dX11_way_20 hfs10 (uw_X11_whyNot (d := d - 1) (x1 := x1) (by omega)  ht5 (by omega) (by omega) hm) rfl (by omega) (Nat.le_of_ble_eq_true rfl) (Nat.zero_le _) (Nat.zero_le _) rfl (fun r7 hp6 n8 hq9 => ?_)
    obtain ⟨hnn8, bb_12, ht11, hrr7, hhq90, hhq91⟩ := hq9
    subst n8 r7
    have hhq90 : -2 ≤ bb_12 ∧ bb_12 ≤ -1 := hhq90
    have hhq91 : (bb_12 = -1 ∧ ¬ (0 ≤ x1 ∧ x1 < ct)) ∨ (bb_12 = -2 ∧ 0 ≤ x1 ∧ x1 < ct) := hhq91
    change Rn _ _ _ 23 _ [.int (iv bb_12), .ref a] _ _ _ _ _
    obtain ⟨fs17, hfs17⟩ := t_obj ht11 (rd_of CG_0)
    refine r_callV (pc := 23) (as := [.int (iv bb_12)]) (st := []) kX11_203 rfl dX11_way_23 hfs17 (s_X11_deny (d := d - 1) (x1 := bb_12) (by omega)  ht11 (by omega)) rfl (by omega) (Nat.le_of_ble_eq_true rfl) (Nat.zero_le _) (Nat.zero_le _) rfl (fun r14 hp13 n15 hq16 => ?_)
    obtain ⟨hnn15, ht18, hrr14⟩ := hq16
    subst n15 r14
    change Rn _ _ _ 26 _ [.int (iv 0)] _ _ _ _ _
    refine r_i2l (pc := 26) (v := (iv 0).toInt64) dX11_way_26 rfl ?_
    exact r_lret (pc := 27) dX11_way_27 rfl ⟨by omega, Γ, bb_12, kn, kd, ka, kf, kt, kw, kc, (Ext_refl Γ), ht18, hk, by omega, ((iv 0).toInt64), rfl, by exact dn1_r (by omega)⟩
  · obtain ⟨wn, hw, hltw, heNw⟩ := id hTw
    obtain ⟨hw_O, hw_state, hw_worth, hw_length, hw_many, hw_rows, hw_b⟩ := id hw
    refine r_astore (pc := 10) (lv' := [(4, .ref wa), (0, .ref a), (1, .int (iv x1)), (2, .int (iv x2)), (3, .int (iv x3))]) dX11_way_10 (by decide) rfl ?_
    refine r_aload (pc := 12) dX11_way_12 rfl ?_
    refine r_ifnonnull (pc := 14) (tgt := 28) dX11_way_14 (by decide) ?_
    refine r_iload_n (pc := 28) dX11_way_28 (i := 2) rfl rfl ?_
    refine r_aload (pc := 29) dX11_way_29 rfl ?_
    refine t_getE (pc := 31) (.int (iv (wn : Int))) ht5 (rd_CG (by omega) hw_O) fX11_221 dX11_way_31 rfl ?_
    refine t_callSI (pc := 34) (as := [.int (iv x2), .int (iv (wn : Int))]) (st := []) kX11_74 dX11_way_34 (t_X11_isNode (d := d - 1) (x0 := x2) (x1 := (wn : Int)) (by omega)   ht5 (by omega) (by omega) ) rfl (by omega) (Nat.le_of_ble_eq_true rfl) rfl (fun hp19 y21 ht20 by21 => ?_)
    obtain ⟨by211, by212⟩ := by21
    refine t_if_eq (pc := 37) (tgt := 49) dX11_way_37 (by decide) (by omega) (fun c37 => ?_) (fun c37 => ?_)
    · refine r_aload_n (pc := 49) dX11_way_49 (i := 0) rfl rfl ?_
      refine r_bipush (pc := 50) (v := iv (-3)) dX11_way_50 (by decide) ?_
      obtain ⟨fs26, hfs26⟩ := t_obj ht20 (rd_of CG_0)
      refine r_callV (pc := 52) (as := [.int (iv (-3))]) (st := []) kX11_203 rfl dX11_way_52 hfs26 (s_X11_deny (d := d - 1) (x1 := (-3)) (by omega)  ht20 (by omega)) rfl (by omega) (Nat.le_of_ble_eq_true rfl) (Nat.zero_le _) (Nat.zero_le _) rfl (fun r23 hp22 n24 hq25 => ?_)
      obtain ⟨hnn24, ht27, hrr23⟩ := hq25
      subst n24 r23
      change Rn _ _ _ 55 _ [.int (iv 0)] _ _ _ _ _
      refine r_i2l (pc := 55) (v := (iv 0).toInt64) dX11_way_55 rfl ?_
      exact r_lret (pc := 56) dX11_way_56 rfl ⟨by omega, Γ, (-3), kn, kd, ka, kf, kt, kw, kc, (Ext_refl Γ), ht27, hk, by omega, ((iv 0).toInt64), rfl, by exact dn1_b rfl (by omega) (by omega)⟩
    · refine r_iload_n (pc := 40) dX11_way_40 (i := 3) rfl rfl ?_
      refine t_if_lt (pc := 41) (tgt := 49) dX11_way_41 (by decide) (by omega) (fun c41 => ?_) (fun c41 => ?_)
      · refine r_aload_n (pc := 49) dX11_way_49 (i := 0) rfl rfl ?_
        refine r_bipush (pc := 50) (v := iv (-3)) dX11_way_50 (by decide) ?_
        obtain ⟨fs32, hfs32⟩ := t_obj ht20 (rd_of CG_0)
        refine r_callV (pc := 52) (as := [.int (iv (-3))]) (st := []) kX11_203 rfl dX11_way_52 hfs32 (s_X11_deny (d := d - 1) (x1 := (-3)) (by omega)  ht20 (by omega)) rfl (by omega) (Nat.le_of_ble_eq_true rfl) (Nat.zero_le _) (Nat.zero_le _) rfl (fun r29 hp28 n30 hq31 => ?_)
        obtain ⟨hnn30, ht33, hrr29⟩ := hq31
        subst n30 r29
        change Rn _ _ _ 55 _ [.int (iv 0)] _ _ _ _ _
        refine r_i2l (pc := 55) (v := (iv 0).toInt64) dX11_way_55 rfl ?_
        exact r_lret (pc := 56) dX11_way_56 rfl ⟨by omega, Γ, (-3), kn, kd, ka, kf, kt, kw, kc, (Ext_refl Γ), ht33, hk, by omega, ((iv 0).toInt64), rfl, by exact dn1_b rfl (by omega) (by omega)⟩
      · refine r_iload_n (pc := 44) dX11_way_44 (i := 3) rfl rfl ?_
        refine r_iconst (pc := 45) (v := iv 3) dX11_way_45 (by decide) ?_
        refine t_icmp_le (pc := 46) (tgt := 57) dX11_way_46 (by decide) (by omega) (by omega) (fun c46 => ?_) (fun c46 => ?_)
        · refine r_aload (pc := 57) dX11_way_57 rfl ?_
          refine r_iload_n (pc := 59) dX11_way_59 (i := 2) rfl rfl ?_
          refine r_iload_n (pc := 60) dX11_way_60 (i := 3) rfl rfl ?_
          refine t_callVJ (pc := 61) (as := [.int (iv x2), .int (iv x3)]) (st := []) ht20 (rd_CG (by omega) hw_O) kX11_222 rfl dX11_way_61 (t_X10_detail (d := d - 1) (x1 := x2) (x2 := x3) (by omega) (rd_CG (by omega) hw_O) (rd_CG (by omega) hw_state) (rd_CG (by omega) hw_worth) (rd_CG (by omega) hw_length) (rd_CG (by omega) hw_many) (rd_CG (by omega) hw_rows) hw_b ht20 (by omega) (by omega)) rfl (by omega) (Nat.le_of_ble_eq_true rfl) rfl (fun hp35 y34 ht36 _ => ?_)
          exact r_lret (pc := 64) dX11_way_64 rfl ⟨by omega, Γ, 0, kn, kd, ka, kf, kt, kw, kc, (Ext_refl Γ), ht36, hk, by omega, y34, rfl, by exact dn1_m rfl (by omega) (by omega)⟩
        · refine r_aload_n (pc := 49) dX11_way_49 (i := 0) rfl rfl ?_
          refine r_bipush (pc := 50) (v := iv (-3)) dX11_way_50 (by decide) ?_
          obtain ⟨fs41, hfs41⟩ := t_obj ht20 (rd_of CG_0)
          refine r_callV (pc := 52) (as := [.int (iv (-3))]) (st := []) kX11_203 rfl dX11_way_52 hfs41 (s_X11_deny (d := d - 1) (x1 := (-3)) (by omega)  ht20 (by omega)) rfl (by omega) (Nat.le_of_ble_eq_true rfl) (Nat.zero_le _) (Nat.zero_le _) rfl (fun r38 hp37 n39 hq40 => ?_)
          obtain ⟨hnn39, ht42, hrr38⟩ := hq40
          subst n39 r38
          change Rn _ _ _ 55 _ [.int (iv 0)] _ _ _ _ _
          refine r_i2l (pc := 55) (v := (iv 0).toInt64) dX11_way_55 rfl ?_
          exact r_lret (pc := 56) dX11_way_56 rfl ⟨by omega, Γ, (-3), kn, kd, ka, kf, kt, kw, kc, (Ext_refl Γ), ht42, hk, by omega, ((iv 0).toInt64), rfl, by exact dn1_b rfl (by omega) (by omega)⟩
set_option maxHeartbeats 4000000 in
set_option maxRecDepth 100000 in
theorem y_X11_step {D : va_G} {cI cJ cZ cT : ClassId} {lo b L : Nat} {xs : Nat → Int32} {hp : MH} {n d : Nat} {Γ : TG} {a : Nat} {ct : Int} {rv : Int} {th : Nat → Option Nat} {dn : Int} {dd : Int} {da : Int} {df : Nat → Int} {dt : Nat → Int} {dw : Nat → Int} {dc : Nat → Int} {kn : Int} {kd : Int} {ka : Int} {kf : Nat → Int} {kt : Nat → Int} {kw : Nat → Int} {kc : Nat → Int} {so sz dr mn fr tt wt co : Nat → Int} {nu : Nat → Int64} {qi qc : Nat → Int} {x1 x2 x3 : Int} (hd0 : 4 ≤ d) (hk : EK Γ cI cJ cZ a ct th dn dd da df dt dw dc kn kd ka) (hm : HM Γ cI cJ cZ a ct th so sz dr mn fr tt wt co nu qi qc) (hrv : -2147483648 ≤ rv ∧ rv ≤ 2147483647) (hna : a + 84 ≤ n) (ht : Tw (CG Γ cI cJ cZ cT a ct rv th dn dd da df dt dw dc kn kd ka kf kt kw kc) hp) (hx1 : (-2147483648) ≤ x1 ∧ x1 ≤ 2147483647) (hx2 : (-2147483648) ≤ x2 ∧ x2 ≤ 2147483647) (hx3 : (-2147483648) ≤ x3 ∧ x3 ≤ 2147483647) : Mt (gG D cI cJ cZ cT lo b L xs) mX11_step d 0 0 [.ref a, .int (iv x1), .int (iv x2), .int (iv x3)] hp n (qA Γ cI cJ cZ cT a dn dd da df dt dw dc n ct th (fun r w9 => ∃ v : Int, r = some (.int (iv v)) ∧ w9 = dn1 ct so x1 3 (¬ (0 ≤ x2 ∧ x2 < (sz (Int.toNat x1)))) ∧ (-2147483648 ≤ v ∧ v ≤ 2147483647))) := by
  refine Mt.of rfl (Nat.le_of_ble_eq_true rfl) ?_
  refine Rn.pick (lv' := [(0, .ref a), (1, .int (iv x1)), (2, .int (iv x2)), (3, .int (iv x3))]) [0, 1, 2, 3] rfl ?_
  obtain ⟨hct, hth, ⟨hdn, hdd1, hda, har⟩, ⟨hkn, hkd, hka⟩, hsh, hse, hpr, hfl, hsm⟩ := id hk
  refine r_aload_n (pc := 0) dX11_step_0 (i := 0) rfl rfl ?_
  refine r_iconst (pc := 1) (v := iv 0) dX11_step_1 (by decide) ?_
  refine t_putX (pc := 2) (ty := .int) ht CG_0 fX11_19 tyX11 tyX11_ok nmX11 (by decide +kernel) (Or.inl rfl) dX11_step_2 (Nat.le_of_ble_eq_true rfl) rfl rfl rfl (fun hp1 ht2 => ?_)
  have ht3 := RGw_rv ht2
  refine r_aload_n (pc := 5) dX11_step_5 (i := 0) rfl rfl ?_
  refine r_iload_n (pc := 6) dX11_step_6 (i := 1) rfl rfl ?_
  refine u_waysAt (pc := 7) (x := x1) (st := []) hct hm ht3 kX11_217 dX11_step_7 (by omega) (Nat.le_of_ble_eq_true rfl) (by omega) (fun hp4 ht5 hnow => ?_) (fun hp4 wa ht5 hyew hTw => ?_)
  · refine r_astoreN (pc := 10) (lv' := [(4, .null), (0, .ref a), (1, .int (iv x1)), (2, .int (iv x2)), (3, .int (iv x3))]) dX11_step_10 (by decide) rfl ?_
    refine r_aloadN (pc := 12) dX11_step_12 rfl ?_
    refine r_ifnonnullN (pc := 14) dX11_step_14 ?_
    refine r_aload_n (pc := 17) dX11_step_17 (i := 0) rfl rfl ?_
    refine r_aload_n (pc := 18) dX11_step_18 (i := 0) rfl rfl ?_
    refine r_iload_n (pc := 19) dX11_step_19 (i := 1) rfl rfl ?_
    obtain ⟨fs10, hfs10⟩ := t_obj ht5 (rd_of CG_0)
    refine r_callV (pc := 20) (as := [.int (iv x1)]) (st := [.ref a]) kX11_110 rfl dX11_step_20 hfs10 (uw_X11_whyNot (d := d - 1) (x1 := x1) (by omega)  ht5 (by omega) (by omega) hm) rfl (by omega) (Nat.le_of_ble_eq_true rfl) (Nat.zero_le _) (Nat.zero_le _) rfl (fun r7 hp6 n8 hq9 => ?_)
    obtain ⟨hnn8, bb_12, ht11, hrr7, hhq90, hhq91⟩ := hq9
    subst n8 r7
    have hhq90 : -2 ≤ bb_12 ∧ bb_12 ≤ -1 := hhq90
    have hhq91 : (bb_12 = -1 ∧ ¬ (0 ≤ x1 ∧ x1 < ct)) ∨ (bb_12 = -2 ∧ 0 ≤ x1 ∧ x1 < ct) := hhq91
    change Rn _ _ _ 23 _ [.int (iv bb_12), .ref a] _ _ _ _ _
    obtain ⟨fs17, hfs17⟩ := t_obj ht11 (rd_of CG_0)
    refine r_callV (pc := 23) (as := [.int (iv bb_12)]) (st := []) kX11_203 rfl dX11_step_23 hfs17 (s_X11_deny (d := d - 1) (x1 := bb_12) (by omega)  ht11 (by omega)) rfl (by omega) (Nat.le_of_ble_eq_true rfl) (Nat.zero_le _) (Nat.zero_le _) rfl (fun r14 hp13 n15 hq16 => ?_)
    obtain ⟨hnn15, ht18, hrr14⟩ := hq16
    subst n15 r14
    change Rn _ _ _ 26 _ [.int (iv 0)] _ _ _ _ _
    exact r_iret (pc := 26) dX11_step_26 rfl ⟨by omega, Γ, bb_12, kn, kd, ka, kf, kt, kw, kc, (Ext_refl Γ), ht18, hk, by omega, 0, rfl, by exact dn1_r (by omega), by omega⟩
  · obtain ⟨wn, hw, hltw, heNw⟩ := id hTw
    obtain ⟨hw_O, hw_state, hw_worth, hw_length, hw_many, hw_rows, hw_b⟩ := id hw
    refine r_astore (pc := 10) (lv' := [(4, .ref wa), (0, .ref a), (1, .int (iv x1)), (2, .int (iv x2)), (3, .int (iv x3))]) dX11_step_10 (by decide) rfl ?_
    refine r_aload (pc := 12) dX11_step_12 rfl ?_
    refine r_ifnonnull (pc := 14) (tgt := 27) dX11_step_14 (by decide) ?_
    refine r_iload_n (pc := 27) dX11_step_27 (i := 2) rfl rfl ?_
    refine r_aload (pc := 28) dX11_step_28 rfl ?_
    refine t_getE (pc := 30) (.int (iv (wn : Int))) ht5 (rd_CG (by omega) hw_O) fX11_221 dX11_step_30 rfl ?_
    refine t_callSI (pc := 33) (as := [.int (iv x2), .int (iv (wn : Int))]) (st := []) kX11_74 dX11_step_33 (t_X11_isNode (d := d - 1) (x0 := x2) (x1 := (wn : Int)) (by omega)   ht5 (by omega) (by omega) ) rfl (by omega) (Nat.le_of_ble_eq_true rfl) rfl (fun hp19 y21 ht20 by21 => ?_)
    obtain ⟨by211, by212⟩ := by21
    refine t_if_eq (pc := 36) (tgt := 49) dX11_step_36 (by decide) (by omega) (fun c36 => ?_) (fun c36 => ?_)
    · refine r_aload_n (pc := 49) dX11_step_49 (i := 0) rfl rfl ?_
      refine r_bipush (pc := 50) (v := iv (-3)) dX11_step_50 (by decide) ?_
      obtain ⟨fs26, hfs26⟩ := t_obj ht20 (rd_of CG_0)
      refine r_callV (pc := 52) (as := [.int (iv (-3))]) (st := []) kX11_203 rfl dX11_step_52 hfs26 (s_X11_deny (d := d - 1) (x1 := (-3)) (by omega)  ht20 (by omega)) rfl (by omega) (Nat.le_of_ble_eq_true rfl) (Nat.zero_le _) (Nat.zero_le _) rfl (fun r23 hp22 n24 hq25 => ?_)
      obtain ⟨hnn24, ht27, hrr23⟩ := hq25
      subst n24 r23
      change Rn _ _ _ 55 _ [.int (iv 0)] _ _ _ _ _
      exact r_iret (pc := 55) dX11_step_55 rfl ⟨by omega, Γ, (-3), kn, kd, ka, kf, kt, kw, kc, (Ext_refl Γ), ht27, hk, by omega, 0, rfl, by exact dn1_b rfl (by omega) (by omega), by omega⟩
    · refine r_aload (pc := 39) dX11_step_39 rfl ?_
      refine r_iload_n (pc := 41) dX11_step_41 (i := 2) rfl rfl ?_
      refine r_iload_n (pc := 42) dX11_step_42 (i := 3) rfl rfl ?_
      refine t_callVR (pc := 43) (as := [.int (iv x2), .int (iv x3)]) (st := []) ht20 (rd_CG (by omega) hw_O) kX11_225 rfl dX11_step_43 (t_X10_arcOnWay (d := d - 1) (x1 := x2) (x2 := x3) (by omega) (rd_CG (by omega) hw_O) (rd_CG (by omega) hw_state) (rd_CG (by omega) hw_worth) (rd_CG (by omega) hw_length) (rd_CG (by omega) hw_many) (rd_CG (by omega) hw_rows) hw_b ht20 (by omega) (by omega)) rfl (by omega) (Nat.le_of_ble_eq_true rfl) rfl (fun hp29 y28 ht30 by28 => ?_)
      refine r_goto (pc := 46) (tgt := 55) dX11_step_46 (by decide) ?_
      exact r_iret (pc := 55) dX11_step_55 rfl ⟨by omega, Γ, 0, kn, kd, ka, kf, kt, kw, kc, (Ext_refl Γ), ht30, hk, by omega, y28, rfl, by exact dn1_m rfl (by omega) (by omega), by omega⟩
set_option maxHeartbeats 4000000 in
set_option maxRecDepth 100000 in
theorem y_X11_refused {D : va_G} {cI cJ cZ cT : ClassId} {lo b L : Nat} {xs : Nat → Int32} {hp : MH} {n d : Nat} {Γ : TG} {a : Nat} {ct : Int} {rv : Int} {th : Nat → Option Nat} {dn : Int} {dd : Int} {da : Int} {df : Nat → Int} {dt : Nat → Int} {dw : Nat → Int} {dc : Nat → Int} {kn : Int} {kd : Int} {ka : Int} {kf : Nat → Int} {kt : Nat → Int} {kw : Nat → Int} {kc : Nat → Int} {so sz dr mn fr tt wt co : Nat → Int} {nu : Nat → Int64} {qi qc : Nat → Int} (hd0 : 0 ≤ d) (hk : EK Γ cI cJ cZ a ct th dn dd da df dt dw dc kn kd ka) (hm : HM Γ cI cJ cZ a ct th so sz dr mn fr tt wt co nu qi qc) (hrv : -2147483648 ≤ rv ∧ rv ≤ 2147483647) (hna : a + 84 ≤ n) (ht : Tw (CG Γ cI cJ cZ cT a ct rv th dn dd da df dt dw dc kn kd ka kf kt kw kc) hp)  : Mt (gG D cI cJ cZ cT lo b L xs) mX11_refused d 0 0 [.ref a] hp n (qA Γ cI cJ cZ cT a dn dd da df dt dw dc n ct th (fun r w9 => ∃ v : Int, r = some (.int (iv v)) ∧ v = rv ∧ w9 = rv)) := by
  refine Mt.of rfl (Nat.le_of_ble_eq_true rfl) ?_
  refine Rn.pick (lv' := [(0, .ref a)]) [0] rfl ?_
  obtain ⟨hct, hth, ⟨hdn, hdd1, hda, har⟩, ⟨hkn, hkd, hka⟩, hsh, hse, hpr, hfl, hsm⟩ := id hk
  refine r_aload_n (pc := 0) dX11_refused_0 (i := 0) rfl rfl ?_
  refine t_getE (pc := 1) (.int (iv rv)) ht (rd_of CG_0) fX11_19 dX11_refused_1 rfl ?_
  exact r_iret (pc := 4) dX11_refused_4 rfl ⟨by omega, Γ, rv, kn, kd, ka, kf, kt, kw, kc, (Ext_refl Γ), ht, hk, by omega, rv, rfl, by rfl, by rfl⟩
set_option maxHeartbeats 4000000 in
set_option maxRecDepth 100000 in
theorem y_X11_handles {D : va_G} {cI cJ cZ cT : ClassId} {lo b L : Nat} {xs : Nat → Int32} {hp : MH} {n d : Nat} {Γ : TG} {a : Nat} {ct : Int} {rv : Int} {th : Nat → Option Nat} {dn : Int} {dd : Int} {da : Int} {df : Nat → Int} {dt : Nat → Int} {dw : Nat → Int} {dc : Nat → Int} {kn : Int} {kd : Int} {ka : Int} {kf : Nat → Int} {kt : Nat → Int} {kw : Nat → Int} {kc : Nat → Int} {so sz dr mn fr tt wt co : Nat → Int} {nu : Nat → Int64} {qi qc : Nat → Int} (hd0 : 0 ≤ d) (hk : EK Γ cI cJ cZ a ct th dn dd da df dt dw dc kn kd ka) (hm : HM Γ cI cJ cZ a ct th so sz dr mn fr tt wt co nu qi qc) (hrv : -2147483648 ≤ rv ∧ rv ≤ 2147483647) (hna : a + 84 ≤ n) (ht : Tw (CG Γ cI cJ cZ cT a ct rv th dn dd da df dt dw dc kn kd ka kf kt kw kc) hp)  : Mt (gG D cI cJ cZ cT lo b L xs) mX11_handles d 0 0 [.ref a] hp n (qA Γ cI cJ cZ cT a dn dd da df dt dw dc n ct th (fun r w9 => ∃ v : Int, r = some (.int (iv v)) ∧ v = ct ∧ w9 = 0)) := by
  refine Mt.of rfl (Nat.le_of_ble_eq_true rfl) ?_
  refine Rn.pick (lv' := [(0, .ref a)]) [0] rfl ?_
  obtain ⟨hct, hth, ⟨hdn, hdd1, hda, har⟩, ⟨hkn, hkd, hka⟩, hsh, hse, hpr, hfl, hsm⟩ := id hk
  refine r_aload_n (pc := 0) dX11_handles_0 (i := 0) rfl rfl ?_
  refine r_iconst (pc := 1) (v := iv 0) dX11_handles_1 (by decide) ?_
  refine t_putX (pc := 2) (ty := .int) ht CG_0 fX11_19 tyX11 tyX11_ok nmX11 (by decide +kernel) (Or.inl rfl) dX11_handles_2 (Nat.le_of_ble_eq_true rfl) rfl rfl rfl (fun hp1 ht2 => ?_)
  have ht3 := RGw_rv ht2
  refine r_aload_n (pc := 5) dX11_handles_5 (i := 0) rfl rfl ?_
  refine t_getE (pc := 6) (.int (iv ct)) ht3 (rd_of CG_0) fX11_15 dX11_handles_6 rfl ?_
  exact r_iret (pc := 9) dX11_handles_9 rfl ⟨by omega, Γ, 0, kn, kd, ka, kf, kt, kw, kc, (Ext_refl Γ), ht3, hk, by omega, ct, rfl, by rfl, by rfl⟩
theorem u_sortNumber {D : va_G} {cI cJ cZ cT : ClassId} {lo b L : Nat} {xs : Nat → Int32} {M : MM} {d pc : Nat} {lv : List (Nat × Value)} {st : List Value} {hp : MH} {n kr wr : Nat} {Po : Option Value → MH → Nat → Prop} {Γ : TG} {a : Nat} {ct : Int} {rv : Int} {th : Nat → Option Nat} {dn : Int} {dd : Int} {da : Int} {df : Nat → Int} {dt : Nat → Int} {dw : Nat → Int} {dc : Nat → Int} {kn : Int} {kd : Int} {ka : Int} {kf : Nat → Int} {kt : Nat → Int} {kw : Nat → Int} {kc : Nat → Int} {so sz dr mn fr tt wt co : Nat → Int} {nu : Nat → Int64} {qi qc : Nat → Int} {t i : Nat} (hT : HT Γ cI cJ cZ a t so sz dr mn fr tt wt co nu qi qc i) (ht : Tw (CG Γ cI cJ cZ cT a ct rv th dn dd da df dt dw dc kn kd ka kf kt kw kc) hp) (hM : M.1.cls = RX11) (hd : decode M.2.1 pc = .ok (.invokevirtual 206, 3)) (hdd : 1 ≤ d) (hst : (st.map fun v => v.category).sum ≤ 8) (kk : ∀ (hp1 : MH) (y : Int), Tw (CG Γ cI cJ cZ cT a ct rv th dn dd da df dt dw dc kn kd ka kf kt kw kc) hp1 → (1 ≤ y ∧ y ≤ 4) ∧ y = so i → Rn (gG D cI cJ cZ cT lo b L xs) M d (pc + 3) lv (.int (iv y) :: st) hp1 n kr wr Po) : Rn (gG D cI cJ cZ cT lo b L xs) M d pc lv (.ref t :: st) hp n kr wr Po := by
  rcases hT with ⟨es, hT⟩ | ⟨es, hT⟩ | ⟨es, hT⟩ | ⟨es, hT⟩
  · obtain ⟨v0, v1, v2, v3, v4, v5, v6, v7, v8, v9, v10, v11, v12, v13, hob⟩ := ThG_obj ht hT.th
    refine r_callT (pc := pc) (q := (RX3, TX3, 14)) (by rw [hM]; exact kT_X3) (show "GraphEngine$Thing" ∈ aos by decide) rfl hd hob (t_X3_sortNumber (d := d - 1) (by omega) ht) (by omega) hst (fun r hp1 n1 hq => ?_)
    obtain ⟨rfl, h2, y, rfl, rfl⟩ := hq
    exact kk hp1 _ h2 ⟨by decide, es.symm⟩
  · obtain ⟨v0, v1, hob⟩ := ThC_obj ht hT.th
    refine r_callT (pc := pc) (q := (RX0, TX0, 2)) (by rw [hM]; exact kT_X0) (show "GraphEngine$Thing" ∈ aos by decide) rfl hd hob (t_X0_sortNumber (d := d - 1) (by omega) ht) (by omega) hst (fun r hp1 n1 hq => ?_)
    obtain ⟨rfl, h2, y, rfl, rfl⟩ := hq
    exact kk hp1 _ h2 ⟨by decide, es.symm⟩
  · obtain ⟨v0, v1, v2, v3, v4, v5, hob⟩ := ThW_obj ht hT.th
    refine r_callT (pc := pc) (q := (RX10, TX10, 6)) (by rw [hM]; exact kT_X10) (show "GraphEngine$Thing" ∈ aos by decide) rfl hd hob (t_X10_sortNumber (d := d - 1) (by omega) ht) (by omega) hst (fun r hp1 n1 hq => ?_)
    obtain ⟨rfl, h2, y, rfl, rfl⟩ := hq
    exact kk hp1 _ h2 ⟨by decide, es.symm⟩
  · obtain ⟨v0, v1, v2, v3, hob⟩ := ThQ_obj ht hT.th
    refine r_callT (pc := pc) (q := (RX5, TX5, 4)) (by rw [hM]; exact kT_X5) (show "GraphEngine$Thing" ∈ aos by decide) rfl hd hob (t_X5_sortNumber (d := d - 1) (by omega) ht) (by omega) hst (fun r hp1 n1 hq => ?_)
    obtain ⟨rfl, h2, y, rfl, rfl⟩ := hq
    exact kk hp1 _ h2 ⟨by decide, es.symm⟩
set_option maxHeartbeats 4000000 in
set_option maxRecDepth 100000 in
theorem y_X11_sort {D : va_G} {cI cJ cZ cT : ClassId} {lo b L : Nat} {xs : Nat → Int32} {hp : MH} {n d : Nat} {Γ : TG} {a : Nat} {ct : Int} {rv : Int} {th : Nat → Option Nat} {dn : Int} {dd : Int} {da : Int} {df : Nat → Int} {dt : Nat → Int} {dw : Nat → Int} {dc : Nat → Int} {kn : Int} {kd : Int} {ka : Int} {kf : Nat → Int} {kt : Nat → Int} {kw : Nat → Int} {kc : Nat → Int} {so sz dr mn fr tt wt co : Nat → Int} {nu : Nat → Int64} {qi qc : Nat → Int} {x1 : Int} (hd0 : 3 ≤ d) (hk : EK Γ cI cJ cZ a ct th dn dd da df dt dw dc kn kd ka) (hm : HM Γ cI cJ cZ a ct th so sz dr mn fr tt wt co nu qi qc) (hrv : -2147483648 ≤ rv ∧ rv ≤ 2147483647) (hna : a + 84 ≤ n) (ht : Tw (CG Γ cI cJ cZ cT a ct rv th dn dd da df dt dw dc kn kd ka kf kt kw kc) hp) (hx1 : (-2147483648) ≤ x1 ∧ x1 ≤ 2147483647) : Mt (gG D cI cJ cZ cT lo b L xs) mX11_sort d 0 0 [.ref a, .int (iv x1)] hp n (qA Γ cI cJ cZ cT a dn dd da df dt dw dc n ct th (fun r w9 => ∃ v : Int, r = some (.int (iv v)) ∧ (0 ≤ x1 ∧ x1 < ct → v = so (Int.toNat x1) ∧ w9 = 0) ∧ (¬ (0 ≤ x1 ∧ x1 < ct) → v = 0 ∧ w9 = -1))) := by
  refine Mt.of rfl (Nat.le_of_ble_eq_true rfl) ?_
  refine Rn.pick (lv' := [(0, .ref a), (1, .int (iv x1))]) [0, 1] rfl ?_
  obtain ⟨hct, hth, ⟨hdn, hdd1, hda, har⟩, ⟨hkn, hkd, hka⟩, hsh, hse, hpr, hfl, hsm⟩ := id hk
  refine r_aload_n (pc := 0) dX11_sort_0 (i := 0) rfl rfl ?_
  refine r_iconst (pc := 1) (v := iv 0) dX11_sort_1 (by decide) ?_
  refine t_putX (pc := 2) (ty := .int) ht CG_0 fX11_19 tyX11 tyX11_ok nmX11 (by decide +kernel) (Or.inl rfl) dX11_sort_2 (Nat.le_of_ble_eq_true rfl) rfl rfl rfl (fun hp1 ht2 => ?_)
  have ht3 := RGw_rv ht2
  refine r_aload_n (pc := 5) dX11_sort_5 (i := 0) rfl rfl ?_
  refine r_iload_n (pc := 6) dX11_sort_6 (i := 1) rfl rfl ?_
  refine u_thingAt (pc := 7) (x := x1) (st := []) hct hm ht3 kX11_199 dX11_sort_7 (by omega) (Nat.le_of_ble_eq_true rfl) (by omega) (fun hp4 ht5 hno => ?_) (fun hp4 t1 ht5 hye _ hT1 => ?_)
  · refine r_astore_nN (pc := 10) (lv' := [(2, .null), (0, .ref a), (1, .int (iv x1))]) dX11_sort_10 (i := 2) rfl (by decide) rfl ?_
    refine r_aload_nN (pc := 11) dX11_sort_11 (i := 2) rfl rfl ?_
    refine r_ifnonnullN (pc := 12) dX11_sort_12 ?_
    refine r_aload_n (pc := 15) dX11_sort_15 (i := 0) rfl rfl ?_
    refine r_iconst (pc := 16) (v := iv (-1)) dX11_sort_16 (by decide) ?_
    obtain ⟨fs10, hfs10⟩ := t_obj ht5 (rd_of CG_0)
    refine r_callV (pc := 17) (as := [.int (iv (-1))]) (st := []) kX11_203 rfl dX11_sort_17 hfs10 (s_X11_deny (d := d - 1) (x1 := (-1)) (by omega)  ht5 (by omega)) rfl (by omega) (Nat.le_of_ble_eq_true rfl) (Nat.zero_le _) (Nat.zero_le _) rfl (fun r7 hp6 n8 hq9 => ?_)
    obtain ⟨hnn8, ht11, hrr7⟩ := hq9
    subst n8 r7
    change Rn _ _ _ 20 _ [.int (iv 0)] _ _ _ _ _
    refine r_goto (pc := 20) (tgt := 27) dX11_sort_20 (by decide) ?_
    exact r_iret (pc := 27) dX11_sort_27 rfl ⟨by omega, Γ, (-1), kn, kd, ka, kf, kt, kw, kc, (Ext_refl Γ), ht11, hk, by omega, 0, rfl, by (intro h9; omega), by (intro h9; omega)⟩
  · refine r_astore_n (pc := 10) (lv' := [(2, .ref t1), (0, .ref a), (1, .int (iv x1))]) dX11_sort_10 (i := 2) rfl (by decide) rfl ?_
    refine r_aload_n (pc := 11) dX11_sort_11 (i := 2) rfl rfl ?_
    refine r_ifnonnull (pc := 12) (tgt := 23) dX11_sort_12 (by decide) ?_
    refine r_aload_n (pc := 23) dX11_sort_23 (i := 2) rfl rfl ?_
    refine u_sortNumber (pc := 24) (st := []) hT1 ht5 rfl dX11_sort_24 (by omega) (Nat.le_of_ble_eq_true rfl) (fun hp13 y12 ht14 by12 => ?_)
    exact r_iret (pc := 27) dX11_sort_27 rfl ⟨by omega, Γ, 0, kn, kd, ka, kf, kt, kw, kc, (Ext_refl Γ), ht14, hk, by omega, y12, rfl, by (intro h9; omega), by (intro h9; omega)⟩
set_option maxHeartbeats 4000000 in
set_option maxRecDepth 100000 in
theorem c_X11_isQuestionx {D : va_G} {cI cJ cZ cT : ClassId} {lo b L : Nat} {xs : Nat → Int32} {hp : MH} {n d : Nat} {Γ : TG} {ga : Nat} {gF : Nat} {gT : Nat} {gW : Nat} {gC : Nat} {gTl : Nat} {gHd : Nat} {gBy : Nat} {gOu : Nat} {gIn : Nat} {gJo : Nat} {gn : Nat} {gm : Nat} {gq : Nat} {gdr : Int} {F T W C Tl Hd By Ou In Jo : Nat → Int} {x1 x2 x3 : Int} (hd0 : 1 ≤ d) (hg : TyG Γ cI cJ cZ ga gF gT gW gC gTl gHd gBy gOu gIn gJo gn gm gq gdr) (hxg : XG Γ cI gF gT gW gC gTl gHd gBy gOu gIn gJo gn gm gq F T W C Tl Hd By Ou In Jo) (ht : Tw Γ hp) (hx1 : (-2147483648) ≤ x1 ∧ x1 ≤ 2147483647) (hx2 : (-2147483648) ≤ x2 ∧ x2 ≤ 2147483647) (hx3 : (-2147483648) ≤ x3 ∧ x3 ≤ 2147483647) : Mt (gG D cI cJ cZ cT lo b L xs) mX11_isQuestion d 0 0 [.ref ga, .int (iv x1), .int (iv x2), .int (iv x3)] hp n (pI Γ n (fun r => ((0 ≤ r ∧ r ≤ 1) ∧ (r = 1 ↔ ¬ (x1 < 0 ∨ 17 < x1 ∨ ((x1 = 0 ∨ x1 = 2) ∧ (x2 < 0 ∨ (gn : Int) ≤ x2)) ∨ (x1 = 11 ∧ (x2 < 0 ∨ (gm : Int) ≤ x2)) ∨ (12 ≤ x1 ∧ x1 ≤ 15 ∧ (x2 < 0 ∨ (gn : Int) ≤ x2 ∨ x3 < 0 ∨ (gn : Int) ≤ x3 ∨ x2 = x3))))))) := by
  refine Mt.of rfl (Nat.le_of_ble_eq_true rfl) ?_
  refine Rn.pick (lv' := [(0, .ref ga), (1, .int (iv x1)), (2, .int (iv x2)), (3, .int (iv x3))]) [0, 1, 2, 3] rfl ?_
  obtain ⟨hg_O, hg_from, hg_to, hg_weight, hg_cost, hg_tail, hg_head, hg_by, hg_out, hg_in, hg_joined, hg_b⟩ := id hg
  obtain ⟨⟨hxg_F, hxg_T, hxg_W, hxg_C, hxg_Tl, hxg_Hd, hxg_By, hxg_Ou, hxg_In, hxg_Jo⟩, ⟨hrg_F, hrg_T, hrg_W, hrg_C, hrg_Tl, hrg_Hd, hrg_By, hrg_Ou, hrg_In, hrg_Jo⟩, houg⟩ := id hxg
  have hgb := hg_b
  refine r_iload_n (pc := 0) dX11_isQuestion_0 (i := 1) rfl rfl ?_
  refine t_if_lt (pc := 1) (tgt := 10) dX11_isQuestion_1 (by decide) (by omega) (fun c1 => ?_) (fun c1 => ?_)
  · refine r_iconst (pc := 10) (v := iv 0) dX11_isQuestion_10 (by decide) ?_
    exact r_zret (pc := 11) dX11_isQuestion_11 rfl (iv_nar (by omega)) ⟨rfl, ht, _, rfl, by omega⟩
  · refine r_iload_n (pc := 4) dX11_isQuestion_4 (i := 1) rfl rfl ?_
    refine r_bipush (pc := 5) (v := iv 17) dX11_isQuestion_5 (by decide) ?_
    refine t_icmp_le (pc := 7) (tgt := 12) dX11_isQuestion_7 (by decide) (by omega) (by omega) (fun c7 => ?_) (fun c7 => ?_)
    · refine r_iload_n (pc := 12) dX11_isQuestion_12 (i := 1) rfl rfl ?_
      refine t_if_eq (pc := 13) (tgt := 21) dX11_isQuestion_13 (by decide) (by omega) (fun c13 => ?_) (fun c13 => ?_)
      · refine r_iload_n (pc := 21) dX11_isQuestion_21 (i := 2) rfl rfl ?_
        refine r_aload_n (pc := 22) dX11_isQuestion_22 (i := 0) rfl rfl ?_
        refine t_getE (pc := 23) (.int (iv (gn : Int))) ht hg_O fX11_134 dX11_isQuestion_23 rfl ?_
        refine t_callSI (pc := 26) (as := [.int (iv x2), .int (iv (gn : Int))]) (st := []) kX11_74 dX11_isQuestion_26 (t_X11_isNode (d := d - 1) (x0 := x2) (x1 := (gn : Int)) (by omega)   ht (by omega) (by omega) ) rfl (by omega) (Nat.le_of_ble_eq_true rfl) rfl (fun hp1 y3 ht2 by3 => ?_)
        obtain ⟨by31, by32⟩ := by3
        exact r_zret (pc := 29) dX11_isQuestion_29 rfl (iv_nar (by omega)) ⟨rfl, ht2, _, rfl, by omega⟩
      · refine r_iload_n (pc := 16) dX11_isQuestion_16 (i := 1) rfl rfl ?_
        refine r_iconst (pc := 17) (v := iv 2) dX11_isQuestion_17 (by decide) ?_
        refine t_icmp_ne (pc := 18) (tgt := 30) dX11_isQuestion_18 (by decide) (by omega) (by omega) (fun c18 => ?_) (fun c18 => ?_)
        · refine r_iload_n (pc := 30) dX11_isQuestion_30 (i := 1) rfl rfl ?_
          refine r_bipush (pc := 31) (v := iv 11) dX11_isQuestion_31 (by decide) ?_
          refine t_icmp_ne (pc := 33) (tgt := 45) dX11_isQuestion_33 (by decide) (by omega) (by omega) (fun c33 => ?_) (fun c33 => ?_)
          · refine r_iload_n (pc := 45) dX11_isQuestion_45 (i := 1) rfl rfl ?_
            refine r_bipush (pc := 46) (v := iv 12) dX11_isQuestion_46 (by decide) ?_
            refine t_icmp_lt (pc := 48) (tgt := 90) dX11_isQuestion_48 (by decide) (by omega) (by omega) (fun c48 => ?_) (fun c48 => ?_)
            · refine r_iconst (pc := 90) (v := iv 1) dX11_isQuestion_90 (by decide) ?_
              exact r_zret (pc := 91) dX11_isQuestion_91 rfl (iv_nar (by omega)) ⟨rfl, ht, _, rfl, by omega⟩
            · refine r_iload_n (pc := 51) dX11_isQuestion_51 (i := 1) rfl rfl ?_
              refine r_bipush (pc := 52) (v := iv 15) dX11_isQuestion_52 (by decide) ?_
              refine t_icmp_gt (pc := 54) (tgt := 90) dX11_isQuestion_54 (by decide) (by omega) (by omega) (fun c54 => ?_) (fun c54 => ?_)
              · refine r_iconst (pc := 90) (v := iv 1) dX11_isQuestion_90 (by decide) ?_
                exact r_zret (pc := 91) dX11_isQuestion_91 rfl (iv_nar (by omega)) ⟨rfl, ht, _, rfl, by omega⟩
              · refine r_iload_n (pc := 57) dX11_isQuestion_57 (i := 2) rfl rfl ?_
                refine r_aload_n (pc := 58) dX11_isQuestion_58 (i := 0) rfl rfl ?_
                refine t_getE (pc := 59) (.int (iv (gn : Int))) ht hg_O fX11_134 dX11_isQuestion_59 rfl ?_
                refine t_callSI (pc := 62) (as := [.int (iv x2), .int (iv (gn : Int))]) (st := []) kX11_74 dX11_isQuestion_62 (t_X11_isNode (d := d - 1) (x0 := x2) (x1 := (gn : Int)) (by omega)   ht (by omega) (by omega) ) rfl (by omega) (Nat.le_of_ble_eq_true rfl) rfl (fun hp4 y6 ht5 by6 => ?_)
                obtain ⟨by61, by62⟩ := by6
                refine t_if_eq (pc := 65) (tgt := 88) dX11_isQuestion_65 (by decide) (by omega) (fun c65 => ?_) (fun c65 => ?_)
                · refine r_iconst (pc := 88) (v := iv 0) dX11_isQuestion_88 (by decide) ?_
                  exact r_zret (pc := 89) dX11_isQuestion_89 rfl (iv_nar (by omega)) ⟨rfl, ht5, _, rfl, by omega⟩
                · refine r_iload_n (pc := 68) dX11_isQuestion_68 (i := 3) rfl rfl ?_
                  refine r_aload_n (pc := 69) dX11_isQuestion_69 (i := 0) rfl rfl ?_
                  refine t_getE (pc := 70) (.int (iv (gn : Int))) ht5 hg_O fX11_134 dX11_isQuestion_70 rfl ?_
                  refine t_callSI (pc := 73) (as := [.int (iv x3), .int (iv (gn : Int))]) (st := []) kX11_74 dX11_isQuestion_73 (t_X11_isNode (d := d - 1) (x0 := x3) (x1 := (gn : Int)) (by omega)   ht5 (by omega) (by omega) ) rfl (by omega) (Nat.le_of_ble_eq_true rfl) rfl (fun hp7 y9 ht8 by9 => ?_)
                  obtain ⟨by91, by92⟩ := by9
                  refine t_if_eq (pc := 76) (tgt := 88) dX11_isQuestion_76 (by decide) (by omega) (fun c76 => ?_) (fun c76 => ?_)
                  · refine r_iconst (pc := 88) (v := iv 0) dX11_isQuestion_88 (by decide) ?_
                    exact r_zret (pc := 89) dX11_isQuestion_89 rfl (iv_nar (by omega)) ⟨rfl, ht8, _, rfl, by omega⟩
                  · refine r_iload_n (pc := 79) dX11_isQuestion_79 (i := 2) rfl rfl ?_
                    refine r_iload_n (pc := 80) dX11_isQuestion_80 (i := 3) rfl rfl ?_
                    refine t_icmp_eq (pc := 81) (tgt := 88) dX11_isQuestion_81 (by decide) (by omega) (by omega) (fun c81 => ?_) (fun c81 => ?_)
                    · refine r_iconst (pc := 88) (v := iv 0) dX11_isQuestion_88 (by decide) ?_
                      exact r_zret (pc := 89) dX11_isQuestion_89 rfl (iv_nar (by omega)) ⟨rfl, ht8, _, rfl, by omega⟩
                    · refine r_iconst (pc := 84) (v := iv 1) dX11_isQuestion_84 (by decide) ?_
                      refine r_goto (pc := 85) (tgt := 89) dX11_isQuestion_85 (by decide) ?_
                      exact r_zret (pc := 89) dX11_isQuestion_89 rfl (iv_nar (by omega)) ⟨rfl, ht8, _, rfl, by omega⟩
          · refine r_iload_n (pc := 36) dX11_isQuestion_36 (i := 2) rfl rfl ?_
            refine r_aload_n (pc := 37) dX11_isQuestion_37 (i := 0) rfl rfl ?_
            refine t_getE (pc := 38) (.int (iv (gm : Int))) ht hg_O fX11_135 dX11_isQuestion_38 rfl ?_
            refine t_callSI (pc := 41) (as := [.int (iv x2), .int (iv (gm : Int))]) (st := []) kX11_74 dX11_isQuestion_41 (t_X11_isNode (d := d - 1) (x0 := x2) (x1 := (gm : Int)) (by omega)   ht (by omega) (by omega) ) rfl (by omega) (Nat.le_of_ble_eq_true rfl) rfl (fun hp10 y12 ht11 by12 => ?_)
            obtain ⟨by121, by122⟩ := by12
            exact r_zret (pc := 44) dX11_isQuestion_44 rfl (iv_nar (by omega)) ⟨rfl, ht11, _, rfl, by omega⟩
        · refine r_iload_n (pc := 21) dX11_isQuestion_21 (i := 2) rfl rfl ?_
          refine r_aload_n (pc := 22) dX11_isQuestion_22 (i := 0) rfl rfl ?_
          refine t_getE (pc := 23) (.int (iv (gn : Int))) ht hg_O fX11_134 dX11_isQuestion_23 rfl ?_
          refine t_callSI (pc := 26) (as := [.int (iv x2), .int (iv (gn : Int))]) (st := []) kX11_74 dX11_isQuestion_26 (t_X11_isNode (d := d - 1) (x0 := x2) (x1 := (gn : Int)) (by omega)   ht (by omega) (by omega) ) rfl (by omega) (Nat.le_of_ble_eq_true rfl) rfl (fun hp13 y15 ht14 by15 => ?_)
          obtain ⟨by151, by152⟩ := by15
          exact r_zret (pc := 29) dX11_isQuestion_29 rfl (iv_nar (by omega)) ⟨rfl, ht14, _, rfl, by omega⟩
    · refine r_iconst (pc := 10) (v := iv 0) dX11_isQuestion_10 (by decide) ?_
      exact r_zret (pc := 11) dX11_isQuestion_11 rfl (iv_nar (by omega)) ⟨rfl, ht, _, rfl, by omega⟩
set_option maxHeartbeats 4000000 in
set_option maxRecDepth 100000 in
theorem y_X11_askSameness {D : va_G} {cI cJ cZ cT : ClassId} {lo b L : Nat} {xs : Nat → Int32} {hp : MH} {n d : Nat} {Γ : TG} {a : Nat} {ct : Int} {rv : Int} {th : Nat → Option Nat} {dn : Int} {dd : Int} {da : Int} {df : Nat → Int} {dt : Nat → Int} {dw : Nat → Int} {dc : Nat → Int} {kn : Int} {kd : Int} {ka : Int} {kf : Nat → Int} {kt : Nat → Int} {kw : Nat → Int} {kc : Nat → Int} {so sz dr mn fr tt wt co : Nat → Int} {nu : Nat → Int64} {qi qc : Nat → Int} {x1 x2 x3 x4 : Int} (hd0 : 22 ≤ d) (hk : EK Γ cI cJ cZ a ct th dn dd da df dt dw dc kn kd ka) (hm : HM Γ cI cJ cZ a ct th so sz dr mn fr tt wt co nu qi qc) (hrv : -2147483648 ≤ rv ∧ rv ≤ 2147483647) (hna : a + 84 ≤ n) (ht : Tw (CG Γ cI cJ cZ cT a ct rv th dn dd da df dt dw dc kn kd ka kf kt kw kc) hp) (hx1 : (-2147483648) ≤ x1 ∧ x1 ≤ 2147483647) (hx2 : (-2147483648) ≤ x2 ∧ x2 ≤ 2147483647) (hx3 : (-2147483648) ≤ x3 ∧ x3 ≤ 2147483647) (hx4 : (-2147483648) ≤ x4 ∧ x4 ≤ 2147483647) (h17 : x2 = 16 ∨ x2 = 17) (hr0 : rv = 0) : Mt (gG D cI cJ cZ cT lo b L xs) mX11_askSameness d 0 0 [.ref a, .int (iv x1), .int (iv x2), .int (iv x3), .int (iv x4)] hp n (qA Γ cI cJ cZ cT a dn dd da df dt dw dc n ct th (fun r w9 => ∃ v : Int64, r = some (.long v) ∧ w9 = dn2 ct so x1 1 x4 1 (x2 = 17 ∧ (x3 < 0 ∨ (sz (Int.toNat x1)) ≤ x3)))) := by
  refine Mt.of rfl (Nat.le_of_ble_eq_true rfl) ?_
  refine Rn.pick (lv' := [(0, .ref a), (1, .int (iv x1)), (2, .int (iv x2)), (3, .int (iv x3)), (4, .int (iv x4))]) [0, 1, 2, 3, 4] rfl ?_
  obtain ⟨hct, hth, ⟨hdn, hdd1, hda, har⟩, ⟨hkn, hkd, hka⟩, hsh, hse, hpr, hfl, hsm⟩ := id hk
  refine r_aload_n (pc := 0) dX11_askSameness_0 (i := 0) rfl rfl ?_
  refine r_iload_n (pc := 1) dX11_askSameness_1 (i := 1) rfl rfl ?_
  refine u_graphAt (pc := 2) (x := x1) (st := []) hct hm ht kX11_106 dX11_askSameness_2 (by omega) (Nat.le_of_ble_eq_true rfl) (by omega) (fun hp1 ht2 hnog => ?_) (fun hp1 ga ht2 hyeg hTg => ?_)
  · refine r_astoreN (pc := 5) (lv' := [(5, .null), (0, .ref a), (1, .int (iv x1)), (2, .int (iv x2)), (3, .int (iv x3)), (4, .int (iv x4))]) dX11_askSameness_5 (by decide) rfl ?_
    refine r_aload_n (pc := 7) dX11_askSameness_7 (i := 0) rfl rfl ?_
    refine r_iload (pc := 8) dX11_askSameness_8 rfl ?_
    refine u_graphAt (pc := 10) (x := x4) (st := []) hct hm ht2 kX11_106 dX11_askSameness_10 (by omega) (Nat.le_of_ble_eq_true rfl) (by omega) (fun hp3 ht4 hnoj => ?_) (fun hp3 ja ht4 hyej hTj => ?_)
    · refine r_astoreN (pc := 13) (lv' := [(6, .null), (5, .null), (0, .ref a), (1, .int (iv x1)), (2, .int (iv x2)), (3, .int (iv x3)), (4, .int (iv x4))]) dX11_askSameness_13 (by decide) rfl ?_
      refine r_aloadN (pc := 15) dX11_askSameness_15 rfl ?_
      refine r_ifnullN (pc := 17) (tgt := 25) dX11_askSameness_17 (by decide) ?_
      refine r_aload_n (pc := 25) dX11_askSameness_25 (i := 0) rfl rfl ?_
      refine r_aload_n (pc := 26) dX11_askSameness_26 (i := 0) rfl rfl ?_
      refine r_iload_n (pc := 27) dX11_askSameness_27 (i := 1) rfl rfl ?_
      refine r_iload (pc := 28) dX11_askSameness_28 rfl ?_
      obtain ⟨fs9, hfs9⟩ := t_obj ht4 (rd_of CG_0)
      refine r_callV (pc := 30) (as := [.int (iv x1), .int (iv x4)]) (st := [.ref a]) kX11_127 rfl dX11_askSameness_30 hfs9 (uw_X11_whyNotBoth (d := d - 1) (x1 := x1) (x2 := x4) (by omega)  ht4 (by omega) (by omega) (by omega) hm) rfl (by omega) (Nat.le_of_ble_eq_true rfl) (Nat.zero_le _) (Nat.zero_le _) rfl (fun r6 hp5 n7 hq8 => ?_)
      obtain ⟨hnn7, bb_11, ht10, hrr6, hhq80, hhq81⟩ := hq8
      subst n7 r6
      have hhq80 : -2 ≤ bb_11 ∧ bb_11 ≤ -1 := hhq80
      have hhq81 : (bb_11 = -1 ∧ ¬ (0 ≤ x1 ∧ x1 < ct ∧ 0 ≤ x4 ∧ x4 < ct)) ∨ (bb_11 = -2 ∧ 0 ≤ x1 ∧ x1 < ct ∧ 0 ≤ x4 ∧ x4 < ct) := hhq81
      change Rn _ _ _ 33 _ [.int (iv bb_11), .ref a] _ _ _ _ _
      obtain ⟨fs16, hfs16⟩ := t_obj ht10 (rd_of CG_0)
      refine r_callV (pc := 33) (as := [.int (iv bb_11)]) (st := []) kX11_203 rfl dX11_askSameness_33 hfs16 (s_X11_deny (d := d - 1) (x1 := bb_11) (by omega)  ht10 (by omega)) rfl (by omega) (Nat.le_of_ble_eq_true rfl) (Nat.zero_le _) (Nat.zero_le _) rfl (fun r13 hp12 n14 hq15 => ?_)
      obtain ⟨hnn14, ht17, hrr13⟩ := hq15
      subst n14 r13
      change Rn _ _ _ 36 _ [.int (iv 0)] _ _ _ _ _
      refine r_i2l (pc := 36) (v := (iv 0).toInt64) dX11_askSameness_36 rfl ?_
      exact r_lret (pc := 37) dX11_askSameness_37 rfl ⟨by omega, Γ, bb_11, kn, kd, ka, kf, kt, kw, kc, (Ext_refl Γ), ht17, hk, by omega, ((iv 0).toInt64), rfl, by exact dn2_r (by omega)⟩
    · obtain ⟨jF, jT, jW, jC, jTl, jHd, jBy, jOu, jIn, jJo, jn, jm, jq, jdr, Tl2, Hd2, By2, Ou2, In2, Jo2, jpos, hj, hltj, hxj, hgoj, houj, hinj, hjoj, heNj, heDj, heMj⟩ := id hTj
      have hfNj : Int.toNat (sz (Int.toNat x4)) = jn := by omega
      have hfMj : Int.toNat (mn (Int.toNat x4)) = jm := by omega
      obtain ⟨hj_O, hj_from, hj_to, hj_weight, hj_cost, hj_tail, hj_head, hj_by, hj_out, hj_in, hj_joined, hj_b⟩ := id hj
      refine r_astore (pc := 13) (lv' := [(6, .ref ja), (5, .null), (0, .ref a), (1, .int (iv x1)), (2, .int (iv x2)), (3, .int (iv x3)), (4, .int (iv x4))]) dX11_askSameness_13 (by decide) rfl ?_
      refine r_aloadN (pc := 15) dX11_askSameness_15 rfl ?_
      refine r_ifnullN (pc := 17) (tgt := 25) dX11_askSameness_17 (by decide) ?_
      refine r_aload_n (pc := 25) dX11_askSameness_25 (i := 0) rfl rfl ?_
      refine r_aload_n (pc := 26) dX11_askSameness_26 (i := 0) rfl rfl ?_
      refine r_iload_n (pc := 27) dX11_askSameness_27 (i := 1) rfl rfl ?_
      refine r_iload (pc := 28) dX11_askSameness_28 rfl ?_
      obtain ⟨fs22, hfs22⟩ := t_obj ht4 (rd_of CG_0)
      refine r_callV (pc := 30) (as := [.int (iv x1), .int (iv x4)]) (st := [.ref a]) kX11_127 rfl dX11_askSameness_30 hfs22 (uw_X11_whyNotBoth (d := d - 1) (x1 := x1) (x2 := x4) (by omega)  ht4 (by omega) (by omega) (by omega) hm) rfl (by omega) (Nat.le_of_ble_eq_true rfl) (Nat.zero_le _) (Nat.zero_le _) rfl (fun r19 hp18 n20 hq21 => ?_)
      obtain ⟨hnn20, bb_24, ht23, hrr19, hhq210, hhq211⟩ := hq21
      subst n20 r19
      have hhq210 : -2 ≤ bb_24 ∧ bb_24 ≤ -1 := hhq210
      have hhq211 : (bb_24 = -1 ∧ ¬ (0 ≤ x1 ∧ x1 < ct ∧ 0 ≤ x4 ∧ x4 < ct)) ∨ (bb_24 = -2 ∧ 0 ≤ x1 ∧ x1 < ct ∧ 0 ≤ x4 ∧ x4 < ct) := hhq211
      change Rn _ _ _ 33 _ [.int (iv bb_24), .ref a] _ _ _ _ _
      obtain ⟨fs29, hfs29⟩ := t_obj ht23 (rd_of CG_0)
      refine r_callV (pc := 33) (as := [.int (iv bb_24)]) (st := []) kX11_203 rfl dX11_askSameness_33 hfs29 (s_X11_deny (d := d - 1) (x1 := bb_24) (by omega)  ht23 (by omega)) rfl (by omega) (Nat.le_of_ble_eq_true rfl) (Nat.zero_le _) (Nat.zero_le _) rfl (fun r26 hp25 n27 hq28 => ?_)
      obtain ⟨hnn27, ht30, hrr26⟩ := hq28
      subst n27 r26
      change Rn _ _ _ 36 _ [.int (iv 0)] _ _ _ _ _
      refine r_i2l (pc := 36) (v := (iv 0).toInt64) dX11_askSameness_36 rfl ?_
      exact r_lret (pc := 37) dX11_askSameness_37 rfl ⟨by omega, Γ, bb_24, kn, kd, ka, kf, kt, kw, kc, (Ext_refl Γ), ht30, hk, by omega, ((iv 0).toInt64), rfl, by exact dn2_r (by omega)⟩
  · obtain ⟨gF, gT, gW, gC, gTl, gHd, gBy, gOu, gIn, gJo, gn, gm, gq, gdr, Tl, Hd, By, Ou, In, Jo, gpos, hg, hltg, hxg, hgog, houg, hing, hjog, heNg, heDg, heMg⟩ := id hTg
    have hfNg : Int.toNat (sz (Int.toNat x1)) = gn := by omega
    have hfMg : Int.toNat (mn (Int.toNat x1)) = gm := by omega
    obtain ⟨hg_O, hg_from, hg_to, hg_weight, hg_cost, hg_tail, hg_head, hg_by, hg_out, hg_in, hg_joined, hg_b⟩ := id hg
    refine r_astore (pc := 5) (lv' := [(5, .ref ga), (0, .ref a), (1, .int (iv x1)), (2, .int (iv x2)), (3, .int (iv x3)), (4, .int (iv x4))]) dX11_askSameness_5 (by decide) rfl ?_
    refine r_aload_n (pc := 7) dX11_askSameness_7 (i := 0) rfl rfl ?_
    refine r_iload (pc := 8) dX11_askSameness_8 rfl ?_
    refine u_graphAt (pc := 10) (x := x4) (st := []) hct hm ht2 kX11_106 dX11_askSameness_10 (by omega) (Nat.le_of_ble_eq_true rfl) (by omega) (fun hp31 ht32 hnoj => ?_) (fun hp31 ja ht32 hyej hTj => ?_)
    · refine r_astoreN (pc := 13) (lv' := [(6, .null), (5, .ref ga), (0, .ref a), (1, .int (iv x1)), (2, .int (iv x2)), (3, .int (iv x3)), (4, .int (iv x4))]) dX11_askSameness_13 (by decide) rfl ?_
      refine r_aload (pc := 15) dX11_askSameness_15 rfl ?_
      refine r_ifnull (pc := 17) dX11_askSameness_17 ?_
      refine r_aloadN (pc := 20) dX11_askSameness_20 rfl ?_
      refine r_ifnonnullN (pc := 22) dX11_askSameness_22 ?_
      refine r_aload_n (pc := 25) dX11_askSameness_25 (i := 0) rfl rfl ?_
      refine r_aload_n (pc := 26) dX11_askSameness_26 (i := 0) rfl rfl ?_
      refine r_iload_n (pc := 27) dX11_askSameness_27 (i := 1) rfl rfl ?_
      refine r_iload (pc := 28) dX11_askSameness_28 rfl ?_
      obtain ⟨fs37, hfs37⟩ := t_obj ht32 (rd_of CG_0)
      refine r_callV (pc := 30) (as := [.int (iv x1), .int (iv x4)]) (st := [.ref a]) kX11_127 rfl dX11_askSameness_30 hfs37 (uw_X11_whyNotBoth (d := d - 1) (x1 := x1) (x2 := x4) (by omega)  ht32 (by omega) (by omega) (by omega) hm) rfl (by omega) (Nat.le_of_ble_eq_true rfl) (Nat.zero_le _) (Nat.zero_le _) rfl (fun r34 hp33 n35 hq36 => ?_)
      obtain ⟨hnn35, bb_39, ht38, hrr34, hhq360, hhq361⟩ := hq36
      subst n35 r34
      have hhq360 : -2 ≤ bb_39 ∧ bb_39 ≤ -1 := hhq360
      have hhq361 : (bb_39 = -1 ∧ ¬ (0 ≤ x1 ∧ x1 < ct ∧ 0 ≤ x4 ∧ x4 < ct)) ∨ (bb_39 = -2 ∧ 0 ≤ x1 ∧ x1 < ct ∧ 0 ≤ x4 ∧ x4 < ct) := hhq361
      change Rn _ _ _ 33 _ [.int (iv bb_39), .ref a] _ _ _ _ _
      obtain ⟨fs44, hfs44⟩ := t_obj ht38 (rd_of CG_0)
      refine r_callV (pc := 33) (as := [.int (iv bb_39)]) (st := []) kX11_203 rfl dX11_askSameness_33 hfs44 (s_X11_deny (d := d - 1) (x1 := bb_39) (by omega)  ht38 (by omega)) rfl (by omega) (Nat.le_of_ble_eq_true rfl) (Nat.zero_le _) (Nat.zero_le _) rfl (fun r41 hp40 n42 hq43 => ?_)
      obtain ⟨hnn42, ht45, hrr41⟩ := hq43
      subst n42 r41
      change Rn _ _ _ 36 _ [.int (iv 0)] _ _ _ _ _
      refine r_i2l (pc := 36) (v := (iv 0).toInt64) dX11_askSameness_36 rfl ?_
      exact r_lret (pc := 37) dX11_askSameness_37 rfl ⟨by omega, Γ, bb_39, kn, kd, ka, kf, kt, kw, kc, (Ext_refl Γ), ht45, hk, by omega, ((iv 0).toInt64), rfl, by exact dn2_r (by omega)⟩
    · obtain ⟨jF, jT, jW, jC, jTl, jHd, jBy, jOu, jIn, jJo, jn, jm, jq, jdr, Tl2, Hd2, By2, Ou2, In2, Jo2, jpos, hj, hltj, hxj, hgoj, houj, hinj, hjoj, heNj, heDj, heMj⟩ := id hTj
      have hfNj : Int.toNat (sz (Int.toNat x4)) = jn := by omega
      have hfMj : Int.toNat (mn (Int.toNat x4)) = jm := by omega
      obtain ⟨hj_O, hj_from, hj_to, hj_weight, hj_cost, hj_tail, hj_head, hj_by, hj_out, hj_in, hj_joined, hj_b⟩ := id hj
      refine r_astore (pc := 13) (lv' := [(6, .ref ja), (5, .ref ga), (0, .ref a), (1, .int (iv x1)), (2, .int (iv x2)), (3, .int (iv x3)), (4, .int (iv x4))]) dX11_askSameness_13 (by decide) rfl ?_
      refine r_aload (pc := 15) dX11_askSameness_15 rfl ?_
      refine r_ifnull (pc := 17) dX11_askSameness_17 ?_
      refine r_aload (pc := 20) dX11_askSameness_20 rfl ?_
      refine r_ifnonnull (pc := 22) (tgt := 38) dX11_askSameness_22 (by decide) ?_
      refine r_iload_n (pc := 38) dX11_askSameness_38 (i := 2) rfl rfl ?_
      refine r_bipush (pc := 39) (v := iv 16) dX11_askSameness_39 (by decide) ?_
      refine t_icmp_ne (pc := 41) (tgt := 64) dX11_askSameness_41 (by decide) (by omega) (by omega) (fun c41 => ?_) (fun c41 => ?_)
      · refine r_iload_n (pc := 64) dX11_askSameness_64 (i := 3) rfl rfl ?_
        refine r_aload (pc := 65) dX11_askSameness_65 rfl ?_
        refine t_getE (pc := 67) (.int (iv (gn : Int))) ht32 (rd_CG (by omega) hg_O) fX11_134 dX11_askSameness_67 rfl ?_
        refine t_callSI (pc := 70) (as := [.int (iv x3), .int (iv (gn : Int))]) (st := []) kX11_74 dX11_askSameness_70 (t_X11_isNode (d := d - 1) (x0 := x3) (x1 := (gn : Int)) (by omega)   ht32 (by omega) (by omega) ) rfl (by omega) (Nat.le_of_ble_eq_true rfl) rfl (fun hp46 y48 ht47 by48 => ?_)
        obtain ⟨by481, by482⟩ := by48
        refine t_if_ne (pc := 73) (tgt := 84) dX11_askSameness_73 (by decide) (by omega) (fun c73 => ?_) (fun c73 => ?_)
        · refine r_aload_n (pc := 84) dX11_askSameness_84 (i := 0) rfl rfl ?_
          refine t_getE (pc := 85) (.ref (a + 36)) ht47 (rd_of CG_0) fX11_63 dX11_askSameness_85 rfl ?_
          refine r_aload (pc := 88) dX11_askSameness_88 rfl ?_
          refine r_aload (pc := 90) dX11_askSameness_90 rfl ?_
          refine t_callVR (pc := 92) (as := [.ref ga, .ref ja]) (st := []) ht47 (rd_CG (by omega) (rd_of hsm.1)) kX11_250 rfl dX11_askSameness_92 (t_X6_find (d := d - 1) (s := a + 36) (by omega) (eq_CG (by omega) hsm.1) (eq_CG (by omega) hsm.2.1) (eq_CG (by omega) hsm.2.2.1) (eq_CG (by omega) hsm.2.2.2.1) (eq_CG (by omega) hsm.2.2.2.2) (TyG.cg (by omega) hg) (TyG.cg (by omega) hj) (by omega) (by omega) ht47) rfl (by omega) (Nat.le_of_ble_eq_true rfl) rfl (fun hp50 y49 ht51 by49 => ?_)
          refine t_if_eq (pc := 95) (tgt := 110) dX11_askSameness_95 (by decide) (by omega) (fun c95 => ?_) (fun c95 => ?_)
          · refine r_ldc2 (pc := 110) (v := (-1)) dX11_askSameness_110 kX11_257 ?_
            exact r_lret (pc := 113) dX11_askSameness_113 rfl ⟨by omega, Γ, rv, kn, kd, ka, kf, kt, kw, kc, (Ext_refl Γ), ht51, hk, by omega, ((-1) : Int64), rfl, by exact dn2_m (by omega) (by omega) (by omega)⟩
          · refine r_aload_n (pc := 98) dX11_askSameness_98 (i := 0) rfl rfl ?_
            refine t_getE (pc := 99) (.ref (a + 36)) ht51 (rd_of CG_0) fX11_63 dX11_askSameness_99 rfl ?_
            refine r_iload_n (pc := 102) dX11_askSameness_102 (i := 3) rfl rfl ?_
            refine t_callVR (pc := 103) (as := [.int (iv x3)]) (st := []) ht51 (rd_CG (by omega) (rd_of hsm.1)) kX11_254 rfl dX11_askSameness_103 (t_X6_newNumberw (d := d - 1) (s := a + 36) (x1 := x3) (by omega) (rd_CG (by omega) (rd_of hsm.1)) (rd_CG (by omega) (rd_of hsm.2.2.2.2)) ht51 (by omega)) rfl (by omega) (Nat.le_of_ble_eq_true rfl) rfl (fun hp53 y52 ht54 by52 => ?_)
            refine r_i2l (pc := 106) (v := (iv y52).toInt64) dX11_askSameness_106 rfl ?_
            refine r_goto (pc := 107) (tgt := 113) dX11_askSameness_107 (by decide) ?_
            exact r_lret (pc := 113) dX11_askSameness_113 rfl ⟨by omega, Γ, rv, kn, kd, ka, kf, kt, kw, kc, (Ext_refl Γ), ht54, hk, by omega, ((iv y52).toInt64), rfl, by exact dn2_m (by omega) (by omega) (by omega)⟩
        · refine r_aload_n (pc := 76) dX11_askSameness_76 (i := 0) rfl rfl ?_
          refine r_bipush (pc := 77) (v := iv (-3)) dX11_askSameness_77 (by decide) ?_
          obtain ⟨fs59, hfs59⟩ := t_obj ht47 (rd_of CG_0)
          refine r_callV (pc := 79) (as := [.int (iv (-3))]) (st := []) kX11_203 rfl dX11_askSameness_79 hfs59 (s_X11_deny (d := d - 1) (x1 := (-3)) (by omega)  ht47 (by omega)) rfl (by omega) (Nat.le_of_ble_eq_true rfl) (Nat.zero_le _) (Nat.zero_le _) rfl (fun r56 hp55 n57 hq58 => ?_)
          obtain ⟨hnn57, ht60, hrr56⟩ := hq58
          subst n57 r56
          change Rn _ _ _ 82 _ [.int (iv 0)] _ _ _ _ _
          refine r_i2l (pc := 82) (v := (iv 0).toInt64) dX11_askSameness_82 rfl ?_
          exact r_lret (pc := 83) dX11_askSameness_83 rfl ⟨by omega, Γ, (-3), kn, kd, ka, kf, kt, kw, kc, (Ext_refl Γ), ht60, hk, by omega, ((iv 0).toInt64), rfl, by exact dn2_b rfl (by omega) (by omega)⟩
      · refine r_aload_n (pc := 44) dX11_askSameness_44 (i := 0) rfl rfl ?_
        refine t_getE (pc := 45) (.ref (a + 36)) ht32 (rd_of CG_0) fX11_63 dX11_askSameness_45 rfl ?_
        refine r_aload (pc := 48) dX11_askSameness_48 rfl ?_
        refine r_aload (pc := 50) dX11_askSameness_50 rfl ?_
        refine t_callVR (pc := 52) (as := [.ref ga, .ref ja]) (st := []) ht32 (rd_CG (by omega) (rd_of hsm.1)) kX11_250 rfl dX11_askSameness_52 (t_X6_find (d := d - 1) (s := a + 36) (by omega) (eq_CG (by omega) hsm.1) (eq_CG (by omega) hsm.2.1) (eq_CG (by omega) hsm.2.2.1) (eq_CG (by omega) hsm.2.2.2.1) (eq_CG (by omega) hsm.2.2.2.2) (TyG.cg (by omega) hg) (TyG.cg (by omega) hj) (by omega) (by omega) ht32) rfl (by omega) (Nat.le_of_ble_eq_true rfl) rfl (fun hp62 y61 ht63 by61 => ?_)
        refine t_if_eq (pc := 55) (tgt := 62) dX11_askSameness_55 (by decide) (by omega) (fun c55 => ?_) (fun c55 => ?_)
        · refine r_lconst (pc := 62) (v := 0) dX11_askSameness_62 (by decide) ?_
          exact r_lret (pc := 63) dX11_askSameness_63 rfl ⟨by omega, Γ, rv, kn, kd, ka, kf, kt, kw, kc, (Ext_refl Γ), ht63, hk, by omega, (0 : Int64), rfl, by exact dn2_m (by omega) (by omega) (by omega)⟩
        · refine r_lconst (pc := 58) (v := 1) dX11_askSameness_58 (by decide) ?_
          refine r_goto (pc := 59) (tgt := 63) dX11_askSameness_59 (by decide) ?_
          exact r_lret (pc := 63) dX11_askSameness_63 rfl ⟨by omega, Γ, rv, kn, kd, ka, kf, kt, kw, kc, (Ext_refl Γ), ht63, hk, by omega, (1 : Int64), rfl, by exact dn2_m (by omega) (by omega) (by omega)⟩
set_option maxHeartbeats 4000000 in
set_option maxRecDepth 100000 in
theorem y_X11_ask {D : va_G} {cI cJ cZ cT : ClassId} {lo b L : Nat} {xs : Nat → Int32} {hp : MH} {n d : Nat} {Γ : TG} {a : Nat} {ct : Int} {rv : Int} {th : Nat → Option Nat} {dn : Int} {dd : Int} {da : Int} {df : Nat → Int} {dt : Nat → Int} {dw : Nat → Int} {dc : Nat → Int} {kn : Int} {kd : Int} {ka : Int} {kf : Nat → Int} {kt : Nat → Int} {kw : Nat → Int} {kc : Nat → Int} {so sz dr mn fr tt wt co : Nat → Int} {nu : Nat → Int64} {qi qc : Nat → Int} {x1 x2 x3 x4 : Int} (hd0 : 23 ≤ d) (hk : EK Γ cI cJ cZ a ct th dn dd da df dt dw dc kn kd ka) (hm : HM Γ cI cJ cZ a ct th so sz dr mn fr tt wt co nu qi qc) (hrv : -2147483648 ≤ rv ∧ rv ≤ 2147483647) (hna : a + 84 ≤ n) (ht : Tw (CG Γ cI cJ cZ cT a ct rv th dn dd da df dt dw dc kn kd ka kf kt kw kc) hp) (hx1 : (-2147483648) ≤ x1 ∧ x1 ≤ 2147483647) (hx2 : (-2147483648) ≤ x2 ∧ x2 ≤ 2147483647) (hx3 : (-2147483648) ≤ x3 ∧ x3 ≤ 2147483647) (hx4 : (-2147483648) ≤ x4 ∧ x4 ≤ 2147483647) : Mt (gG D cI cJ cZ cT lo b L xs) mX11_ask d 1 16 [.ref a, .int (iv x1), .int (iv x2), .int (iv x3), .int (iv x4)] hp n (qA Γ cI cJ cZ cT a dn dd da df dt dw dc n ct th (fun r w9 => ∃ v : Int64, r = some (.long v) ∧ w9 = hdQ (x2 = 16 ∨ x2 = 17) (dn2 ct so x1 1 x4 1 (x2 = 17 ∧ (x3 < 0 ∨ (sz (Int.toNat x1)) ≤ x3))) (dn1 ct so x1 1 (x2 < 0 ∨ 17 < x2 ∨ ((x2 = 0 ∨ x2 = 2) ∧ (x3 < 0 ∨ (sz (Int.toNat x1)) ≤ x3)) ∨ (x2 = 11 ∧ (x3 < 0 ∨ (mn (Int.toNat x1)) ≤ x3)) ∨ (12 ≤ x2 ∧ x2 ≤ 15 ∧ (x3 < 0 ∨ (sz (Int.toNat x1)) ≤ x3 ∨ x4 < 0 ∨ (sz (Int.toNat x1)) ≤ x4 ∨ x3 = x4)))))) := by
  refine Mt.of rfl (Nat.le_of_ble_eq_true rfl) ?_
  refine Rn.pick (lv' := [(0, .ref a), (1, .int (iv x1)), (2, .int (iv x2)), (3, .int (iv x3)), (4, .int (iv x4))]) [0, 1, 2, 3, 4] rfl ?_
  obtain ⟨hct, hth, ⟨hdn, hdd1, hda, har⟩, ⟨hkn, hkd, hka⟩, hsh, hse, hpr, hfl, hsm⟩ := id hk
  refine r_aload_n (pc := 0) dX11_ask_0 (i := 0) rfl rfl ?_
  refine r_iconst (pc := 1) (v := iv 0) dX11_ask_1 (by decide) ?_
  refine t_putX (pc := 2) (ty := .int) ht CG_0 fX11_19 tyX11 tyX11_ok nmX11 (by decide +kernel) (Or.inl rfl) dX11_ask_2 (Nat.le_of_ble_eq_true rfl) rfl rfl rfl (fun hp1 ht2 => ?_)
  have ht3 := RGw_rv ht2
  refine r_iload_n (pc := 5) dX11_ask_5 (i := 2) rfl rfl ?_
  refine r_bipush (pc := 6) (v := iv 16) dX11_ask_6 (by decide) ?_
  refine t_icmp_eq (pc := 8) (tgt := 17) dX11_ask_8 (by decide) (by omega) (by omega) (fun c8 => ?_) (fun c8 => ?_)
  · refine r_aload_n (pc := 17) dX11_ask_17 (i := 0) rfl rfl ?_
    refine r_iload_n (pc := 18) dX11_ask_18 (i := 1) rfl rfl ?_
    refine r_iload_n (pc := 19) dX11_ask_19 (i := 2) rfl rfl ?_
    refine r_iload_n (pc := 20) dX11_ask_20 (i := 3) rfl rfl ?_
    refine r_iload (pc := 21) dX11_ask_21 rfl ?_
    obtain ⟨fs9, hfs9⟩ := t_obj ht3 (rd_of CG_0)
    refine r_callV (pc := 23) (as := [.int (iv x1), .int (iv x2), .int (iv x3), .int (iv x4)]) (st := []) kX11_238 rfl dX11_ask_23 hfs9 (y_X11_askSameness (d := d - 1) (x1 := x1) (x2 := x2) (x3 := x3) (x4 := x4) (by omega) hk hm (by omega) (by omega) ht3 (by omega) (by omega) (by omega) (by omega) (by omega) (by omega)) rfl (by omega) (Nat.le_of_ble_eq_true rfl) (by omega) (by omega) rfl (fun r4 hp5 n6 hq7 => ?_)
    obtain ⟨hn8, Γ8, rv8, kn8, kd8, ka8, kf8, kt8, kw8, kc8, hE8, ht8, hk8, hb8, v8, hr8, hA8⟩ := hq7
    subst r4
    change Rn _ _ _ 26 _ [.long v8] _ _ _ _ _
    exact r_lret (pc := 26) dX11_ask_26 rfl ⟨hn8, Γ8, rv8, kn8, kd8, ka8, kf8, kt8, kw8, kc8, hE8, ht8, hk8, hb8, v8, rfl, hA8.trans (hdQ_y (by omega)).symm⟩
  · refine r_iload_n (pc := 11) dX11_ask_11 (i := 2) rfl rfl ?_
    refine r_bipush (pc := 12) (v := iv 17) dX11_ask_12 (by decide) ?_
    refine t_icmp_ne (pc := 14) (tgt := 27) dX11_ask_14 (by decide) (by omega) (by omega) (fun c14 => ?_) (fun c14 => ?_)
    · refine r_aload_n (pc := 27) dX11_ask_27 (i := 0) rfl rfl ?_
      refine r_iload_n (pc := 28) dX11_ask_28 (i := 1) rfl rfl ?_
      refine u_graphAt (pc := 29) (x := x1) (st := []) hct hm ht3 kX11_106 dX11_ask_29 (by omega) (Nat.le_of_ble_eq_true rfl) (by omega) (fun hp10 ht11 hnog => ?_) (fun hp10 ga ht11 hyeg hTg => ?_)
      · refine r_astoreN (pc := 32) (lv' := [(5, .null), (0, .ref a), (1, .int (iv x1)), (2, .int (iv x2)), (3, .int (iv x3)), (4, .int (iv x4))]) dX11_ask_32 (by decide) rfl ?_
        refine r_aloadN (pc := 34) dX11_ask_34 rfl ?_
        refine r_ifnonnullN (pc := 36) dX11_ask_36 ?_
        refine r_aload_n (pc := 39) dX11_ask_39 (i := 0) rfl rfl ?_
        refine r_aload_n (pc := 40) dX11_ask_40 (i := 0) rfl rfl ?_
        refine r_iload_n (pc := 41) dX11_ask_41 (i := 1) rfl rfl ?_
        obtain ⟨fs16, hfs16⟩ := t_obj ht11 (rd_of CG_0)
        refine r_callV (pc := 42) (as := [.int (iv x1)]) (st := [.ref a]) kX11_110 rfl dX11_ask_42 hfs16 (uw_X11_whyNot (d := d - 1) (x1 := x1) (by omega)  ht11 (by omega) (by omega) hm) rfl (by omega) (Nat.le_of_ble_eq_true rfl) (Nat.zero_le _) (Nat.zero_le _) rfl (fun r13 hp12 n14 hq15 => ?_)
        obtain ⟨hnn14, bb_18, ht17, hrr13, hhq150, hhq151⟩ := hq15
        subst n14 r13
        have hhq150 : -2 ≤ bb_18 ∧ bb_18 ≤ -1 := hhq150
        have hhq151 : (bb_18 = -1 ∧ ¬ (0 ≤ x1 ∧ x1 < ct)) ∨ (bb_18 = -2 ∧ 0 ≤ x1 ∧ x1 < ct) := hhq151
        change Rn _ _ _ 45 _ [.int (iv bb_18), .ref a] _ _ _ _ _
        obtain ⟨fs23, hfs23⟩ := t_obj ht17 (rd_of CG_0)
        refine r_callV (pc := 45) (as := [.int (iv bb_18)]) (st := []) kX11_203 rfl dX11_ask_45 hfs23 (s_X11_deny (d := d - 1) (x1 := bb_18) (by omega)  ht17 (by omega)) rfl (by omega) (Nat.le_of_ble_eq_true rfl) (Nat.zero_le _) (Nat.zero_le _) rfl (fun r20 hp19 n21 hq22 => ?_)
        obtain ⟨hnn21, ht24, hrr20⟩ := hq22
        subst n21 r20
        change Rn _ _ _ 48 _ [.int (iv 0)] _ _ _ _ _
        refine r_i2l (pc := 48) (v := (iv 0).toInt64) dX11_ask_48 rfl ?_
        exact r_lret (pc := 49) dX11_ask_49 rfl ⟨by omega, Γ, bb_18, kn, kd, ka, kf, kt, kw, kc, (Ext_refl Γ), ht24, hk, by omega, ((iv 0).toInt64), rfl, by (rw [hdQ_n (by omega)]; exact dn1_r (by omega))⟩
      · obtain ⟨gF, gT, gW, gC, gTl, gHd, gBy, gOu, gIn, gJo, gn, gm, gq, gdr, Tl, Hd, By, Ou, In, Jo, gpos, hg, hltg, hxg, hgog, houg, hing, hjog, heNg, heDg, heMg⟩ := id hTg
        have hfNg : Int.toNat (sz (Int.toNat x1)) = gn := by omega
        have hfMg : Int.toNat (mn (Int.toNat x1)) = gm := by omega
        obtain ⟨hg_O, hg_from, hg_to, hg_weight, hg_cost, hg_tail, hg_head, hg_by, hg_out, hg_in, hg_joined, hg_b⟩ := id hg
        refine r_astore (pc := 32) (lv' := [(5, .ref ga), (0, .ref a), (1, .int (iv x1)), (2, .int (iv x2)), (3, .int (iv x3)), (4, .int (iv x4))]) dX11_ask_32 (by decide) rfl ?_
        refine r_aload (pc := 34) dX11_ask_34 rfl ?_
        refine r_ifnonnull (pc := 36) (tgt := 50) dX11_ask_36 (by decide) ?_
        refine r_aload (pc := 50) dX11_ask_50 rfl ?_
        refine r_iload_n (pc := 52) dX11_ask_52 (i := 2) rfl rfl ?_
        refine r_iload_n (pc := 53) dX11_ask_53 (i := 3) rfl rfl ?_
        refine r_iload (pc := 54) dX11_ask_54 rfl ?_
        refine t_callSI (pc := 56) (as := [.ref ga, .int (iv x2), .int (iv x3), .int (iv x4)]) (st := []) kX11_242 dX11_ask_56 (c_X11_isQuestionx (d := d - 1) (x1 := x2) (x2 := x3) (x3 := x4) (by omega) (TyG.cg (by omega) hg) (XG.cg (by omega) hxg) ht11 (by omega) (by omega) (by omega) ) rfl (by omega) (Nat.le_of_ble_eq_true rfl) rfl (fun hp26 y25 ht27 by25 => ?_)
        have fy25 : ((0 ≤ y25 ∧ y25 ≤ 1) ∧ (y25 = 1 ↔ ¬ (x2 < 0 ∨ 17 < x2 ∨ ((x2 = 0 ∨ x2 = 2) ∧ (x3 < 0 ∨ (gn : Int) ≤ x3)) ∨ (x2 = 11 ∧ (x3 < 0 ∨ (gm : Int) ≤ x3)) ∨ (12 ≤ x2 ∧ x2 ≤ 15 ∧ (x3 < 0 ∨ (gn : Int) ≤ x3 ∨ x4 < 0 ∨ (gn : Int) ≤ x4 ∨ x3 = x4))))) := by25
        have hiq := fy25
        refine t_if_eq (pc := 59) (tgt := 75) dX11_ask_59 (by decide) (by omega) (fun c59 => ?_) (fun c59 => ?_)
        · refine r_aload_n (pc := 75) dX11_ask_75 (i := 0) rfl rfl ?_
          refine r_bipush (pc := 76) (v := iv (-3)) dX11_ask_76 (by decide) ?_
          obtain ⟨fs32, hfs32⟩ := t_obj ht27 (rd_of CG_0)
          refine r_callV (pc := 78) (as := [.int (iv (-3))]) (st := []) kX11_203 rfl dX11_ask_78 hfs32 (s_X11_deny (d := d - 1) (x1 := (-3)) (by omega)  ht27 (by omega)) rfl (by omega) (Nat.le_of_ble_eq_true rfl) (Nat.zero_le _) (Nat.zero_le _) rfl (fun r29 hp28 n30 hq31 => ?_)
          obtain ⟨hnn30, ht33, hrr29⟩ := hq31
          subst n30 r29
          change Rn _ _ _ 81 _ [.int (iv 0)] _ _ _ _ _
          refine r_i2l (pc := 81) (v := (iv 0).toInt64) dX11_ask_81 rfl ?_
          exact r_lret (pc := 82) dX11_ask_82 rfl ⟨by omega, Γ, (-3), kn, kd, ka, kf, kt, kw, kc, (Ext_refl Γ), ht33, hk, by omega, ((iv 0).toInt64), rfl, by (rw [hdQ_n (by omega)]; exact dn1_b rfl (by omega) (by omega))⟩
        · refine r_aload_n (pc := 62) dX11_ask_62 (i := 0) rfl rfl ?_
          refine r_aload (pc := 63) dX11_ask_63 rfl ?_
          refine r_iload_n (pc := 65) dX11_ask_65 (i := 2) rfl rfl ?_
          refine r_iload_n (pc := 66) dX11_ask_66 (i := 3) rfl rfl ?_
          refine r_iload (pc := 67) dX11_ask_67 rfl ?_
          obtain ⟨fs39, hfs39⟩ := t_obj ht27 (rd_of CG_0)
          refine r_callV (pc := 69) (as := [.ref ga, .int (iv x2), .int (iv x3), .int (iv x4)]) (st := []) kX11_246 rfl dX11_ask_69 hfs39 (e_X11_answer (d := d - 1) (x2 := x2) (x3 := x3) (x4 := x4) (by omega) hk hg (by omega) (by omega) ht27 (by omega) (by omega) (by omega)) rfl (by omega) (Nat.le_of_ble_eq_true rfl) (by omega) (by omega) rfl (fun r34 hp35 n36 hq37 => ?_)
          obtain ⟨hnn36, ht38, v40, hrr34⟩ := hq37
          subst r34
          change Rn _ _ _ 72 _ [.long v40] _ _ _ _ _
          refine r_goto (pc := 72) (tgt := 82) dX11_ask_72 (by decide) ?_
          exact r_lret (pc := 82) dX11_ask_82 rfl ⟨by omega, Γ, 0, kn, kd, ka, kf, kt, kw, kc, (Ext_refl Γ), ht38, hk, by omega, v40, rfl, by (rw [hdQ_n (by omega)]; exact dn1_m rfl (by omega) (by omega))⟩
    · refine r_aload_n (pc := 17) dX11_ask_17 (i := 0) rfl rfl ?_
      refine r_iload_n (pc := 18) dX11_ask_18 (i := 1) rfl rfl ?_
      refine r_iload_n (pc := 19) dX11_ask_19 (i := 2) rfl rfl ?_
      refine r_iload_n (pc := 20) dX11_ask_20 (i := 3) rfl rfl ?_
      refine r_iload (pc := 21) dX11_ask_21 rfl ?_
      obtain ⟨fs46, hfs46⟩ := t_obj ht3 (rd_of CG_0)
      refine r_callV (pc := 23) (as := [.int (iv x1), .int (iv x2), .int (iv x3), .int (iv x4)]) (st := []) kX11_238 rfl dX11_ask_23 hfs46 (y_X11_askSameness (d := d - 1) (x1 := x1) (x2 := x2) (x3 := x3) (x4 := x4) (by omega) hk hm (by omega) (by omega) ht3 (by omega) (by omega) (by omega) (by omega) (by omega) (by omega)) rfl (by omega) (Nat.le_of_ble_eq_true rfl) (by omega) (by omega) rfl (fun r41 hp42 n43 hq44 => ?_)
      obtain ⟨hn8, Γ8, rv8, kn8, kd8, ka8, kf8, kt8, kw8, kc8, hE8, ht45, hk8, hb8, v8, hr8, hA8⟩ := hq44
      subst r41
      change Rn _ _ _ 26 _ [.long v8] _ _ _ _ _
      exact r_lret (pc := 26) dX11_ask_26 rfl ⟨hn8, Γ8, rv8, kn8, kd8, ka8, kf8, kt8, kw8, kc8, hE8, ht45, hk8, hb8, v8, rfl, hA8.trans (hdQ_y (by omega)).symm⟩
def qBx (Γ : TG) (cI cJ cZ cT : ClassId) (a : Nat) (ct : Int) (th : Nat → Option Nat) (dn : Int) (dd : Int) (da : Int) (df : Nat → Int) (dt : Nat → Int) (dw : Nat → Int) (dc : Nat → Int) (kn : Int) (kd : Int) (ka : Int) (kf : Nat → Int) (kt : Nat → Int) (kw : Nat → Int) (kc : Nat → Int) (x1 x2 : Int) (n : Nat) : Option Value → MH → Nat → Prop := fun r hp1 n1 => n1 = n ∧ ∃ rv dn1 dd1 da1 v : Int, Tw (CG Γ cI cJ cZ cT a ct rv th dn1 dd1 da1 df dt dw dc kn kd ka kf kt kw kc) hp1 ∧ r = some (.int (iv v)) ∧ (((1 ≤ x1 ∧ x1 ≤ 16) ∧ dn1 = x1 ∧ dd1 = x2 ∧ da1 = 0 ∧ v = 1 ∧ rv = 0) ∨ (¬ (1 ≤ x1 ∧ x1 ≤ 16) ∧ dn1 = dn ∧ dd1 = dd ∧ da1 = da ∧ v = 0 ∧ rv = -3))
def qAx (Γ : TG) (cI cJ cZ cT : ClassId) (a : Nat) (ct : Int) (th : Nat → Option Nat) (dn : Int) (dd : Int) (da : Int) (df : Nat → Int) (dt : Nat → Int) (dw : Nat → Int) (dc : Nat → Int) (kn : Int) (kd : Int) (ka : Int) (kf : Nat → Int) (kt : Nat → Int) (kw : Nat → Int) (kc : Nat → Int) (x1 x2 x3 x4 : Int) (n : Nat) : Option Value → MH → Nat → Prop := fun r hp1 n1 => n1 = n ∧ ∃ (rv da1 : Int) (df1 dt1 dw1 dc1 : Nat → Int) (v : Int), Tw (CG Γ cI cJ cZ cT a ct rv th dn dd da1 df1 dt1 dw1 dc1 kn kd ka kf kt kw kc) hp1 ∧ r = some (.int (iv v)) ∧ ((((0 ≤ x1 ∧ x1 < dn) ∧ (0 ≤ x2 ∧ x2 < dn) ∧ (-1000 ≤ x3 ∧ x3 ≤ 1000) ∧ (-1000 ≤ x4 ∧ x4 ≤ 1000)) ∧ da < 60 ∧ v = da ∧ rv = 0 ∧ da1 = da + 1 ∧ df1 = fup df da.toNat x1 ∧ dt1 = fup dt da.toNat x2 ∧ dw1 = fup dw da.toNat x3 ∧ dc1 = fup dc da.toNat x4) ∨ (((0 ≤ x1 ∧ x1 < dn) ∧ (0 ≤ x2 ∧ x2 < dn) ∧ (-1000 ≤ x3 ∧ x3 ≤ 1000) ∧ (-1000 ≤ x4 ∧ x4 ≤ 1000)) ∧ 60 ≤ da ∧ v = -4 ∧ rv = -4 ∧ da1 = da ∧ df1 = df ∧ dt1 = dt ∧ dw1 = dw ∧ dc1 = dc) ∨ (¬ ((0 ≤ x1 ∧ x1 < dn) ∧ (0 ≤ x2 ∧ x2 < dn) ∧ (-1000 ≤ x3 ∧ x3 ≤ 1000) ∧ (-1000 ≤ x4 ∧ x4 ≤ 1000)) ∧ v = -3 ∧ rv = -3 ∧ da1 = da ∧ df1 = df ∧ dt1 = dt ∧ dw1 = dw ∧ dc1 = dc))
set_option maxHeartbeats 4000000 in
set_option maxRecDepth 100000 in
theorem y_X11_begin {D : va_G} {cI cJ cZ cT : ClassId} {lo b L : Nat} {xs : Nat → Int32} {hp : MH} {n d : Nat} {Γ : TG} {a : Nat} {ct : Int} {rv : Int} {th : Nat → Option Nat} {dn : Int} {dd : Int} {da : Int} {df : Nat → Int} {dt : Nat → Int} {dw : Nat → Int} {dc : Nat → Int} {kn : Int} {kd : Int} {ka : Int} {kf : Nat → Int} {kt : Nat → Int} {kw : Nat → Int} {kc : Nat → Int} {x1 x2 : Int} (hd0 : 1 ≤ d) (hk : EK Γ cI cJ cZ a ct th dn dd da df dt dw dc kn kd ka) (hrv : -2147483648 ≤ rv ∧ rv ≤ 2147483647) (ht : Tw (CG Γ cI cJ cZ cT a ct rv th dn dd da df dt dw dc kn kd ka kf kt kw kc) hp) (hx1 : (-2147483648) ≤ x1 ∧ x1 ≤ 2147483647) (hx2 : 0 ≤ x2 ∧ x2 ≤ 1) : Mt (gG D cI cJ cZ cT lo b L xs) mX11_begin d 0 0 [.ref a, .int (iv x1), .int (iv x2)] hp n (qBx Γ cI cJ cZ cT a ct th dn dd da df dt dw dc kn kd ka kf kt kw kc x1 x2 n) := by
  refine Mt.of rfl (Nat.le_of_ble_eq_true rfl) ?_
  refine Rn.pick (lv' := [(0, .ref a), (1, .int (iv x1)), (2, .int (iv x2))]) [0, 1, 2] rfl ?_
  obtain ⟨hct, hth, ⟨hdn, hdd1, hda, har⟩, ⟨hkn, hkd, hka⟩, hsh, hse, hpr, hfl, hsm⟩ := id hk
  refine r_aload_n (pc := 0) dX11_begin_0 (i := 0) rfl rfl ?_
  refine r_iconst (pc := 1) (v := iv 0) dX11_begin_1 (by decide) ?_
  refine t_putX (pc := 2) (ty := .int) ht CG_0 fX11_19 tyX11 tyX11_ok nmX11 (by decide +kernel) (Or.inl rfl) dX11_begin_2 (Nat.le_of_ble_eq_true rfl) rfl rfl rfl (fun hp1 ht2 => ?_)
  have ht3 := RGw_rv ht2
  refine r_iload_n (pc := 5) dX11_begin_5 (i := 1) rfl rfl ?_
  refine r_iconst (pc := 6) (v := iv 1) dX11_begin_6 (by decide) ?_
  refine t_icmp_lt (pc := 7) (tgt := 16) dX11_begin_7 (by decide) (by omega) (by omega) (fun c7 => ?_) (fun c7 => ?_)
  · refine r_aload_n (pc := 16) dX11_begin_16 (i := 0) rfl rfl ?_
    refine r_bipush (pc := 17) (v := iv (-3)) dX11_begin_17 (by decide) ?_
    refine t_putX (pc := 19) (ty := .int) ht3 CG_0 fX11_19 tyX11 tyX11_ok nmX11 (by decide +kernel) (Or.inl rfl) dX11_begin_19 (Nat.le_of_ble_eq_true rfl) rfl rfl rfl (fun hp4 ht5 => ?_)
    have ht6 := RGw_rv ht5
    refine r_iconst (pc := 22) (v := iv 0) dX11_begin_22 (by decide) ?_
    exact r_zret (pc := 23) dX11_begin_23 rfl (iv_nar (by omega)) ⟨rfl, (-3), dn, dd, da, 0, ht6, rfl, Or.inr ⟨by omega, rfl, rfl, rfl, rfl, rfl⟩⟩
  · refine r_iload_n (pc := 10) dX11_begin_10 (i := 1) rfl rfl ?_
    refine r_bipush (pc := 11) (v := iv 16) dX11_begin_11 (by decide) ?_
    refine t_icmp_le (pc := 13) (tgt := 24) dX11_begin_13 (by decide) (by omega) (by omega) (fun c13 => ?_) (fun c13 => ?_)
    · refine r_aload_n (pc := 24) dX11_begin_24 (i := 0) rfl rfl ?_
      refine t_getE (pc := 25) (.ref (a + 2)) ht3 (rd_of CG_0) fX11_25 dX11_begin_25 rfl ?_
      refine r_iload_n (pc := 28) dX11_begin_28 (i := 1) rfl rfl ?_
      refine r_iload_n (pc := 29) dX11_begin_29 (i := 2) rfl rfl ?_
      have hd9 := Tw_eq (Γ1 := DG (CG Γ cI cJ cZ cT a ct 0 th dn dd da df dt dw dc kn kd ka kf kt kw kc) cI cJ cZ cT (a + 2) dn dd da df dt dw dc) CG_dr.symm ht3
      obtain ⟨fs12, hfs12⟩ := t_obj hd9 (rd_of DG_0)
      refine r_callV (pc := 30) (as := [.int (iv x1), .int (iv x2)]) (st := []) kX11_67 rfl dX11_begin_30 hfs12 (s_X1_restart (d := d - 1) (x1 := x1) (x2 := x2) (by omega) hd9 (by omega) (by omega)) rfl (by omega) (Nat.le_of_ble_eq_true rfl) (Nat.zero_le _) (Nat.zero_le _) rfl (fun r7 hp8 n9 hq10 => ?_)
      obtain ⟨hnn9, ht11, hrr7⟩ := hq10
      subst n9 r7
      rw [CG_dr] at ht11
      change Rn _ _ _ 33 _ [] _ _ _ _ _
      refine r_iconst (pc := 33) (v := iv 1) dX11_begin_33 (by decide) ?_
      exact r_zret (pc := 34) dX11_begin_34 rfl (iv_nar (by omega)) ⟨rfl, 0, x1, x2, 0, 1, ht11, rfl, Or.inl ⟨by omega, rfl, rfl, rfl, rfl, rfl⟩⟩
    · refine r_aload_n (pc := 16) dX11_begin_16 (i := 0) rfl rfl ?_
      refine r_bipush (pc := 17) (v := iv (-3)) dX11_begin_17 (by decide) ?_
      refine t_putX (pc := 19) (ty := .int) ht3 CG_0 fX11_19 tyX11 tyX11_ok nmX11 (by decide +kernel) (Or.inl rfl) dX11_begin_19 (Nat.le_of_ble_eq_true rfl) rfl rfl rfl (fun hp13 ht14 => ?_)
      have ht15 := RGw_rv ht14
      refine r_iconst (pc := 22) (v := iv 0) dX11_begin_22 (by decide) ?_
      exact r_zret (pc := 23) dX11_begin_23 rfl (iv_nar (by omega)) ⟨rfl, (-3), dn, dd, da, 0, ht15, rfl, Or.inr ⟨by omega, rfl, rfl, rfl, rfl, rfl⟩⟩
set_option maxHeartbeats 4000000 in
set_option maxRecDepth 100000 in
theorem y_X11_arc {D : va_G} {cI cJ cZ cT : ClassId} {lo b L : Nat} {xs : Nat → Int32} {hp : MH} {n d : Nat} {Γ : TG} {a : Nat} {ct : Int} {rv : Int} {th : Nat → Option Nat} {dn : Int} {dd : Int} {da : Int} {df : Nat → Int} {dt : Nat → Int} {dw : Nat → Int} {dc : Nat → Int} {kn : Int} {kd : Int} {ka : Int} {kf : Nat → Int} {kt : Nat → Int} {kw : Nat → Int} {kc : Nat → Int} {x1 x2 x3 x4 : Int} (hd0 : 1 ≤ d) (hk : EK Γ cI cJ cZ a ct th dn dd da df dt dw dc kn kd ka) (hrv : -2147483648 ≤ rv ∧ rv ≤ 2147483647) (ht : Tw (CG Γ cI cJ cZ cT a ct rv th dn dd da df dt dw dc kn kd ka kf kt kw kc) hp) (hx1 : (-2147483648) ≤ x1 ∧ x1 ≤ 2147483647) (hx2 : (-2147483648) ≤ x2 ∧ x2 ≤ 2147483647) (hx3 : (-2147483648) ≤ x3 ∧ x3 ≤ 2147483647) (hx4 : (-2147483648) ≤ x4 ∧ x4 ≤ 2147483647) : Mt (gG D cI cJ cZ cT lo b L xs) mX11_arc d 0 0 [.ref a, .int (iv x1), .int (iv x2), .int (iv x3), .int (iv x4)] hp n (qAx Γ cI cJ cZ cT a ct th dn dd da df dt dw dc kn kd ka kf kt kw kc x1 x2 x3 x4 n) := by
  refine Mt.of rfl (Nat.le_of_ble_eq_true rfl) ?_
  refine Rn.pick (lv' := [(0, .ref a), (1, .int (iv x1)), (2, .int (iv x2)), (3, .int (iv x3)), (4, .int (iv x4))]) [0, 1, 2, 3, 4] rfl ?_
  obtain ⟨hct, hth, ⟨hdn, hdd1, hda, har⟩, ⟨hkn, hkd, hka⟩, hsh, hse, hpr, hfl, hsm⟩ := id hk
  refine r_aload_n (pc := 0) dX11_arc_0 (i := 0) rfl rfl ?_
  refine r_iconst (pc := 1) (v := iv 0) dX11_arc_1 (by decide) ?_
  refine t_putX (pc := 2) (ty := .int) ht CG_0 fX11_19 tyX11 tyX11_ok nmX11 (by decide +kernel) (Or.inl rfl) dX11_arc_2 (Nat.le_of_ble_eq_true rfl) rfl rfl rfl (fun hp1 ht2 => ?_)
  have ht3 := RGw_rv ht2
  refine r_iload_n (pc := 5) dX11_arc_5 (i := 1) rfl rfl ?_
  refine r_aload_n (pc := 6) dX11_arc_6 (i := 0) rfl rfl ?_
  refine t_getE (pc := 7) (.ref (a + 2)) ht3 (rd_of CG_0) fX11_25 dX11_arc_7 rfl ?_
  refine t_getE (pc := 10) (.int (iv dn)) ht3 (rd_of CG_2) fX11_71 dX11_arc_10 rfl ?_
  refine t_callSI (pc := 13) (as := [.int (iv x1), .int (iv dn)]) (st := []) kX11_74 dX11_arc_13 (t_X11_isNode (d := d - 1) (x0 := x1) (x1 := dn) (by omega)   ht3 (by omega) (by omega) ) rfl (by omega) (Nat.le_of_ble_eq_true rfl) rfl (fun hp4 y6 ht5 by6 => ?_)
  obtain ⟨by61, by62⟩ := by6
  refine t_if_eq (pc := 16) (tgt := 48) dX11_arc_16 (by decide) (by omega) (fun c16 => ?_) (fun c16 => ?_)
  · refine r_aload_n (pc := 48) dX11_arc_48 (i := 0) rfl rfl ?_
    refine r_bipush (pc := 49) (v := iv (-3)) dX11_arc_49 (by decide) ?_
    obtain ⟨fs11, hfs11⟩ := t_obj ht5 (rd_of CG_0)
    refine r_callV (pc := 51) (as := [.int (iv (-3))]) (st := []) kX11_82 rfl dX11_arc_51 hfs11 (s_X11_refuse (d := d - 1) (x1 := (-3)) (by omega)  ht5 (by omega)) rfl (by omega) (Nat.le_of_ble_eq_true rfl) (Nat.zero_le _) (Nat.zero_le _) rfl (fun r8 hp7 n9 hq10 => ?_)
    obtain ⟨hnn9, ht12, hrr8⟩ := hq10
    subst n9 r8
    change Rn _ _ _ 54 _ [.int (iv (-3))] _ _ _ _ _
    exact r_iret (pc := 54) dX11_arc_54 rfl ⟨rfl, (-3), da, df, dt, dw, dc, (-3), ht12, rfl, Or.inr (Or.inr ⟨by omega, rfl, rfl, rfl, rfl, rfl, rfl, rfl⟩)⟩
  · refine r_iload_n (pc := 19) dX11_arc_19 (i := 2) rfl rfl ?_
    refine r_aload_n (pc := 20) dX11_arc_20 (i := 0) rfl rfl ?_
    refine t_getE (pc := 21) (.ref (a + 2)) ht5 (rd_of CG_0) fX11_25 dX11_arc_21 rfl ?_
    refine t_getE (pc := 24) (.int (iv dn)) ht5 (rd_of CG_2) fX11_71 dX11_arc_24 rfl ?_
    refine t_callSI (pc := 27) (as := [.int (iv x2), .int (iv dn)]) (st := []) kX11_74 dX11_arc_27 (t_X11_isNode (d := d - 1) (x0 := x2) (x1 := dn) (by omega)   ht5 (by omega) (by omega) ) rfl (by omega) (Nat.le_of_ble_eq_true rfl) rfl (fun hp13 y15 ht14 by15 => ?_)
    obtain ⟨by151, by152⟩ := by15
    refine t_if_eq (pc := 30) (tgt := 48) dX11_arc_30 (by decide) (by omega) (fun c30 => ?_) (fun c30 => ?_)
    · refine r_aload_n (pc := 48) dX11_arc_48 (i := 0) rfl rfl ?_
      refine r_bipush (pc := 49) (v := iv (-3)) dX11_arc_49 (by decide) ?_
      obtain ⟨fs20, hfs20⟩ := t_obj ht14 (rd_of CG_0)
      refine r_callV (pc := 51) (as := [.int (iv (-3))]) (st := []) kX11_82 rfl dX11_arc_51 hfs20 (s_X11_refuse (d := d - 1) (x1 := (-3)) (by omega)  ht14 (by omega)) rfl (by omega) (Nat.le_of_ble_eq_true rfl) (Nat.zero_le _) (Nat.zero_le _) rfl (fun r17 hp16 n18 hq19 => ?_)
      obtain ⟨hnn18, ht21, hrr17⟩ := hq19
      subst n18 r17
      change Rn _ _ _ 54 _ [.int (iv (-3))] _ _ _ _ _
      exact r_iret (pc := 54) dX11_arc_54 rfl ⟨rfl, (-3), da, df, dt, dw, dc, (-3), ht21, rfl, Or.inr (Or.inr ⟨by omega, rfl, rfl, rfl, rfl, rfl, rfl, rfl⟩)⟩
    · refine r_iload_n (pc := 33) dX11_arc_33 (i := 3) rfl rfl ?_
      refine t_callSI (pc := 34) (as := [.int (iv x3)]) (st := []) kX11_78 dX11_arc_34 (t_X11_isWeight (d := d - 1) (x0 := x3) (by omega)   ht14 (by omega) ) rfl (by omega) (Nat.le_of_ble_eq_true rfl) rfl (fun hp22 y24 ht23 by24 => ?_)
      obtain ⟨by241, by242⟩ := by24
      refine t_if_eq (pc := 37) (tgt := 48) dX11_arc_37 (by decide) (by omega) (fun c37 => ?_) (fun c37 => ?_)
      · refine r_aload_n (pc := 48) dX11_arc_48 (i := 0) rfl rfl ?_
        refine r_bipush (pc := 49) (v := iv (-3)) dX11_arc_49 (by decide) ?_
        obtain ⟨fs29, hfs29⟩ := t_obj ht23 (rd_of CG_0)
        refine r_callV (pc := 51) (as := [.int (iv (-3))]) (st := []) kX11_82 rfl dX11_arc_51 hfs29 (s_X11_refuse (d := d - 1) (x1 := (-3)) (by omega)  ht23 (by omega)) rfl (by omega) (Nat.le_of_ble_eq_true rfl) (Nat.zero_le _) (Nat.zero_le _) rfl (fun r26 hp25 n27 hq28 => ?_)
        obtain ⟨hnn27, ht30, hrr26⟩ := hq28
        subst n27 r26
        change Rn _ _ _ 54 _ [.int (iv (-3))] _ _ _ _ _
        exact r_iret (pc := 54) dX11_arc_54 rfl ⟨rfl, (-3), da, df, dt, dw, dc, (-3), ht30, rfl, Or.inr (Or.inr ⟨by omega, rfl, rfl, rfl, rfl, rfl, rfl, rfl⟩)⟩
      · refine r_iload (pc := 40) dX11_arc_40 rfl ?_
        refine t_callSI (pc := 42) (as := [.int (iv x4)]) (st := []) kX11_78 dX11_arc_42 (t_X11_isWeight (d := d - 1) (x0 := x4) (by omega)   ht23 (by omega) ) rfl (by omega) (Nat.le_of_ble_eq_true rfl) rfl (fun hp31 y33 ht32 by33 => ?_)
        obtain ⟨by331, by332⟩ := by33
        refine t_if_ne (pc := 45) (tgt := 55) dX11_arc_45 (by decide) (by omega) (fun c45 => ?_) (fun c45 => ?_)
        · refine r_aload_n (pc := 55) dX11_arc_55 (i := 0) rfl rfl ?_
          refine t_getE (pc := 56) (.ref (a + 2)) ht32 (rd_of CG_0) fX11_25 dX11_arc_56 rfl ?_
          refine t_getE (pc := 59) (.int (iv da)) ht32 (rd_of CG_2) fX11_86 dX11_arc_59 rfl ?_
          refine r_istore (pc := 62) (lv' := [(5, .int (iv da)), (0, .ref a), (1, .int (iv x1)), (2, .int (iv x2)), (3, .int (iv x3)), (4, .int (iv x4))]) dX11_arc_62 (by decide) rfl ?_
          refine r_aload_n (pc := 64) dX11_arc_64 (i := 0) rfl rfl ?_
          refine t_getE (pc := 65) (.ref (a + 2)) ht32 (rd_of CG_0) fX11_25 dX11_arc_65 rfl ?_
          refine r_iload_n (pc := 68) dX11_arc_68 (i := 1) rfl rfl ?_
          refine r_iload_n (pc := 69) dX11_arc_69 (i := 2) rfl rfl ?_
          refine r_iload_n (pc := 70) dX11_arc_70 (i := 3) rfl rfl ?_
          refine r_iload (pc := 71) dX11_arc_71 rfl ?_
          have hd9 := Tw_eq (Γ1 := DG (CG Γ cI cJ cZ cT a ct 0 th dn dd da df dt dw dc kn kd ka kf kt kw kc) cI cJ cZ cT (a + 2) dn dd da df dt dw dc) CG_dr.symm ht32
          obtain ⟨fs39, hfs39⟩ := t_obj hd9 (rd_of DG_0)
          refine r_callV (pc := 73) (as := [.int (iv x1), .int (iv x2), .int (iv x3), .int (iv x4)]) (st := []) kX11_89 rfl dX11_arc_73 hfs39 (s_X1_add (d := d - 1) (x1 := x1) (x2 := x2) (x3 := x3) (x4 := x4) (by omega) (by omega) hd9 (by omega) (by omega) (by omega) (by omega)) rfl (by omega) (Nat.le_of_ble_eq_true rfl) (Nat.zero_le _) (Nat.zero_le _) rfl (fun r34 hp35 n36 hq37 => ?_)
          obtain ⟨hnn36, bb9, da9, df9, dt9, dw9, dc9, ht38, hrr34, hq1, hq2, hq3, hq4⟩ := hq37
          subst n36 r34
          rw [CG_dr] at ht38
          change Rn _ _ _ 76 _ [.int (iv bb9)] _ _ _ _ _
          refine t_if_eq (pc := 76) (tgt := 84) dX11_arc_76 (by decide) (by omega) (fun c76 => ?_) (fun c76 => ?_)
          · refine r_aload_n (pc := 84) dX11_arc_84 (i := 0) rfl rfl ?_
            refine r_bipush (pc := 85) (v := iv (-4)) dX11_arc_85 (by decide) ?_
            obtain ⟨fs44, hfs44⟩ := t_obj ht38 (rd_of CG_0)
            refine r_callV (pc := 87) (as := [.int (iv (-4))]) (st := []) kX11_82 rfl dX11_arc_87 hfs44 (s_X11_refuse (d := d - 1) (x1 := (-4)) (by omega)  ht38 (by omega)) rfl (by omega) (Nat.le_of_ble_eq_true rfl) (Nat.zero_le _) (Nat.zero_le _) rfl (fun r41 hp40 n42 hq43 => ?_)
            obtain ⟨hnn42, ht45, hrr41⟩ := hq43
            subst n42 r41
            change Rn _ _ _ 90 _ [.int (iv (-4))] _ _ _ _ _
            exact r_iret (pc := 90) dX11_arc_90 rfl ⟨rfl, (-4), da9, df9, dt9, dw9, dc9, (-4), ht45, rfl, Or.inr (Or.inl ⟨by omega, by omega, rfl, rfl, by omega, (hq3 (by omega)).1, (hq3 (by omega)).2.1, (hq3 (by omega)).2.2.1, (hq3 (by omega)).2.2.2⟩)⟩
          · refine r_iload (pc := 79) dX11_arc_79 rfl ?_
            refine r_goto (pc := 81) (tgt := 90) dX11_arc_81 (by decide) ?_
            exact r_iret (pc := 90) dX11_arc_90 rfl ⟨rfl, 0, da9, df9, dt9, dw9, dc9, da, ht38, rfl, Or.inl ⟨by omega, by omega, rfl, rfl, by omega, (hq2 (by omega)).1, (hq2 (by omega)).2.1, (hq2 (by omega)).2.2.1, (hq2 (by omega)).2.2.2⟩⟩
        · refine r_aload_n (pc := 48) dX11_arc_48 (i := 0) rfl rfl ?_
          refine r_bipush (pc := 49) (v := iv (-3)) dX11_arc_49 (by decide) ?_
          obtain ⟨fs50, hfs50⟩ := t_obj ht32 (rd_of CG_0)
          refine r_callV (pc := 51) (as := [.int (iv (-3))]) (st := []) kX11_82 rfl dX11_arc_51 hfs50 (s_X11_refuse (d := d - 1) (x1 := (-3)) (by omega)  ht32 (by omega)) rfl (by omega) (Nat.le_of_ble_eq_true rfl) (Nat.zero_le _) (Nat.zero_le _) rfl (fun r47 hp46 n48 hq49 => ?_)
          obtain ⟨hnn48, ht51, hrr47⟩ := hq49
          subst n48 r47
          change Rn _ _ _ 54 _ [.int (iv (-3))] _ _ _ _ _
          exact r_iret (pc := 54) dX11_arc_54 rfl ⟨rfl, (-3), da, df, dt, dw, dc, (-3), ht51, rfl, Or.inr (Or.inr ⟨by omega, rfl, rfl, rfl, rfl, rfl, rfl, rfl⟩)⟩
