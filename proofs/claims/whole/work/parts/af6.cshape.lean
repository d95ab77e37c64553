set_option maxHeartbeats 4000000 in
set_option maxRecDepth 100000 in
theorem c_X8_withoutBridgesx {D : va_G} {cI cJ cZ cT : ClassId} {lo b L : Nat} {xs : Nat → Int32} {hp : MH} {n d : Nat} {Γ : TG} {ga : Nat} {gF : Nat} {gT : Nat} {gW : Nat} {gC : Nat} {gTl : Nat} {gHd : Nat} {gBy : Nat} {gOu : Nat} {gIn : Nat} {gJo : Nat} {gn : Nat} {gm : Nat} {gq : Nat} {gdr : Int} {F T W C Tl Hd By Ou In Jo : Nat → Int} (hd0 : 2 ≤ d) (hg : TyG Γ cI cJ cZ ga gF gT gW gC gTl gHd gBy gOu gIn gJo gn gm gq gdr) (hxg : XG Γ cI gF gT gW gC gTl gHd gBy gOu gIn gJo gn gm gq F T W C Tl Hd By Ou In Jo) (ht : Tw Γ hp) (hjo : rwP Jo gn (joX gm F T (fun _ => True))) : Mt (gG D cI cJ cZ cT lo b L xs) mX8_withoutBridges d 1 gn [.ref ga] hp n (pWB Γ cI gn n (fun f => rwP f gn (joX gm F T (fun k => ¬ brX gm F T (fun _ => True) k)))) := by
  refine Mt.of rfl (Nat.le_of_ble_eq_true rfl) ?_
  refine Rn.pick (lv' := [(0, .ref ga)]) [0] rfl ?_
  obtain ⟨hg_O, hg_from, hg_to, hg_weight, hg_cost, hg_tail, hg_head, hg_by, hg_out, hg_in, hg_joined, hg_b⟩ := id hg
  obtain ⟨⟨hxg_F, hxg_T, hxg_W, hxg_C, hxg_Tl, hxg_Hd, hxg_By, hxg_Ou, hxg_In, hxg_Jo⟩, ⟨hrg_F, hrg_T, hrg_W, hrg_C, hrg_Tl, hrg_Hd, hrg_By, hrg_Ou, hrg_In, hrg_Jo⟩, houg⟩ := id hxg
  have hgb := hg_b
  have hFk : ∀ k, k < gm → ∃ a b : Nat, F k = (a : Int) ∧ T k = (b : Int) := fun k hk => ⟨(F k).toNat, (T k).toNat, by have := hrg_F k hk; omega, by have := hrg_T k hk; omega⟩
  refine Rn.bd (fun bd9 => ?_)
  have hlq0 : gF < n := Tw.lt9 ht bd9 hxg_F
  have hlq1 : gT < n := Tw.lt9 ht bd9 hxg_T
  have hlq2 : gW < n := Tw.lt9 ht bd9 hxg_W
  have hlq3 : gC < n := Tw.lt9 ht bd9 hxg_C
  have hlq4 : gTl < n := Tw.lt9 ht bd9 hxg_Tl
  have hlq5 : gHd < n := Tw.lt9 ht bd9 hxg_Hd
  have hlq6 : gBy < n := Tw.lt9 ht bd9 hxg_By
  have hlq7 : gOu < n := Tw.lt9 ht bd9 hxg_Ou
  have hlq8 : gIn < n := Tw.lt9 ht bd9 hxg_In
  have hlq9 : gJo < n := Tw.lt9 ht bd9 hxg_Jo
  have hlq10 : ga < n := Tw.lt9 ht bd9 hg_O
  have hnn : ∀ a T', Γ a = some T' → a ≠ n := fun a T' h e => by have := Tw.lt9 ht bd9 (rd_of h); omega
  refine r_aload_n (pc := 0) dX8_withoutBridges_0 (i := 0) rfl rfl ?_
  refine t_getE (pc := 1) (.ref gJo) ht hg_O fX8_60 dX8_withoutBridges_1 rfl ?_
  refine t_cloneX (pc := 4) (t0 := 0) ht hxg_Jo aX8_63 dX8_withoutBridges_4 rfl (Nat.le_of_ble_eq_true rfl) (by omega) (by omega) (fun hp1 Γ2 hE3 hN4 ht5 => ?_)
  have t8 := Tw.ovr ht5 hN4
  refine t_castX (pc := 7) (t0 := 0) t8 (rd_of (ov_s _ _ _)) dX8_withoutBridges_7 (tb_t (k := 711) (by decide +kernel)) rfl ?_
  refine r_astore_n (pc := 10) (lv' := [(1, .ref n), (0, .ref ga)]) dX8_withoutBridges_10 (i := 1) rfl (by decide) rfl ?_
  refine r_iconst (pc := 11) (v := iv 0) dX8_withoutBridges_11 (by decide) ?_
  refine r_istore_n (pc := 12) (lv' := [(2, .int (iv 0)), (1, .ref n), (0, .ref ga)]) dX8_withoutBridges_12 (i := 2) rfl (by decide) rfl ?_
  have B13 : ∀ k : Nat, ∀ Rw13 : Nat → Int, ∀ hp13 : MH, Tw (ov Γ2 n (xI cI gn Rw13)) hp13 → ∀  (v13_2 : Int), 0 ≤ v13_2 ∧ v13_2 ≤ 60 ∧ (v13_2 ≤ (gm : Int)) ∧ (Rfx gn 0 65535 Rw13) ∧ (rwP Rw13 gn (joX gm F T (wbX gm F T (Int.toNat v13_2)))) → 60 - v13_2 ≤ (k : Int) → Rn (gG D cI cJ cZ cT lo b L xs) mX8_withoutBridges d 13 [(0, .ref ga), (1, .ref n), (2, .int (iv v13_2))] [] hp13 (n + 1) (1 - 1) (gn - gn) (pWB Γ cI gn n (fun f => rwP f gn (joX gm F T (fun k => ¬ brX gm F T (fun _ => True) k)))) := by
    refine lpS _ ?_
    intro k13 ih13 Rw13 hp13 ht13 v13_2 hf13 hm13
    obtain ⟨hf13_0, hf13_1, hf13_2, ha13_3, ha13_4⟩ := hf13
    refine r_iload_n (pc := 13) dX8_withoutBridges_13 (i := 2) rfl rfl ?_
    refine r_aload_n (pc := 14) dX8_withoutBridges_14 (i := 0) rfl rfl ?_
    refine t_getE (pc := 15) (.int (iv (gm : Int))) ht13 (rd_ov (by omega) (rd_ext hE3 hg_O)) fX8_31 dX8_withoutBridges_15 rfl ?_
    refine t_icmp_ge (pc := 18) (tgt := 95) dX8_withoutBridges_18 (by decide) (by omega) (by omega) (fun c18 => ?_) (fun c18 => ?_)
    · refine r_aload_n (pc := 95) dX8_withoutBridges_95 (i := 1) rfl rfl ?_
      exact r_aret (pc := 96) dX8_withoutBridges_96 rfl (Or.inr ⟨_, rfl⟩) ⟨rfl, rfl, Rw13, _, Ext.ovn hE3 hnn, ov_s _ _ _, ht13, by assumption, rw_fin (by assumption) (by omega)⟩
    · refine r_aload_n (pc := 21) dX8_withoutBridges_21 (i := 0) rfl rfl ?_
      refine t_getE (pc := 22) (.ref gF) ht13 (rd_ov (by omega) (rd_ext hE3 hg_O)) fX8_72 dX8_withoutBridges_22 rfl ?_
      refine r_iload_n (pc := 25) dX8_withoutBridges_25 (i := 2) rfl rfl ?_
      refine t_ialdX (pc := 26) (t0 := 0) ht13 (rd_ov (by omega) (rd_ext hE3 hxg_F)) dX8_withoutBridges_26 rfl (by omega) (by omega) (fun b6 => ?_)
      have rb6 := (show Rfx gm 0 ((gn : Int) - 1) F by assumption) (Int.toNat v13_2) (by omega)
      refine r_istore_n (pc := 27) (lv' := [(3, .int (iv (F (Int.toNat v13_2)))), (0, .ref ga), (1, .ref n), (2, .int (iv v13_2))]) dX8_withoutBridges_27 (i := 3) rfl (by decide) rfl ?_
      refine r_aload_n (pc := 28) dX8_withoutBridges_28 (i := 0) rfl rfl ?_
      refine t_getE (pc := 29) (.ref gT) ht13 (rd_ov (by omega) (rd_ext hE3 hg_O)) fX8_75 dX8_withoutBridges_29 rfl ?_
      refine r_iload_n (pc := 32) dX8_withoutBridges_32 (i := 2) rfl rfl ?_
      refine t_ialdX (pc := 33) (t0 := 0) ht13 (rd_ov (by omega) (rd_ext hE3 hxg_T)) dX8_withoutBridges_33 rfl (by omega) (by omega) (fun b7 => ?_)
      have rb7 := (show Rfx gm 0 ((gn : Int) - 1) T by assumption) (Int.toNat v13_2) (by omega)
      refine r_istore (pc := 34) (lv' := [(4, .int (iv (T (Int.toNat v13_2)))), (3, .int (iv (F (Int.toNat v13_2)))), (0, .ref ga), (1, .ref n), (2, .int (iv v13_2))]) dX8_withoutBridges_34 (by decide) rfl ?_
      refine r_iload_n (pc := 36) dX8_withoutBridges_36 (i := 3) rfl rfl ?_
      refine r_iload (pc := 37) dX8_withoutBridges_37 rfl ?_
      refine t_icmp_eq (pc := 39) (tgt := 89) dX8_withoutBridges_39 (by decide) (by omega) (by omega) (fun c39 => ?_) (fun c39 => ?_)
      · have hw89 := rw_same (v := v13_2) (by omega) (fun h9 => h9.1 (by omega)) (by assumption)
        refine r_iinc (pc := 89) (v := iv (v13_2 + 1)) (lv' := [(2, .int (iv (v13_2 + 1))), (4, .int (iv (T (Int.toNat v13_2)))), (3, .int (iv (F (Int.toNat v13_2)))), (0, .ref ga), (1, .ref n)]) dX8_withoutBridges_89 rfl (iv_add _ _) (by decide) rfl ?_
        refine r_goto (pc := 92) (tgt := 13) dX8_withoutBridges_92 (by decide) ?_
        refine Rn.pick (lv' := [(0, .ref ga), (1, .ref n), (2, .int (iv (v13_2 + 1)))]) [3, 4, 0] rfl ?_
        exact ih13 (Int.toNat (60 - (v13_2 + 1))) (by omega) Rw13 _ ht13 (v13_2 + 1) ⟨by omega, by omega, by omega, by (first | assumption | exact hrg_Jo), by (first | exact hw89 | exact rw_iff hjo (jo_iff (fun k _ _ => ⟨fun _ h9 => absurd h9.1 (Nat.not_lt_zero k), fun _ => trivial⟩)))⟩ (by omega)
      · refine r_aload_n (pc := 42) dX8_withoutBridges_42 (i := 0) rfl rfl ?_
        refine r_iload_n (pc := 43) dX8_withoutBridges_43 (i := 2) rfl rfl ?_
        refine t_callVI (pc := 44) (as := [.int (iv v13_2)]) (st := []) ht13 (rd_ov (by omega) (rd_ext hE3 hg_O)) kX8_78 rfl dX8_withoutBridges_44 (c_X3_hasTwinx (d := d - 1) (x1 := v13_2) (by omega) (TyG.ovx (by omega) (TyG.ext hE3 hg)) (XG.ovx (by omega) (XG.ext hE3 hxg)) ht13 (by omega) (by omega)) rfl (by omega) (Nat.le_of_ble_eq_true rfl) rfl (fun hp9 y8 ht10 by8 => ?_)
        have fy8 : ((0 ≤ y8 ∧ y8 ≤ 1) ∧ (y8 = 1 ↔ ∃ k, k < gm ∧ twP F T (Int.toNat v13_2) k)) := by8
        have ft44 := fy8
        refine t_if_ne (pc := 47) (tgt := 89) dX8_withoutBridges_47 (by decide) (by omega) (fun c47 => ?_) (fun c47 => ?_)
        · obtain ⟨k47, hk47, hq47⟩ := ft44.2.mp (by omega)
          have hw89 := rw_same (v := v13_2) (by omega) (tw_nb hk47 (by omega) hq47) (by assumption)
          refine r_iinc (pc := 89) (v := iv (v13_2 + 1)) (lv' := [(2, .int (iv (v13_2 + 1))), (4, .int (iv (T (Int.toNat v13_2)))), (3, .int (iv (F (Int.toNat v13_2)))), (0, .ref ga), (1, .ref n)]) dX8_withoutBridges_89 rfl (iv_add _ _) (by decide) rfl ?_
          refine r_goto (pc := 92) (tgt := 13) dX8_withoutBridges_92 (by decide) ?_
          refine Rn.pick (lv' := [(0, .ref ga), (1, .ref n), (2, .int (iv (v13_2 + 1)))]) [3, 4, 0] rfl ?_
          exact ih13 (Int.toNat (60 - (v13_2 + 1))) (by omega) Rw13 _ ht10 (v13_2 + 1) ⟨by omega, by omega, by omega, by (first | assumption | exact hrg_Jo), by (first | exact hw89 | exact rw_iff hjo (jo_iff (fun k _ _ => ⟨fun _ h9 => absurd h9.1 (Nat.not_lt_zero k), fun _ => trivial⟩)))⟩ (by omega)
        · have hnt : ∀ k, k < gm → ¬ twP F T (Int.toNat v13_2) k := fun k hk h9 => absurd (ft44.2.mpr ⟨k, hk, h9⟩) (by omega)
          refine r_aload_n (pc := 50) dX8_withoutBridges_50 (i := 1) rfl rfl ?_
          refine r_iload_n (pc := 51) dX8_withoutBridges_51 (i := 3) rfl rfl ?_
          refine r_iload (pc := 52) dX8_withoutBridges_52 rfl ?_
          refine r_callS (pc := 54) (as := [.ref n, .int (iv (F (Int.toNat v13_2))), .int (iv (T (Int.toNat v13_2)))]) (st := []) kX8_82 dX8_withoutBridges_54 (c_X8_cutx (d := d - 1) (x1 := F (Int.toNat v13_2)) (x2 := T (Int.toNat v13_2)) (by omega) (by assumption) (by omega) ht10 (by omega) (by omega) (by omega)) rfl (by omega) (Nat.le_of_ble_eq_true rfl) (Nat.zero_le _) (Nat.zero_le _) rfl (fun r11 hp12 n13 q14 => ?_)
          obtain ⟨rfl, rfl, fc54, ht15, hRc, hcx⟩ := q14
          have hrwc := rw_cut (X := wbX gm F T (Int.toNat v13_2)) (i := Int.toNat v13_2) (a := Int.toNat (F (Int.toNat v13_2))) (b := Int.toNat (T (Int.toNat v13_2))) (by assumption) (by omega) ⟨by omega, by omega⟩ hnt (fun u _ j => hcx u j)
          refine r_aload_n (pc := 57) dX8_withoutBridges_57 (i := 1) rfl rfl ?_
          refine r_iconst (pc := 58) (v := iv 1) dX8_withoutBridges_58 (by decide) ?_
          refine r_iload_n (pc := 59) dX8_withoutBridges_59 (i := 3) rfl rfl ?_
          refine r_ishl (pc := 60) (v := iv ((2 ^ Int.toNat (F (Int.toNat v13_2)) : Nat) : Int)) dX8_withoutBridges_60 (shl_e (by omega)) ?_
          have mp60_16 : 1 ≤ 2 ^ Int.toNat (F (Int.toNat v13_2)) := Nat.one_le_two_pow
          have mq60_17 : 2 ^ Int.toNat (F (Int.toNat v13_2)) ≤ 2 ^ 15 := Nat.pow_le_pow_right (by omega) (by omega)
          have ms60 := Me_shl (Int.toNat (F (Int.toNat v13_2)))
          refine r_iload (pc := 61) dX8_withoutBridges_61 rfl ?_
          refine t_callSI (pc := 63) (as := [.ref n, .int (iv ((2 ^ Int.toNat (F (Int.toNat v13_2)) : Nat) : Int)), .int (iv (T (Int.toNat v13_2)))]) (st := []) kX8_56 dX8_withoutBridges_63 (c_X8_distancex (d := d - 1) (av := Int.toNat (F (Int.toNat v13_2))) (x1 := ((2 ^ Int.toNat (F (Int.toNat v13_2)) : Nat) : Int)) (x2 := T (Int.toNat v13_2)) (by omega) (rd_of (ov_s _ _ _)) hRc (by omega) hrwc ht15 (by omega) (by omega) (by omega) ms60) rfl (by omega) (Nat.le_of_ble_eq_true rfl) rfl (fun hp19 y18 ht20 by18 => ?_)
          obtain ⟨by181, hdi⟩ := by18
          refine t_if_lt (pc := 66) (tgt := 89) dX8_withoutBridges_66 (by decide) (by omega) (fun c66 => ?_) (fun c66 => ?_)
          · have hbf := br_found (n := gn) (i := Int.toNat v13_2) (a := Int.toNat (F (Int.toNat v13_2))) (b := Int.toNat (T (Int.toNat v13_2))) hFk (by omega) ⟨by omega, by omega⟩ (by omega)
            have hw89 := rw_yes (v := v13_2) (by omega) (Classical.byContradiction (fun h9 => absurd (hdi.mpr (hbf.mpr h9)) (by omega))) hrwc
            refine r_iinc (pc := 89) (v := iv (v13_2 + 1)) (lv' := [(2, .int (iv (v13_2 + 1))), (4, .int (iv (T (Int.toNat v13_2)))), (3, .int (iv (F (Int.toNat v13_2)))), (0, .ref ga), (1, .ref n)]) dX8_withoutBridges_89 rfl (iv_add _ _) (by decide) rfl ?_
            refine r_goto (pc := 92) (tgt := 13) dX8_withoutBridges_92 (by decide) ?_
            refine Rn.pick (lv' := [(0, .ref ga), (1, .ref n), (2, .int (iv (v13_2 + 1)))]) [3, 4, 0] rfl ?_
            exact ih13 (Int.toNat (60 - (v13_2 + 1))) (by omega) fc54 _ ht20 (v13_2 + 1) ⟨by omega, by omega, by omega, by (first | assumption | exact hrg_Jo), by (first | exact hw89 | exact rw_iff hjo (jo_iff (fun k _ _ => ⟨fun _ h9 => absurd h9.1 (Nat.not_lt_zero k), fun _ => trivial⟩)))⟩ (by omega)
          · have hbf := br_found (n := gn) (i := Int.toNat v13_2) (a := Int.toNat (F (Int.toNat v13_2))) (b := Int.toNat (T (Int.toNat v13_2))) hFk (by omega) ⟨by omega, by omega⟩ (by omega)
            have hnb := hbf.mp (hdi.mp (by omega))
            refine r_aload_n (pc := 69) dX8_withoutBridges_69 (i := 1) rfl rfl ?_
            refine r_iload_n (pc := 70) dX8_withoutBridges_70 (i := 3) rfl rfl ?_
            refine r_dup2_11 (pc := 71) dX8_withoutBridges_71 rfl rfl ?_
            refine t_ialdX (pc := 72) (t0 := 0) ht20 (rd_of (ov_s _ _ _)) dX8_withoutBridges_72 rfl (by omega) (by omega) (fun b21 => ?_)
            have rb21 := (show Rfx gn 0 65535 fc54 by assumption) (Int.toNat (F (Int.toNat v13_2))) (by omega)
            refine r_iconst (pc := 73) (v := iv 1) dX8_withoutBridges_73 (by decide) ?_
            refine r_iload (pc := 74) dX8_withoutBridges_74 rfl ?_
            refine r_ishl (pc := 76) (v := iv ((2 ^ Int.toNat (T (Int.toNat v13_2)) : Nat) : Int)) dX8_withoutBridges_76 (shl_e (by omega)) ?_
            have mp76_22 : 1 ≤ 2 ^ Int.toNat (T (Int.toNat v13_2)) := Nat.one_le_two_pow
            have mq76_23 : 2 ^ Int.toNat (T (Int.toNat v13_2)) ≤ 2 ^ 15 := Nat.pow_le_pow_right (by omega) (by omega)
            have ms76 := Me_shl (Int.toNat (T (Int.toNat v13_2)))
            obtain ⟨z24, hz24, bz24⟩ := or_2 16 (fc54 (Int.toNat (F (Int.toNat v13_2)))) ((2 ^ Int.toNat (T (Int.toNat v13_2)) : Nat) : Int) (by omega) (by omega) (by decide)
            refine r_ior (pc := 77) (v := iv z24) dX8_withoutBridges_77 hz24 ?_
            have mez24 := Me_or hz24 (by omega) (by omega) (by omega)
            have hc77 := mez24
            refine t_iastX (pc := 78) (t0 := 0) ht20 (ov_s _ _ _) dX8_withoutBridges_78 rfl (by omega) (by omega) (by omega) (fun hp25 ht26 => ?_)
            rw [ov_ov] at ht26
            have hR78 : Rfx gn 0 65535 (fup fc54 (Int.toNat (F (Int.toNat v13_2))) z24) := Rfx_up (by assumption) (by omega)
            refine r_aload_n (pc := 79) dX8_withoutBridges_79 (i := 1) rfl rfl ?_
            refine r_iload (pc := 80) dX8_withoutBridges_80 rfl ?_
            refine r_dup2_11 (pc := 82) dX8_withoutBridges_82 rfl rfl ?_
            refine t_ialdX (pc := 83) (t0 := 0) ht26 (rd_of (ov_s _ _ _)) dX8_withoutBridges_83 rfl (by omega) (by omega) (fun b27 => ?_)
            have rb27 := (show Rfx gn 0 65535 (fup fc54 (Int.toNat (F (Int.toNat v13_2))) z24) by assumption) (Int.toNat (T (Int.toNat v13_2))) (by omega)
            refine r_iconst (pc := 84) (v := iv 1) dX8_withoutBridges_84 (by decide) ?_
            refine r_iload_n (pc := 85) dX8_withoutBridges_85 (i := 3) rfl rfl ?_
            refine r_ishl (pc := 86) (v := iv ((2 ^ Int.toNat (F (Int.toNat v13_2)) : Nat) : Int)) dX8_withoutBridges_86 (shl_e (by omega)) ?_
            have mp86_28 : 1 ≤ 2 ^ Int.toNat (F (Int.toNat v13_2)) := Nat.one_le_two_pow
            have mq86_29 : 2 ^ Int.toNat (F (Int.toNat v13_2)) ≤ 2 ^ 15 := Nat.pow_le_pow_right (by omega) (by omega)
            have ms86 := Me_shl (Int.toNat (F (Int.toNat v13_2)))
            obtain ⟨z30, hz30, bz30⟩ := or_2 16 ((fup fc54 (Int.toNat (F (Int.toNat v13_2))) z24) (Int.toNat (T (Int.toNat v13_2)))) ((2 ^ Int.toNat (F (Int.toNat v13_2)) : Nat) : Int) (by omega) (by omega) (by decide)
            refine r_ior (pc := 87) (v := iv z30) dX8_withoutBridges_87 hz30 ?_
            have mez30 := Me_or hz30 (by omega) (by omega) (by omega)
            have hc87 := mez30
            refine t_iastX (pc := 88) (t0 := 0) ht26 (ov_s _ _ _) dX8_withoutBridges_88 rfl (by omega) (by omega) (by omega) (fun hp31 ht32 => ?_)
            rw [ov_ov] at ht32
            have hR88 : Rfx gn 0 65535 (fup (fup fc54 (Int.toNat (F (Int.toNat v13_2))) z24) (Int.toNat (T (Int.toNat v13_2))) z30) := Rfx_up (by assumption) (by omega)
            have hpx := put_x hc77 ms76 hc87 ms86 (by omega)
            have hw89 := rw_same (v := v13_2) (by omega) hnb (rw_back hrwc (by omega) ⟨by omega, by omega⟩ (by omega) (by omega) (fun h9 => by omega) hpx)
            refine r_iinc (pc := 89) (v := iv (v13_2 + 1)) (lv' := [(2, .int (iv (v13_2 + 1))), (4, .int (iv (T (Int.toNat v13_2)))), (3, .int (iv (F (Int.toNat v13_2)))), (0, .ref ga), (1, .ref n)]) dX8_withoutBridges_89 rfl (iv_add _ _) (by decide) rfl ?_
            refine r_goto (pc := 92) (tgt := 13) dX8_withoutBridges_92 (by decide) ?_
            refine Rn.pick (lv' := [(0, .ref ga), (1, .ref n), (2, .int (iv (v13_2 + 1)))]) [3, 4, 0] rfl ?_
            exact ih13 (Int.toNat (60 - (v13_2 + 1))) (by omega) (fup (fup fc54 (Int.toNat (F (Int.toNat v13_2))) z24) (Int.toNat (T (Int.toNat v13_2))) z30) _ ht32 (v13_2 + 1) ⟨by omega, by omega, by omega, by (first | assumption | exact hrg_Jo), by (first | exact hw89 | exact rw_iff hjo (jo_iff (fun k _ _ => ⟨fun _ h9 => absurd h9.1 (Nat.not_lt_zero k), fun _ => trivial⟩)))⟩ (by omega)
  refine Rn.pick (lv' := [(0, .ref ga), (1, .ref n), (2, .int (iv 0))]) [2, 1, 0] rfl ?_
  exact B13 (Int.toNat (60 - 0)) Jo _ t8 0 ⟨by omega, by omega, by omega, by (first | assumption | exact hrg_Jo), by (first | exact hw89 | exact rw_iff hjo (jo_iff (fun k _ _ => ⟨fun _ h9 => absurd h9.1 (Nat.not_lt_zero k), fun _ => trivial⟩)))⟩ (by omega)
