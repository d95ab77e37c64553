set_option maxHeartbeats 4000000 in
set_option maxRecDepth 100000 in
theorem c_X6_canNumber_st {D : va_G} {cI cJ cZ cT : ClassId} {lo b L : Nat} {xs : Nat → Int32} {hp : MH} {n d : Nat} {Γ : TG} {ga : Nat} {gF : Nat} {gT : Nat} {gW : Nat} {gC : Nat} {gTl : Nat} {gHd : Nat} {gBy : Nat} {gOu : Nat} {gIn : Nat} {gJo : Nat} {gn : Nat} {gm : Nat} {gq : Nat} {gdr : Int} {F T W C Tl Hd By Ou In Jo : Nat → Int} {ka : Nat} {kF : Nat} {kT : Nat} {kW : Nat} {kC : Nat} {kTl : Nat} {kHd : Nat} {kBy : Nat} {kOu : Nat} {kIn : Nat} {kJo : Nat} {kn : Nat} {km : Nat} {kq : Nat} {kdr : Int} {F2 T2 W2 C2 Tl2 Hd2 By2 Ou2 In2 Jo2 : Nat → Int} {s : Nat} {Ti Co Fr : Nat → Int64} {Nu : Nat → Int} {x1 x2 : Int} (hd0 : 4 ≤ d) (hg : TyG Γ cI cJ cZ ga gF gT gW gC gTl gHd gBy gOu gIn gJo gn gm gq gdr) (hxg : XG Γ cI gF gT gW gC gTl gHd gBy gOu gIn gJo gn gm gq F T W C Tl Hd By Ou In Jo) (hk : TyG Γ cI cJ cZ ka kF kT kW kC kTl kHd kBy kOu kIn kJo kn km kq kdr) (hxk : XG Γ cI kF kT kW kC kTl kHd kBy kOu kIn kJo kn km kq F2 T2 W2 C2 Tl2 Hd2 By2 Ou2 In2 Jo2) (hsp : s + 5 ≤ ga ∧ s + 5 ≤ gF ∧ s + 5 ≤ gT ∧ s + 5 ≤ gW ∧ s + 5 ≤ gC ∧ s + 5 ≤ gTl ∧ s + 5 ≤ gHd ∧ s + 5 ≤ gBy ∧ s + 5 ≤ gOu ∧ s + 5 ≤ gIn ∧ s + 5 ≤ gJo) (hspk : s + 5 ≤ ka ∧ s + 5 ≤ kF ∧ s + 5 ≤ kT ∧ s + 5 ≤ kW ∧ s + 5 ≤ kC ∧ s + 5 ≤ kTl ∧ s + 5 ≤ kHd ∧ s + 5 ≤ kBy ∧ s + 5 ≤ kOu ∧ s + 5 ≤ kIn ∧ s + 5 ≤ kJo) (hkm : km = gm) (hkd : kdr = gdr) (hNu : Rfx 16 0 15 Nu) (ht : Tw (SmS Γ cI cJ s Ti Co Fr Nu) hp) (hx1 : 0 ≤ x1 ∧ x1 ≤ (gn : Int)) (hx2 : 0 ≤ x2 ∧ x2 ≤ x1) (htp : ∀ im, (vaP (isP gm gdr F T W C F2 T2 W2 C2) (gn : Int)) im → tpP Ti gn (fun i => (im i).toNat)) (hcv : (∀ im, (vaP (isP gm gdr F T W C F2 T2 W2 C2) (gn : Int)) im → (∀ i : Nat, (i : Int) < x1 → im i = Nu i) → cvP Co (Int.toNat (x2 * 32)) gn (fun i => (im i).toNat))) (ih : ∀ (hp : MH) (n : Nat) (z1 z2 : Int) (Co Fr : Nat → Int64) (Nu : Nat → Int), Tw (SmS Γ cI cJ s Ti Co Fr Nu) hp → Rfx 16 0 15 Nu → (x1 < z1 ∧ z1 ≤ (gn : Int)) → (0 ≤ z2 ∧ z2 ≤ z1) → (∀ im, (vaP (isP gm gdr F T W C F2 T2 W2 C2) (gn : Int)) im → (∀ i : Nat, (i : Int) < z1 → im i = Nu i) → cvP Co (Int.toNat (z2 * 32)) gn (fun i => (im i).toNat)) → Mt (gG D cI cJ cZ cT lo b L xs) mX6_canNumber (d - 1) 0 0 [.ref s, .ref ga, .ref ka, .int (iv z1), .int (iv z2)] hp n (fun r9 hp1 n1 => n1 = n ∧ ∃ (Co1 Fr1 : Nat → Int64) (Nu1 : Nat → Int) (q : Int), Tw (SmS Γ cI cJ s Ti Co1 Fr1 Nu1) hp1 ∧ r9 = some (.int (iv q)) ∧ (0 ≤ q ∧ q ≤ 1) ∧ (∀ i : Nat, (i : Int) < 32 * (z2 + 1) → Co1 i = Co i) ∧ Rfx 16 0 15 Nu1 ∧ (∀ i : Nat, (i : Int) < z1 → Nu1 i = Nu i) ∧ cnA (vaP (isP gm gdr F T W C F2 T2 W2 C2) (gn : Int)) gn Nu Nu1 z1 q)) : Mt (gG D cI cJ cZ cT lo b L xs) mX6_canNumber d 0 0 [.ref s, .ref ga, .ref ka, .int (iv x1), .int (iv x2)] hp n (fun r9 hp1 n1 => n1 = n ∧ ∃ (Co1 Fr1 : Nat → Int64) (Nu1 : Nat → Int) (q : Int), Tw (SmS Γ cI cJ s Ti Co1 Fr1 Nu1) hp1 ∧ r9 = some (.int (iv q)) ∧ (0 ≤ q ∧ q ≤ 1) ∧ (∀ i : Nat, (i : Int) < 32 * (x2 + 1) → Co1 i = Co i) ∧ Rfx 16 0 15 Nu1 ∧ (∀ i : Nat, (i : Int) < x1 → Nu1 i = Nu i) ∧ cnA (vaP (isP gm gdr F T W C F2 T2 W2 C2) (gn : Int)) gn Nu Nu1 x1 q) := by
  refine Mt.of rfl (Nat.le_of_ble_eq_true rfl) ?_
  refine Rn.pick (lv' := [(0, .ref s), (1, .ref ga), (2, .ref ka), (3, .int (iv x1)), (4, .int (iv x2))]) [0, 1, 2, 3, 4] rfl ?_
  have t0 : Tw (ov (ov (ov (ov (ov Γ s (tO 6 (smnR s))) (s + 1) (xJ cJ 512 Ti)) (s + 2) (xJ cJ 544 Co)) (s + 3) (xJ cJ 32 Fr)) (s + 4) (xI cI 16 Nu)) hp := ht
  obtain ⟨hg_O, hg_from, hg_to, hg_weight, hg_cost, hg_tail, hg_head, hg_by, hg_out, hg_in, hg_joined, hg_b⟩ := id hg
  obtain ⟨⟨hxg_F, hxg_T, hxg_W, hxg_C, hxg_Tl, hxg_Hd, hxg_By, hxg_Ou, hxg_In, hxg_Jo⟩, ⟨hrg_F, hrg_T, hrg_W, hrg_C, hrg_Tl, hrg_Hd, hrg_By, hrg_Ou, hrg_In, hrg_Jo⟩, houg⟩ := id hxg
  obtain ⟨hk_O, hk_from, hk_to, hk_weight, hk_cost, hk_tail, hk_head, hk_by, hk_out, hk_in, hk_joined, hk_b⟩ := id hk
  obtain ⟨⟨hxk_F, hxk_T, hxk_W, hxk_C, hxk_Tl, hxk_Hd, hxk_By, hxk_Ou, hxk_In, hxk_Jo⟩, ⟨hrk_F, hrk_T, hrk_W, hrk_C, hrk_Tl, hrk_Hd, hrk_By, hrk_Ou, hrk_In, hrk_Jo⟩, houk⟩ := id hxk
  have hgb := hg_b
  have hkb := hk_b
  have hrg : ∀ im, (vaP (isP gm gdr F T W C F2 T2 W2 C2) (gn : Int)) im → ∀ i : Nat, (i : Int) < (gn : Int) → 0 ≤ im i ∧ im i < (gn : Int) := fun im h9 i hi => (h9.1 i hi).1
  refine r_aload_n (pc := 0) dX6_canNumber_0 (i := 1) rfl rfl ?_
  refine t_getE (pc := 1) (.int (iv (gn : Int))) t0 (rd_ov (by omega) (rd_ov (by omega) (rd_ov (by omega) (rd_ov (by omega) (rd_ov (by omega) hg_O))))) fX6_25 dX6_canNumber_1 rfl ?_
  refine r_istore (pc := 4) (lv' := [(5, .int (iv (gn : Int))), (0, .ref s), (1, .ref ga), (2, .ref ka), (3, .int (iv x1)), (4, .int (iv x2))]) dX6_canNumber_4 (by decide) rfl ?_
  refine r_iload_n (pc := 6) dX6_canNumber_6 (i := 3) rfl rfl ?_
  refine r_iload (pc := 7) dX6_canNumber_7 rfl ?_
  refine t_icmp_lt (pc := 9) (tgt := 19) dX6_canNumber_9 (by decide) (by omega) (by omega) (fun c9 => ?_) (fun c9 => ?_)
  · refine r_iload (pc := 19) dX6_canNumber_19 rfl ?_
    refine r_bipush (pc := 21) (v := iv 32) dX6_canNumber_21 (by decide) ?_
    refine r_imul (pc := 23) (v := iv (x2 * 32)) dX6_canNumber_23 (iv_mul _ _) ?_
    refine r_istore (pc := 24) (lv' := [(6, .int (iv (x2 * 32))), (5, .int (iv (gn : Int))), (0, .ref s), (1, .ref ga), (2, .ref ka), (3, .int (iv x1)), (4, .int (iv x2))]) dX6_canNumber_24 (by decide) rfl ?_
    refine r_aload_n (pc := 26) dX6_canNumber_26 (i := 0) rfl rfl ?_
    refine t_getE (pc := 27) (.ref (s + 2)) t0 (rd_ov (by omega) (rd_ov (by omega) (rd_ov (by omega) (rd_ov (by omega) (rd_of (ov_s _ _ _)))))) fX6_15 dX6_canNumber_27 rfl ?_
    refine r_iload (pc := 30) dX6_canNumber_30 rfl ?_
    refine r_iload_n (pc := 32) dX6_canNumber_32 (i := 3) rfl rfl ?_
    refine r_iadd (pc := 33) (v := iv ((x2 * 32) + x1)) dX6_canNumber_33 (iv_add _ _) ?_
    refine t_laldX (pc := 34) (t0 := 1) t0 (rd_ov (by omega) (rd_ov (by omega) (rd_of (ov_s _ _ _)))) dX6_canNumber_34 rfl (by decide) (by omega) ?_
    have e34 : Co (Int.toNat ((x2 * 32) + x1)) = Co ((Int.toNat (x2 * 32)) + Int.toNat x1) := congrArg Co (by omega)
    refine r_lstore (pc := 35) (lv' := [(7, .long (Co (Int.toNat ((x2 * 32) + x1)))), (6, .int (iv (x2 * 32))), (5, .int (iv (gn : Int))), (0, .ref s), (1, .ref ga), (2, .ref ka), (3, .int (iv x1)), (4, .int (iv x2))]) dX6_canNumber_35 (by decide) rfl ?_
    refine r_iconst (pc := 37) (v := iv 0) dX6_canNumber_37 (by decide) ?_
    refine r_istore (pc := 38) (lv' := [(9, .int (iv 0)), (7, .long (Co (Int.toNat ((x2 * 32) + x1)))), (6, .int (iv (x2 * 32))), (5, .int (iv (gn : Int))), (0, .ref s), (1, .ref ga), (2, .ref ka), (3, .int (iv x1)), (4, .int (iv x2))]) dX6_canNumber_38 (by decide) rfl ?_
    refine r_iconst (pc := 40) (v := iv 0) dX6_canNumber_40 (by decide) ?_
    refine r_istore (pc := 41) (lv' := [(10, .int (iv 0)), (9, .int (iv 0)), (7, .long (Co (Int.toNat ((x2 * 32) + x1)))), (6, .int (iv (x2 * 32))), (5, .int (iv (gn : Int))), (0, .ref s), (1, .ref ga), (2, .ref ka), (3, .int (iv x1)), (4, .int (iv x2))]) dX6_canNumber_41 (by decide) rfl ?_
    have B43 : ∀ k : Nat, ∀ Co43 : Nat → Int64, ∀ Fr43 : Nat → Int64, ∀ Nu43 : Nat → Int, ∀ hp43 : MH, Tw (ov (ov (ov (ov (ov Γ s (tO 6 (smnR s))) (s + 1) (xJ cJ 512 Ti)) (s + 2) (xJ cJ 544 Co43)) (s + 3) (xJ cJ 32 Fr43)) (s + 4) (xI cI 16 Nu43)) hp43 → ∀  (v43_9 : Int) (v43_10 : Int), 0 ≤ v43_9 ∧ v43_9 ≤ 65535 ∧ 0 ≤ v43_10 ∧ v43_10 ≤ 16 ∧ (v43_10 ≤ (gn : Int)) ∧ (∀ i : Nat, (i : Int) < 32 * (x2 + 1) → Co43 i = Co i) ∧ (Rfx 16 0 15 Nu43) ∧ (∀ i : Nat, (i : Int) < x1 → Nu43 i = Nu i) ∧ (nvP (vaP (isP gm gdr F T W C F2 T2 W2 C2) (gn : Int)) Nu x1 v43_9) ∧ (tkC gn v43_9 v43_10) → 16 - v43_10 ≤ (k : Int) → Rn (gG D cI cJ cZ cT lo b L xs) mX6_canNumber d 43 [(0, .ref s), (1, .ref ga), (2, .ref ka), (3, .int (iv x1)), (4, .int (iv x2)), (5, .int (iv (gn : Int))), (6, .int (iv (x2 * 32))), (7, .long (Co (Int.toNat ((x2 * 32) + x1)))), (9, .int (iv v43_9)), (10, .int (iv v43_10))] [] hp43 n 0 0 (fun r9 hp1 n1 => n1 = n ∧ ∃ (Co1 Fr1 : Nat → Int64) (Nu1 : Nat → Int) (q : Int), Tw (SmS Γ cI cJ s Ti Co1 Fr1 Nu1) hp1 ∧ r9 = some (.int (iv q)) ∧ (0 ≤ q ∧ q ≤ 1) ∧ (∀ i : Nat, (i : Int) < 32 * (x2 + 1) → Co1 i = Co i) ∧ Rfx 16 0 15 Nu1 ∧ (∀ i : Nat, (i : Int) < x1 → Nu1 i = Nu i) ∧ cnA (vaP (isP gm gdr F T W C F2 T2 W2 C2) (gn : Int)) gn Nu Nu1 x1 q) := by
      refine lpS _ ?_
      intro k43 ih43 Co43 Fr43 Nu43 hp43 ht43 v43_9 v43_10 hf43 hm43
      obtain ⟨hf43_0, hf43_1, hf43_2, hf43_3, hf43_4, ha43_5, ha43_6, ha43_7, ha43_8, ha43_9⟩ := hf43
      refine r_iload (pc := 43) dX6_canNumber_43 rfl ?_
      refine r_iload (pc := 45) dX6_canNumber_45 rfl ?_
      refine t_icmp_ge (pc := 47) (tgt := 179) dX6_canNumber_47 (by decide) (by omega) (by omega) (fun c47 => ?_) (fun c47 => ?_)
      · refine r_iconst (pc := 179) (v := iv 0) dX6_canNumber_179 (by decide) ?_
        exact r_zret (pc := 180) dX6_canNumber_180 rfl (iv_nar (by omega)) ⟨rfl, Co43, Fr43, Nu43, _, ht43, rfl, by omega, (by assumption : ∀ i : Nat, (i : Int) < 32 * (x2 + 1) → Co43 i = Co i), by assumption, (by assumption : ∀ i : Nat, (i : Int) < x1 → Nu43 i = Nu i), cn_out (by omega) hrg (by assumption : nvP (vaP (isP gm gdr F T W C F2 T2 W2 C2) (gn : Int)) Nu x1 v43_9) (by assumption : tkC gn v43_9 v43_10) (by omega) rfl⟩
      · refine r_aload_n (pc := 50) dX6_canNumber_50 (i := 0) rfl rfl ?_
        refine r_iload (pc := 51) dX6_canNumber_51 rfl ?_
        refine r_lload (pc := 53) dX6_canNumber_53 rfl ?_
        refine r_iload (pc := 55) dX6_canNumber_55 rfl ?_
        refine r_iload (pc := 57) dX6_canNumber_57 rfl ?_
        refine t_callVI (pc := 59) (as := [.int (iv (x2 * 32)), .long (Co (Int.toNat ((x2 * 32) + x1))), .int (iv v43_9), .int (iv (gn : Int))]) (st := []) ht43 (rd_ov (by omega) (rd_ov (by omega) (rd_ov (by omega) (rd_ov (by omega) (rd_of (ov_s _ _ _)))))) kX6_99 rfl dX6_canNumber_59 (c_X6_firstLikex (d := d - 1) (Co := Co43) (x1 := x2 * 32) (j2 := Co (Int.toNat ((x2 * 32) + x1))) (x4 := v43_9) (x5 := (gn : Int)) (by omega) (rd_ov (by omega) (rd_ov (by omega) (rd_ov (by omega) (rd_ov (by omega) (rd_of (ov_s _ _ _)))))) (rd_ov (by omega) (rd_ov (by omega) (rd_of (ov_s _ _ _)))) ht43 (by omega) (by omega) (by omega)) rfl (by omega) (Nat.le_of_ble_eq_true rfl) rfl (fun hp2 y1 ht3 by1 => ?_)
        obtain ⟨by11, hfk59⟩ := by1
        rw [Int.toNat_natCast, e34] at hfk59
        have hfq59 := flq_cg (Co := Co) hfk59 (by omega) (by omega) (fun u9 hu9 => (by assumption : ∀ i : Nat, (i : Int) < 32 * (x2 + 1) → Co43 i = Co i) _ (by omega))
        refine r_istore (pc := 62) (lv' := [(11, .int (iv y1)), (0, .ref s), (1, .ref ga), (2, .ref ka), (3, .int (iv x1)), (4, .int (iv x2)), (5, .int (iv (gn : Int))), (6, .int (iv (x2 * 32))), (7, .long (Co (Int.toNat ((x2 * 32) + x1)))), (9, .int (iv v43_9)), (10, .int (iv v43_10))]) dX6_canNumber_62 (by decide) rfl ?_
        refine r_iload (pc := 64) dX6_canNumber_64 rfl ?_
        refine t_if_ge (pc := 66) (tgt := 71) dX6_canNumber_66 (by decide) (by omega) (fun c66 => ?_) (fun c66 => ?_)
        · obtain ⟨hk1, hk2, hk3⟩ := hfq59.2 (by omega)
          have hge := cn_ge (u := y1) (by omega) hrg hcv (by assumption : nvP (vaP (isP gm gdr F T W C F2 T2 W2 C2) (gn : Int)) Nu x1 v43_9) hk3
          refine r_iload (pc := 71) dX6_canNumber_71 rfl ?_
          refine t_if_ne (pc := 73) (tgt := 97) dX6_canNumber_73 (by decide) (by omega) (fun c73 => ?_) (fun c73 => ?_)
          · refine r_iconst (pc := 97) (v := iv 0) dX6_canNumber_97 (by decide) ?_
            refine r_istore (pc := 98) (lv' := [(12, .int (iv 0)), (11, .int (iv y1)), (0, .ref s), (1, .ref ga), (2, .ref ka), (3, .int (iv x1)), (4, .int (iv x2)), (5, .int (iv (gn : Int))), (6, .int (iv (x2 * 32))), (7, .long (Co (Int.toNat ((x2 * 32) + x1)))), (9, .int (iv v43_9)), (10, .int (iv v43_10))]) dX6_canNumber_98 (by decide) rfl ?_
            refine r_iload (pc := 100) dX6_canNumber_100 rfl ?_
            refine r_iconst (pc := 102) (v := iv 1) dX6_canNumber_102 (by decide) ?_
            refine r_iload (pc := 103) dX6_canNumber_103 rfl ?_
            refine r_ishl (pc := 105) (v := iv ((2 ^ Int.toNat y1 : Nat) : Int)) dX6_canNumber_105 (shl_e (by omega)) ?_
            have mp105_4 : 1 ≤ 2 ^ Int.toNat y1 := Nat.one_le_two_pow
            have mq105_5 : 2 ^ Int.toNat y1 ≤ 2 ^ 15 := Nat.pow_le_pow_right (by omega) (by omega)
            have ms105 := Me_shl (Int.toNat y1)
            obtain ⟨z6, hz6, bz6⟩ := or_2 16 v43_9 ((2 ^ Int.toNat y1 : Nat) : Int) (by omega) (by omega) (by decide)
            refine r_ior (pc := 106) (v := iv z6) dX6_canNumber_106 hz6 ?_
            have mez6 := Me_or hz6 (by omega) (by omega) (by omega)
            have hz1 : ∀ i9, Me z6 i9 ↔ Me v43_9 i9 ∨ i9 = Int.toNat y1 := fun i9 => by rw [mez6 i9, ms105 i9]
            refine r_istore (pc := 107) (lv' := [(9, .int (iv z6)), (12, .int (iv 0)), (11, .int (iv y1)), (0, .ref s), (1, .ref ga), (2, .ref ka), (3, .int (iv x1)), (4, .int (iv x2)), (5, .int (iv (gn : Int))), (6, .int (iv (x2 * 32))), (7, .long (Co (Int.toNat ((x2 * 32) + x1)))), (10, .int (iv v43_10))]) dX6_canNumber_107 (by decide) rfl ?_
            refine r_aload_n (pc := 109) dX6_canNumber_109 (i := 0) rfl rfl ?_
            refine t_getE (pc := 110) (.ref (s + 4)) ht3 (rd_ov (by omega) (rd_ov (by omega) (rd_ov (by omega) (rd_ov (by omega) (rd_of (ov_s _ _ _)))))) fX6_21 dX6_canNumber_110 rfl ?_
            refine r_iload_n (pc := 113) dX6_canNumber_113 (i := 3) rfl rfl ?_
            refine r_iload (pc := 114) dX6_canNumber_114 rfl ?_
            refine t_iastX (pc := 116) (t0 := 0) ht3 (ov_s _ _ _) dX6_canNumber_116 rfl (by decide) (by omega) (by omega) (fun hp7 ht8 => ?_)
            rw [ov_ov] at ht8
            have hN116 : Rfx 16 0 15 (fup Nu43 (Int.toNat x1) y1) := Rfx_up (by assumption) (by omega)
            have hpl1 : ∀ i : Nat, (i : Int) < x1 → (fup Nu43 (Int.toNat x1) y1) i = Nu i := fun i9 hi9 => by
              rw [show (fup Nu43 (Int.toNat x1) y1) i9 = Nu43 i9 from if_neg (by omega)]
              exact (by assumption : ∀ i : Nat, (i : Int) < x1 → Nu43 i = Nu i) i9 hi9
            refine r_iload (pc := 117) dX6_canNumber_117 rfl ?_
            refine t_if_eq (pc := 119) (tgt := 134) dX6_canNumber_119 (by decide) (by omega) (fun c119 => ?_) (fun c119 => ?_)
            · refine r_iload (pc := 134) dX6_canNumber_134 rfl ?_
              refine r_bipush (pc := 136) (v := iv 16) dX6_canNumber_136 (by decide) ?_
              refine t_icmp_ge (pc := 138) (tgt := 173) dX6_canNumber_138 (by decide) (by omega) (by omega) (fun c138 => ?_) (fun c138 => ?_)
              · exfalso
                omega
              · refine r_aload_n (pc := 141) dX6_canNumber_141 (i := 0) rfl rfl ?_
                refine r_iload (pc := 142) dX6_canNumber_142 rfl ?_
                refine r_iload_n (pc := 144) dX6_canNumber_144 (i := 3) rfl rfl ?_
                refine r_iload (pc := 145) dX6_canNumber_145 rfl ?_
                refine r_iload (pc := 147) dX6_canNumber_147 rfl ?_
                have hcvL : (∀ im, (vaP (isP gm gdr F T W C F2 T2 W2 C2) (gn : Int)) im → (∀ i : Nat, (i : Int) < x1 → im i = Nu i) → cvP Co43 (Int.toNat (x2 * 32)) gn (fun i => (im i).toNat)) := fun im9 h9 g9 v9 hv9 => by
                  have h8 := hcv im9 h9 g9 v9 hv9
                  have h7 := (hrg im9 h9 v9 (by omega)).2
                  show Co43 ((Int.toNat (x2 * 32)) + v9) = Co43 ((Int.toNat (x2 * 32)) + 16 + (im9 v9).toNat)
                  rw [(by assumption : ∀ i : Nat, (i : Int) < 32 * (x2 + 1) → Co43 i = Co i) _ (by omega), (by assumption : ∀ i : Nat, (i : Int) < 32 * (x2 + 1) → Co43 i = Co i) _ (by omega)]
                  exact h8
                obtain ⟨fs14, hfs14⟩ := t_obj ht8 (rd_ov (by omega) (rd_ov (by omega) (rd_ov (by omega) (rd_ov (by omega) (rd_of (ov_s _ _ _))))))
                refine r_callV (pc := 149) (as := [.int (iv (gn : Int)), .int (iv x1), .int (iv y1), .int (iv x2)]) (st := []) kX6_107 rfl dX6_canNumber_149 hfs14 (c_X6_markPairx (d := d - 1) (rw9 := (Int.toNat (x2 * 32))) (x1 := x1) (x2 := y1) (x3 := x2) (by omega) (by omega) ht8 (by omega) (by omega) (by omega) (by omega) (by omega)) rfl (by omega) (Nat.le_of_ble_eq_true rfl) (Nat.zero_le _) (Nat.zero_le _) rfl (fun r9 hp10 n11 q12 => ?_)
                obtain ⟨hnn11, Co149, Fr149, v149, ht13, hrr9, bv149, hmp1, hmp2⟩ := q12
                subst n11 r9
                change Rn _ _ _ 152 _ [.int (iv v149)] _ _ _ _ _
                have hlo1 : ∀ i : Nat, (i : Int) < 32 * (x2 + 1) → Co149 i = Co i := fun i9 hi9 => (hmp1 i9 (by omega)).trans ((by assumption : ∀ i : Nat, (i : Int) < 32 * (x2 + 1) → Co43 i = Co i) i9 hi9)
                refine t_if_eq (pc := 152) (tgt := 173) dX6_canNumber_152 (by decide) (by omega) (fun c152 => ?_) (fun c152 => ?_)
                · have hnv1 : nvP (vaP (isP gm gdr F T W C F2 T2 W2 C2) (gn : Int)) Nu x1 z6 := nv_up (u := Int.toNat y1) (by assumption : nvP (vaP (isP gm gdr F T W C F2 T2 W2 C2) (gn : Int)) Nu x1 v43_9) hz1 (fun im9 h9 g9 e9 => by
                    have h8 := (hmp2 _ (htp im9 h9) (hcvL im9 h9 g9) (by show (im9 (Int.toNat x1)).toNat = _; rw [e9]; omega)).1
                    omega)
                  have htk1 := tk_up (by assumption : tkC gn v43_9 v43_10) (u := Int.toNat y1) (by omega) hk1 hz1
                  refine r_iinc (pc := 173) (v := iv (v43_10 + 1)) (lv' := [(10, .int (iv (v43_10 + 1))), (9, .int (iv z6)), (12, .int (iv 0)), (11, .int (iv y1)), (0, .ref s), (1, .ref ga), (2, .ref ka), (3, .int (iv x1)), (4, .int (iv x2)), (5, .int (iv (gn : Int))), (6, .int (iv (x2 * 32))), (7, .long (Co (Int.toNat ((x2 * 32) + x1))))]) dX6_canNumber_173 rfl (iv_add _ _) (by decide) rfl ?_
                  refine r_goto (pc := 176) (tgt := 43) dX6_canNumber_176 (by decide) ?_
                  refine Rn.pick (lv' := [(0, .ref s), (1, .ref ga), (2, .ref ka), (3, .int (iv x1)), (4, .int (iv x2)), (5, .int (iv (gn : Int))), (6, .int (iv (x2 * 32))), (7, .long (Co (Int.toNat ((x2 * 32) + x1)))), (9, .int (iv z6)), (10, .int (iv (v43_10 + 1)))]) [4, 5, 6, 7, 8, 9, 10, 11, 1, 0] rfl ?_
                  exact ih43 (Int.toNat (16 - (v43_10 + 1))) (by omega) Co149 Fr149 (fup Nu43 (Int.toNat x1) y1) _ ht13 z6 (v43_10 + 1) ⟨by omega, by omega, by omega, by omega, by omega, by (first | exact hlo2 | exact hlo1 | exact fun _ _ => rfl), by (first | exact hNu165 | exact hN116 | exact hNu), by (first | exact hpl2 | exact hpl1 | exact fun _ _ => rfl), by (first | exact hnv1 | exact nv_0), by (first | exact htk1 | exact tk_0)⟩ (by omega)
                · refine r_aload_n (pc := 155) dX6_canNumber_155 (i := 0) rfl rfl ?_
                  refine r_aload_n (pc := 156) dX6_canNumber_156 (i := 1) rfl rfl ?_
                  refine r_aload_n (pc := 157) dX6_canNumber_157 (i := 2) rfl rfl ?_
                  refine r_iload_n (pc := 158) dX6_canNumber_158 (i := 3) rfl rfl ?_
                  refine r_iconst (pc := 159) (v := iv 1) dX6_canNumber_159 (by decide) ?_
                  refine r_iadd (pc := 160) (v := iv (x1 + 1)) dX6_canNumber_160 (iv_add _ _) ?_
                  refine r_iload (pc := 161) dX6_canNumber_161 rfl ?_
                  refine r_iconst (pc := 163) (v := iv 1) dX6_canNumber_163 (by decide) ?_
                  refine r_iadd (pc := 164) (v := iv (x2 + 1)) dX6_canNumber_164 (iv_add _ _) ?_
                  have hcn : (∀ im, (vaP (isP gm gdr F T W C F2 T2 W2 C2) (gn : Int)) im → (∀ i : Nat, (i : Int) < (x1 + 1) → im i = (fup Nu43 (Int.toNat x1) y1) i) → cvP Co149 (Int.toNat ((x2 + 1) * 32)) gn (fun i => (im i).toNat)) := fun im9 h9 g9 => by
                    have h8 := (pf_up (by omega) (by assumption : ∀ i : Nat, (i : Int) < x1 → Nu43 i = Nu i)).mp g9
                    have h7 := (hmp2 _ (htp im9 h9) (hcvL im9 h9 h8.1) (by show (im9 (Int.toNat x1)).toNat = _; rw [h8.2])).2
                    rw [show Int.toNat ((x2 + 1) * 32) = (Int.toNat (x2 * 32)) + 32 by omega]
                    exact h7
                  obtain ⟨fs20, hfs20⟩ := t_obj ht13 (rd_ov (by omega) (rd_ov (by omega) (rd_ov (by omega) (rd_ov (by omega) (rd_of (ov_s _ _ _))))))
                  refine r_callV (pc := 165) (as := [.ref ga, .ref ka, .int (iv (x1 + 1)), .int (iv (x2 + 1))]) (st := []) kX6_56 rfl dX6_canNumber_165 hfs20 (ih _ _ (x1 + 1) (x2 + 1) Co149 Fr149 (fup Nu43 (Int.toNat x1) y1) ht13 hN116 (by omega) (by omega) hcn) rfl (by omega) (Nat.le_of_ble_eq_true rfl) (Nat.zero_le _) (Nat.zero_le _) rfl (fun r15 hp16 n17 q18 => ?_)
                  obtain ⟨hnn17, Co165, Fr165, Nu165, v165, ht19, hrr15, bv165, hlo165, hNu165, hpf165, hca165⟩ := q18
                  subst n17 r15
                  change Rn _ _ _ 168 _ [.int (iv v165)] _ _ _ _ _
                  refine t_if_eq (pc := 168) (tgt := 173) dX6_canNumber_168 (by decide) (by omega) (fun c168 => ?_) (fun c168 => ?_)
                  · have e165 : v165 = 0 := by omega
                    rw [e165] at hca165
                    have hnx := cn_nx (by omega) (by assumption : ∀ i : Nat, (i : Int) < x1 → Nu43 i = Nu i) hca165
                    have hnv1 : nvP (vaP (isP gm gdr F T W C F2 T2 W2 C2) (gn : Int)) Nu x1 z6 := nv_up (u := Int.toNat y1) (by assumption : nvP (vaP (isP gm gdr F T W C F2 T2 W2 C2) (gn : Int)) Nu x1 v43_9) hz1 (fun im9 h9 g9 e9 => hnx im9 h9 g9 (by omega))
                    have htk1 := tk_up (by assumption : tkC gn v43_9 v43_10) (u := Int.toNat y1) (by omega) hk1 hz1
                    have hlo2 : ∀ i : Nat, (i : Int) < 32 * (x2 + 1) → Co165 i = Co i := fun i9 hi9 => (hlo165 i9 (by omega)).trans (hlo1 i9 hi9)
                    have hpl2 : ∀ i : Nat, (i : Int) < x1 → Nu165 i = Nu i := fun i9 hi9 => (hpf165 i9 (by omega)).trans (hpl1 i9 hi9)
                    refine r_iinc (pc := 173) (v := iv (v43_10 + 1)) (lv' := [(10, .int (iv (v43_10 + 1))), (9, .int (iv z6)), (12, .int (iv 0)), (11, .int (iv y1)), (0, .ref s), (1, .ref ga), (2, .ref ka), (3, .int (iv x1)), (4, .int (iv x2)), (5, .int (iv (gn : Int))), (6, .int (iv (x2 * 32))), (7, .long (Co (Int.toNat ((x2 * 32) + x1))))]) dX6_canNumber_173 rfl (iv_add _ _) (by decide) rfl ?_
                    refine r_goto (pc := 176) (tgt := 43) dX6_canNumber_176 (by decide) ?_
                    refine Rn.pick (lv' := [(0, .ref s), (1, .ref ga), (2, .ref ka), (3, .int (iv x1)), (4, .int (iv x2)), (5, .int (iv (gn : Int))), (6, .int (iv (x2 * 32))), (7, .long (Co (Int.toNat ((x2 * 32) + x1)))), (9, .int (iv z6)), (10, .int (iv (v43_10 + 1)))]) [4, 5, 6, 7, 8, 9, 10, 11, 1, 0] rfl ?_
                    exact ih43 (Int.toNat (16 - (v43_10 + 1))) (by omega) Co165 Fr165 Nu165 _ ht19 z6 (v43_10 + 1) ⟨by omega, by omega, by omega, by omega, by omega, by (first | exact hlo2 | exact hlo1 | exact fun _ _ => rfl), by (first | exact hNu165 | exact hN116 | exact hNu), by (first | exact hpl2 | exact hpl1 | exact fun _ _ => rfl), by (first | exact hnv1 | exact nv_0), by (first | exact htk1 | exact tk_0)⟩ (by omega)
                  · have e165 : v165 = 1 := by omega
                    rw [e165] at hca165
                    refine r_iconst (pc := 171) (v := iv 1) dX6_canNumber_171 (by decide) ?_
                    exact r_zret (pc := 172) dX6_canNumber_172 rfl (iv_nar (by omega)) ⟨rfl, Co165, Fr165, Nu165, _, ht19, rfl, by omega, fun i9 hi9 => (hlo165 i9 (by omega)).trans (hlo1 i9 hi9), hNu165, fun i9 hi9 => (hpf165 i9 (by omega)).trans (hpl1 i9 hi9), cn_ys (by omega) (by assumption : ∀ i : Nat, (i : Int) < x1 → Nu43 i = Nu i) hge hpf165 hca165 rfl⟩
            · exfalso
              omega
          · refine r_aload_n (pc := 76) dX6_canNumber_76 (i := 0) rfl rfl ?_
            refine r_iload (pc := 77) dX6_canNumber_77 rfl ?_
            refine r_lload (pc := 79) dX6_canNumber_79 rfl ?_
            refine r_iconst (pc := 81) (v := iv 1) dX6_canNumber_81 (by decide) ?_
            refine r_iload (pc := 82) dX6_canNumber_82 rfl ?_
            refine r_ishl (pc := 84) (v := iv ((2 ^ Int.toNat y1 : Nat) : Int)) dX6_canNumber_84 (shl_e (by omega)) ?_
            have mp84_21 : 1 ≤ 2 ^ Int.toNat y1 := Nat.one_le_two_pow
            have mq84_22 : 2 ^ Int.toNat y1 ≤ 2 ^ 15 := Nat.pow_le_pow_right (by omega) (by omega)
            have ms84 := Me_shl (Int.toNat y1)
            refine r_iload (pc := 85) dX6_canNumber_85 rfl ?_
            refine t_callVI (pc := 87) (as := [.int (iv (x2 * 32)), .long (Co (Int.toNat ((x2 * 32) + x1))), .int (iv ((2 ^ Int.toNat y1 : Nat) : Int)), .int (iv (gn : Int))]) (st := []) ht3 (rd_ov (by omega) (rd_ov (by omega) (rd_ov (by omega) (rd_ov (by omega) (rd_of (ov_s _ _ _)))))) kX6_99 rfl dX6_canNumber_87 (c_X6_firstLikex (d := d - 1) (Co := Co43) (x1 := x2 * 32) (j2 := Co (Int.toNat ((x2 * 32) + x1))) (x4 := ((2 ^ Int.toNat y1 : Nat) : Int)) (x5 := (gn : Int)) (by omega) (rd_ov (by omega) (rd_ov (by omega) (rd_ov (by omega) (rd_ov (by omega) (rd_of (ov_s _ _ _)))))) (rd_ov (by omega) (rd_ov (by omega) (rd_of (ov_s _ _ _)))) ht3 (by omega) (by omega) (by omega)) rfl (by omega) (Nat.le_of_ble_eq_true rfl) rfl (fun hp24 y23 ht25 by23 => ?_)
            obtain ⟨by231, hfk87⟩ := by23
            rw [Int.toNat_natCast, e34] at hfk87
            have hfq87 := flq_cg (Co := Co) hfk87 (by omega) (by omega) (fun u9 hu9 => (by assumption : ∀ i : Nat, (i : Int) < 32 * (x2 + 1) → Co43 i = Co i) _ (by omega))
            refine t_if_ge (pc := 90) (tgt := 97) dX6_canNumber_90 (by decide) (by omega) (fun c90 => ?_) (fun c90 => ?_)
            · refine r_iconst (pc := 97) (v := iv 0) dX6_canNumber_97 (by decide) ?_
              refine r_istore (pc := 98) (lv' := [(12, .int (iv 0)), (11, .int (iv y1)), (0, .ref s), (1, .ref ga), (2, .ref ka), (3, .int (iv x1)), (4, .int (iv x2)), (5, .int (iv (gn : Int))), (6, .int (iv (x2 * 32))), (7, .long (Co (Int.toNat ((x2 * 32) + x1)))), (9, .int (iv v43_9)), (10, .int (iv v43_10))]) dX6_canNumber_98 (by decide) rfl ?_
              refine r_iload (pc := 100) dX6_canNumber_100 rfl ?_
              refine r_iconst (pc := 102) (v := iv 1) dX6_canNumber_102 (by decide) ?_
              refine r_iload (pc := 103) dX6_canNumber_103 rfl ?_
              refine r_ishl (pc := 105) (v := iv ((2 ^ Int.toNat y1 : Nat) : Int)) dX6_canNumber_105 (shl_e (by omega)) ?_
              have mp105_26 : 1 ≤ 2 ^ Int.toNat y1 := Nat.one_le_two_pow
              have mq105_27 : 2 ^ Int.toNat y1 ≤ 2 ^ 15 := Nat.pow_le_pow_right (by omega) (by omega)
              have ms105 := Me_shl (Int.toNat y1)
              obtain ⟨z28, hz28, bz28⟩ := or_2 16 v43_9 ((2 ^ Int.toNat y1 : Nat) : Int) (by omega) (by omega) (by decide)
              refine r_ior (pc := 106) (v := iv z28) dX6_canNumber_106 hz28 ?_
              have mez28 := Me_or hz28 (by omega) (by omega) (by omega)
              have hz1 : ∀ i9, Me z28 i9 ↔ Me v43_9 i9 ∨ i9 = Int.toNat y1 := fun i9 => by rw [mez28 i9, ms105 i9]
              refine r_istore (pc := 107) (lv' := [(9, .int (iv z28)), (12, .int (iv 0)), (11, .int (iv y1)), (0, .ref s), (1, .ref ga), (2, .ref ka), (3, .int (iv x1)), (4, .int (iv x2)), (5, .int (iv (gn : Int))), (6, .int (iv (x2 * 32))), (7, .long (Co (Int.toNat ((x2 * 32) + x1)))), (10, .int (iv v43_10))]) dX6_canNumber_107 (by decide) rfl ?_
              refine r_aload_n (pc := 109) dX6_canNumber_109 (i := 0) rfl rfl ?_
              refine t_getE (pc := 110) (.ref (s + 4)) ht25 (rd_ov (by omega) (rd_ov (by omega) (rd_ov (by omega) (rd_ov (by omega) (rd_of (ov_s _ _ _)))))) fX6_21 dX6_canNumber_110 rfl ?_
              refine r_iload_n (pc := 113) dX6_canNumber_113 (i := 3) rfl rfl ?_
              refine r_iload (pc := 114) dX6_canNumber_114 rfl ?_
              refine t_iastX (pc := 116) (t0 := 0) ht25 (ov_s _ _ _) dX6_canNumber_116 rfl (by decide) (by omega) (by omega) (fun hp29 ht30 => ?_)
              rw [ov_ov] at ht30
              have hN116 : Rfx 16 0 15 (fup Nu43 (Int.toNat x1) y1) := Rfx_up (by assumption) (by omega)
              have hpl1 : ∀ i : Nat, (i : Int) < x1 → (fup Nu43 (Int.toNat x1) y1) i = Nu i := fun i9 hi9 => by
                rw [show (fup Nu43 (Int.toNat x1) y1) i9 = Nu43 i9 from if_neg (by omega)]
                exact (by assumption : ∀ i : Nat, (i : Int) < x1 → Nu43 i = Nu i) i9 hi9
              refine r_iload (pc := 117) dX6_canNumber_117 rfl ?_
              refine t_if_eq (pc := 119) (tgt := 134) dX6_canNumber_119 (by decide) (by omega) (fun c119 => ?_) (fun c119 => ?_)
              · refine r_iload (pc := 134) dX6_canNumber_134 rfl ?_
                refine r_bipush (pc := 136) (v := iv 16) dX6_canNumber_136 (by decide) ?_
                refine t_icmp_ge (pc := 138) (tgt := 173) dX6_canNumber_138 (by decide) (by omega) (by omega) (fun c138 => ?_) (fun c138 => ?_)
                · exfalso
                  omega
                · refine r_aload_n (pc := 141) dX6_canNumber_141 (i := 0) rfl rfl ?_
                  refine r_iload (pc := 142) dX6_canNumber_142 rfl ?_
                  refine r_iload_n (pc := 144) dX6_canNumber_144 (i := 3) rfl rfl ?_
                  refine r_iload (pc := 145) dX6_canNumber_145 rfl ?_
                  refine r_iload (pc := 147) dX6_canNumber_147 rfl ?_
                  have hcvL : (∀ im, (vaP (isP gm gdr F T W C F2 T2 W2 C2) (gn : Int)) im → (∀ i : Nat, (i : Int) < x1 → im i = Nu i) → cvP Co43 (Int.toNat (x2 * 32)) gn (fun i => (im i).toNat)) := fun im9 h9 g9 v9 hv9 => by
                    have h8 := hcv im9 h9 g9 v9 hv9
                    have h7 := (hrg im9 h9 v9 (by omega)).2
                    show Co43 ((Int.toNat (x2 * 32)) + v9) = Co43 ((Int.toNat (x2 * 32)) + 16 + (im9 v9).toNat)
                    rw [(by assumption : ∀ i : Nat, (i : Int) < 32 * (x2 + 1) → Co43 i = Co i) _ (by omega), (by assumption : ∀ i : Nat, (i : Int) < 32 * (x2 + 1) → Co43 i = Co i) _ (by omega)]
                    exact h8
                  obtain ⟨fs36, hfs36⟩ := t_obj ht30 (rd_ov (by omega) (rd_ov (by omega) (rd_ov (by omega) (rd_ov (by omega) (rd_of (ov_s _ _ _))))))
                  refine r_callV (pc := 149) (as := [.int (iv (gn : Int)), .int (iv x1), .int (iv y1), .int (iv x2)]) (st := []) kX6_107 rfl dX6_canNumber_149 hfs36 (c_X6_markPairx (d := d - 1) (rw9 := (Int.toNat (x2 * 32))) (x1 := x1) (x2 := y1) (x3 := x2) (by omega) (by omega) ht30 (by omega) (by omega) (by omega) (by omega) (by omega)) rfl (by omega) (Nat.le_of_ble_eq_true rfl) (Nat.zero_le _) (Nat.zero_le _) rfl (fun r31 hp32 n33 q34 => ?_)
                  obtain ⟨hnn33, Co149, Fr149, v149, ht35, hrr31, bv149, hmp1, hmp2⟩ := q34
                  subst n33 r31
                  change Rn _ _ _ 152 _ [.int (iv v149)] _ _ _ _ _
                  have hlo1 : ∀ i : Nat, (i : Int) < 32 * (x2 + 1) → Co149 i = Co i := fun i9 hi9 => (hmp1 i9 (by omega)).trans ((by assumption : ∀ i : Nat, (i : Int) < 32 * (x2 + 1) → Co43 i = Co i) i9 hi9)
                  refine t_if_eq (pc := 152) (tgt := 173) dX6_canNumber_152 (by decide) (by omega) (fun c152 => ?_) (fun c152 => ?_)
                  · have hnv1 : nvP (vaP (isP gm gdr F T W C F2 T2 W2 C2) (gn : Int)) Nu x1 z28 := nv_up (u := Int.toNat y1) (by assumption : nvP (vaP (isP gm gdr F T W C F2 T2 W2 C2) (gn : Int)) Nu x1 v43_9) hz1 (fun im9 h9 g9 e9 => by
                      have h8 := (hmp2 _ (htp im9 h9) (hcvL im9 h9 g9) (by show (im9 (Int.toNat x1)).toNat = _; rw [e9]; omega)).1
                      omega)
                    have htk1 := tk_up (by assumption : tkC gn v43_9 v43_10) (u := Int.toNat y1) (by omega) hk1 hz1
                    refine r_iinc (pc := 173) (v := iv (v43_10 + 1)) (lv' := [(10, .int (iv (v43_10 + 1))), (9, .int (iv z28)), (12, .int (iv 0)), (11, .int (iv y1)), (0, .ref s), (1, .ref ga), (2, .ref ka), (3, .int (iv x1)), (4, .int (iv x2)), (5, .int (iv (gn : Int))), (6, .int (iv (x2 * 32))), (7, .long (Co (Int.toNat ((x2 * 32) + x1))))]) dX6_canNumber_173 rfl (iv_add _ _) (by decide) rfl ?_
                    refine r_goto (pc := 176) (tgt := 43) dX6_canNumber_176 (by decide) ?_
                    refine Rn.pick (lv' := [(0, .ref s), (1, .ref ga), (2, .ref ka), (3, .int (iv x1)), (4, .int (iv x2)), (5, .int (iv (gn : Int))), (6, .int (iv (x2 * 32))), (7, .long (Co (Int.toNat ((x2 * 32) + x1)))), (9, .int (iv z28)), (10, .int (iv (v43_10 + 1)))]) [4, 5, 6, 7, 8, 9, 10, 11, 1, 0] rfl ?_
                    exact ih43 (Int.toNat (16 - (v43_10 + 1))) (by omega) Co149 Fr149 (fup Nu43 (Int.toNat x1) y1) _ ht35 z28 (v43_10 + 1) ⟨by omega, by omega, by omega, by omega, by omega, by (first | exact hlo2 | exact hlo1 | exact fun _ _ => rfl), by (first | exact hNu165 | exact hN116 | exact hNu), by (first | exact hpl2 | exact hpl1 | exact fun _ _ => rfl), by (first | exact hnv1 | exact nv_0), by (first | exact htk1 | exact tk_0)⟩ (by omega)
                  · refine r_aload_n (pc := 155) dX6_canNumber_155 (i := 0) rfl rfl ?_
                    refine r_aload_n (pc := 156) dX6_canNumber_156 (i := 1) rfl rfl ?_
                    refine r_aload_n (pc := 157) dX6_canNumber_157 (i := 2) rfl rfl ?_
                    refine r_iload_n (pc := 158) dX6_canNumber_158 (i := 3) rfl rfl ?_
                    refine r_iconst (pc := 159) (v := iv 1) dX6_canNumber_159 (by decide) ?_
                    refine r_iadd (pc := 160) (v := iv (x1 + 1)) dX6_canNumber_160 (iv_add _ _) ?_
                    refine r_iload (pc := 161) dX6_canNumber_161 rfl ?_
                    refine r_iconst (pc := 163) (v := iv 1) dX6_canNumber_163 (by decide) ?_
                    refine r_iadd (pc := 164) (v := iv (x2 + 1)) dX6_canNumber_164 (iv_add _ _) ?_
                    have hcn : (∀ im, (vaP (isP gm gdr F T W C F2 T2 W2 C2) (gn : Int)) im → (∀ i : Nat, (i : Int) < (x1 + 1) → im i = (fup Nu43 (Int.toNat x1) y1) i) → cvP Co149 (Int.toNat ((x2 + 1) * 32)) gn (fun i => (im i).toNat)) := fun im9 h9 g9 => by
                      have h8 := (pf_up (by omega) (by assumption : ∀ i : Nat, (i : Int) < x1 → Nu43 i = Nu i)).mp g9
                      have h7 := (hmp2 _ (htp im9 h9) (hcvL im9 h9 h8.1) (by show (im9 (Int.toNat x1)).toNat = _; rw [h8.2])).2
                      rw [show Int.toNat ((x2 + 1) * 32) = (Int.toNat (x2 * 32)) + 32 by omega]
                      exact h7
                    obtain ⟨fs42, hfs42⟩ := t_obj ht35 (rd_ov (by omega) (rd_ov (by omega) (rd_ov (by omega) (rd_ov (by omega) (rd_of (ov_s _ _ _))))))
                    refine r_callV (pc := 165) (as := [.ref ga, .ref ka, .int (iv (x1 + 1)), .int (iv (x2 + 1))]) (st := []) kX6_56 rfl dX6_canNumber_165 hfs42 (ih _ _ (x1 + 1) (x2 + 1) Co149 Fr149 (fup Nu43 (Int.toNat x1) y1) ht35 hN116 (by omega) (by omega) hcn) rfl (by omega) (Nat.le_of_ble_eq_true rfl) (Nat.zero_le _) (Nat.zero_le _) rfl (fun r37 hp38 n39 q40 => ?_)
                    obtain ⟨hnn39, Co165, Fr165, Nu165, v165, ht41, hrr37, bv165, hlo165, hNu165, hpf165, hca165⟩ := q40
                    subst n39 r37
                    change Rn _ _ _ 168 _ [.int (iv v165)] _ _ _ _ _
                    refine t_if_eq (pc := 168) (tgt := 173) dX6_canNumber_168 (by decide) (by omega) (fun c168 => ?_) (fun c168 => ?_)
                    · have e165 : v165 = 0 := by omega
                      rw [e165] at hca165
                      have hnx := cn_nx (by omega) (by assumption : ∀ i : Nat, (i : Int) < x1 → Nu43 i = Nu i) hca165
                      have hnv1 : nvP (vaP (isP gm gdr F T W C F2 T2 W2 C2) (gn : Int)) Nu x1 z28 := nv_up (u := Int.toNat y1) (by assumption : nvP (vaP (isP gm gdr F T W C F2 T2 W2 C2) (gn : Int)) Nu x1 v43_9) hz1 (fun im9 h9 g9 e9 => hnx im9 h9 g9 (by omega))
                      have htk1 := tk_up (by assumption : tkC gn v43_9 v43_10) (u := Int.toNat y1) (by omega) hk1 hz1
                      have hlo2 : ∀ i : Nat, (i : Int) < 32 * (x2 + 1) → Co165 i = Co i := fun i9 hi9 => (hlo165 i9 (by omega)).trans (hlo1 i9 hi9)
                      have hpl2 : ∀ i : Nat, (i : Int) < x1 → Nu165 i = Nu i := fun i9 hi9 => (hpf165 i9 (by omega)).trans (hpl1 i9 hi9)
                      refine r_iinc (pc := 173) (v := iv (v43_10 + 1)) (lv' := [(10, .int (iv (v43_10 + 1))), (9, .int (iv z28)), (12, .int (iv 0)), (11, .int (iv y1)), (0, .ref s), (1, .ref ga), (2, .ref ka), (3, .int (iv x1)), (4, .int (iv x2)), (5, .int (iv (gn : Int))), (6, .int (iv (x2 * 32))), (7, .long (Co (Int.toNat ((x2 * 32) + x1))))]) dX6_canNumber_173 rfl (iv_add _ _) (by decide) rfl ?_
                      refine r_goto (pc := 176) (tgt := 43) dX6_canNumber_176 (by decide) ?_
                      refine Rn.pick (lv' := [(0, .ref s), (1, .ref ga), (2, .ref ka), (3, .int (iv x1)), (4, .int (iv x2)), (5, .int (iv (gn : Int))), (6, .int (iv (x2 * 32))), (7, .long (Co (Int.toNat ((x2 * 32) + x1)))), (9, .int (iv z28)), (10, .int (iv (v43_10 + 1)))]) [4, 5, 6, 7, 8, 9, 10, 11, 1, 0] rfl ?_
                      exact ih43 (Int.toNat (16 - (v43_10 + 1))) (by omega) Co165 Fr165 Nu165 _ ht41 z28 (v43_10 + 1) ⟨by omega, by omega, by omega, by omega, by omega, by (first | exact hlo2 | exact hlo1 | exact fun _ _ => rfl), by (first | exact hNu165 | exact hN116 | exact hNu), by (first | exact hpl2 | exact hpl1 | exact fun _ _ => rfl), by (first | exact hnv1 | exact nv_0), by (first | exact htk1 | exact tk_0)⟩ (by omega)
                    · have e165 : v165 = 1 := by omega
                      rw [e165] at hca165
                      refine r_iconst (pc := 171) (v := iv 1) dX6_canNumber_171 (by decide) ?_
                      exact r_zret (pc := 172) dX6_canNumber_172 rfl (iv_nar (by omega)) ⟨rfl, Co165, Fr165, Nu165, _, ht41, rfl, by omega, fun i9 hi9 => (hlo165 i9 (by omega)).trans (hlo1 i9 hi9), hNu165, fun i9 hi9 => (hpf165 i9 (by omega)).trans (hpl1 i9 hi9), cn_ys (by omega) (by assumption : ∀ i : Nat, (i : Int) < x1 → Nu43 i = Nu i) hge hpf165 hca165 rfl⟩
              · exfalso
                omega
            · have hal := cn_alo (u := y1) (by omega) (by omega) hrg hcv ms84 (hfq87.1 (by omega))
              refine r_iconst (pc := 93) (v := iv 1) dX6_canNumber_93 (by decide) ?_
              refine r_goto (pc := 94) (tgt := 98) dX6_canNumber_94 (by decide) ?_
              refine r_istore (pc := 98) (lv' := [(12, .int (iv 1)), (11, .int (iv y1)), (0, .ref s), (1, .ref ga), (2, .ref ka), (3, .int (iv x1)), (4, .int (iv x2)), (5, .int (iv (gn : Int))), (6, .int (iv (x2 * 32))), (7, .long (Co (Int.toNat ((x2 * 32) + x1)))), (9, .int (iv v43_9)), (10, .int (iv v43_10))]) dX6_canNumber_98 (by decide) rfl ?_
              refine r_iload (pc := 100) dX6_canNumber_100 rfl ?_
              refine r_iconst (pc := 102) (v := iv 1) dX6_canNumber_102 (by decide) ?_
              refine r_iload (pc := 103) dX6_canNumber_103 rfl ?_
              refine r_ishl (pc := 105) (v := iv ((2 ^ Int.toNat y1 : Nat) : Int)) dX6_canNumber_105 (shl_e (by omega)) ?_
              have mp105_43 : 1 ≤ 2 ^ Int.toNat y1 := Nat.one_le_two_pow
              have mq105_44 : 2 ^ Int.toNat y1 ≤ 2 ^ 15 := Nat.pow_le_pow_right (by omega) (by omega)
              have ms105 := Me_shl (Int.toNat y1)
              obtain ⟨z45, hz45, bz45⟩ := or_2 16 v43_9 ((2 ^ Int.toNat y1 : Nat) : Int) (by omega) (by omega) (by decide)
              refine r_ior (pc := 106) (v := iv z45) dX6_canNumber_106 hz45 ?_
              have mez45 := Me_or hz45 (by omega) (by omega) (by omega)
              have hz1 : ∀ i9, Me z45 i9 ↔ Me v43_9 i9 ∨ i9 = Int.toNat y1 := fun i9 => by rw [mez45 i9, ms105 i9]
              refine r_istore (pc := 107) (lv' := [(9, .int (iv z45)), (12, .int (iv 1)), (11, .int (iv y1)), (0, .ref s), (1, .ref ga), (2, .ref ka), (3, .int (iv x1)), (4, .int (iv x2)), (5, .int (iv (gn : Int))), (6, .int (iv (x2 * 32))), (7, .long (Co (Int.toNat ((x2 * 32) + x1)))), (10, .int (iv v43_10))]) dX6_canNumber_107 (by decide) rfl ?_
              refine r_aload_n (pc := 109) dX6_canNumber_109 (i := 0) rfl rfl ?_
              refine t_getE (pc := 110) (.ref (s + 4)) ht25 (rd_ov (by omega) (rd_ov (by omega) (rd_ov (by omega) (rd_ov (by omega) (rd_of (ov_s _ _ _)))))) fX6_21 dX6_canNumber_110 rfl ?_
              refine r_iload_n (pc := 113) dX6_canNumber_113 (i := 3) rfl rfl ?_
              refine r_iload (pc := 114) dX6_canNumber_114 rfl ?_
              refine t_iastX (pc := 116) (t0 := 0) ht25 (ov_s _ _ _) dX6_canNumber_116 rfl (by decide) (by omega) (by omega) (fun hp46 ht47 => ?_)
              rw [ov_ov] at ht47
              have hN116 : Rfx 16 0 15 (fup Nu43 (Int.toNat x1) y1) := Rfx_up (by assumption) (by omega)
              have hpl1 : ∀ i : Nat, (i : Int) < x1 → (fup Nu43 (Int.toNat x1) y1) i = Nu i := fun i9 hi9 => by
                rw [show (fup Nu43 (Int.toNat x1) y1) i9 = Nu43 i9 from if_neg (by omega)]
                exact (by assumption : ∀ i : Nat, (i : Int) < x1 → Nu43 i = Nu i) i9 hi9
              refine r_iload (pc := 117) dX6_canNumber_117 rfl ?_
              refine t_if_eq (pc := 119) (tgt := 134) dX6_canNumber_119 (by decide) (by omega) (fun c119 => ?_) (fun c119 => ?_)
              · exfalso
                omega
              · refine r_aload_n (pc := 122) dX6_canNumber_122 (i := 0) rfl rfl ?_
                refine r_aload_n (pc := 123) dX6_canNumber_123 (i := 1) rfl rfl ?_
                refine r_aload_n (pc := 124) dX6_canNumber_124 (i := 2) rfl rfl ?_
                refine r_iload_n (pc := 125) dX6_canNumber_125 (i := 3) rfl rfl ?_
                refine r_iconst (pc := 126) (v := iv 1) dX6_canNumber_126 (by decide) ?_
                refine r_iadd (pc := 127) (v := iv (x1 + 1)) dX6_canNumber_127 (iv_add _ _) ?_
                refine r_iload (pc := 128) dX6_canNumber_128 rfl ?_
                have hcn : (∀ im, (vaP (isP gm gdr F T W C F2 T2 W2 C2) (gn : Int)) im → (∀ i : Nat, (i : Int) < (x1 + 1) → im i = (fup Nu43 (Int.toNat x1) y1) i) → cvP Co43 (Int.toNat (x2 * 32)) gn (fun i => (im i).toNat)) := fun im9 h9 g9 v9 hv9 => by
                  have h8 := hcv im9 h9 ((pf_up (by omega) (by assumption : ∀ i : Nat, (i : Int) < x1 → Nu43 i = Nu i)).mp g9).1 v9 hv9
                  have h7 := (hrg im9 h9 v9 (by omega)).2
                  show Co43 ((Int.toNat (x2 * 32)) + v9) = Co43 ((Int.toNat (x2 * 32)) + 16 + (im9 v9).toNat)
                  rw [(by assumption : ∀ i : Nat, (i : Int) < 32 * (x2 + 1) → Co43 i = Co i) _ (by omega), (by assumption : ∀ i : Nat, (i : Int) < 32 * (x2 + 1) → Co43 i = Co i) _ (by omega)]
                  exact h8
                obtain ⟨fs53, hfs53⟩ := t_obj ht47 (rd_ov (by omega) (rd_ov (by omega) (rd_ov (by omega) (rd_ov (by omega) (rd_of (ov_s _ _ _))))))
                refine r_callV (pc := 130) (as := [.ref ga, .ref ka, .int (iv (x1 + 1)), .int (iv x2)]) (st := []) kX6_56 rfl dX6_canNumber_130 hfs53 (ih _ _ (x1 + 1) x2 Co43 Fr43 (fup Nu43 (Int.toNat x1) y1) ht47 hN116 (by omega) (by omega) hcn) rfl (by omega) (Nat.le_of_ble_eq_true rfl) (Nat.zero_le _) (Nat.zero_le _) rfl (fun r48 hp49 n50 q51 => ?_)
                obtain ⟨hnn50, Co130, Fr130, Nu130, v130, ht52, hrr48, bv130, hlo130, hNu130, hpf130, hca130⟩ := q51
                subst n50 r48
                change Rn _ _ _ 133 _ [.int (iv v130)] _ _ _ _ _
                exact r_zret (pc := 133) dX6_canNumber_133 rfl (iv_nar (by omega)) ⟨rfl, Co130, Fr130, Nu130, _, ht52, rfl, bv130, fun i9 hi9 => (hlo130 i9 hi9).trans ((by assumption : ∀ i : Nat, (i : Int) < 32 * (x2 + 1) → Co43 i = Co i) i9 hi9), hNu130, fun i9 hi9 => (hpf130 i9 (by omega)).trans (hpl1 i9 hi9), cn_al (by omega) (by assumption : ∀ i : Nat, (i : Int) < x1 → Nu43 i = Nu i) hal hca130⟩
        · refine r_iconst (pc := 69) (v := iv 0) dX6_canNumber_69 (by decide) ?_
          exact r_zret (pc := 70) dX6_canNumber_70 rfl (iv_nar (by omega)) ⟨rfl, Co43, Fr43, Nu43, _, ht3, rfl, by omega, (by assumption : ∀ i : Nat, (i : Int) < 32 * (x2 + 1) → Co43 i = Co i), by assumption, (by assumption : ∀ i : Nat, (i : Int) < x1 → Nu43 i = Nu i), cn_non (by omega) hrg hcv (by assumption : nvP (vaP (isP gm gdr F T W C F2 T2 W2 C2) (gn : Int)) Nu x1 v43_9) (hfq59.1 (by omega)) rfl⟩
    refine Rn.pick (lv' := [(0, .ref s), (1, .ref ga), (2, .ref ka), (3, .int (iv x1)), (4, .int (iv x2)), (5, .int (iv (gn : Int))), (6, .int (iv (x2 * 32))), (7, .long (Co (Int.toNat ((x2 * 32) + x1)))), (9, .int (iv 0)), (10, .int (iv 0))]) [5, 6, 7, 8, 9, 4, 3, 2, 1, 0] rfl ?_
    exact B43 (Int.toNat (16 - 0)) Co Fr Nu _ t0 0 0 ⟨by omega, by omega, by omega, by omega, by omega, by (first | exact hlo2 | exact hlo1 | exact fun _ _ => rfl), by (first | exact hNu165 | exact hN116 | exact hNu), by (first | exact hpl2 | exact hpl1 | exact fun _ _ => rfl), by (first | exact hnv1 | exact nv_0), by (first | exact htk1 | exact tk_0)⟩ (by omega)
  · refine r_aload_n (pc := 12) dX6_canNumber_12 (i := 0) rfl rfl ?_
    refine r_aload_n (pc := 13) dX6_canNumber_13 (i := 1) rfl rfl ?_
    refine r_aload_n (pc := 14) dX6_canNumber_14 (i := 2) rfl rfl ?_
    refine t_callVI (pc := 15) (as := [.ref ga, .ref ka]) (st := []) t0 (rd_ov (by omega) (rd_ov (by omega) (rd_ov (by omega) (rd_ov (by omega) (rd_of (ov_s _ _ _)))))) kX6_103 rfl dX6_canNumber_15 (c_X6_haveSameArcsx (d := d - 1) (by omega) hg hxg hk hxk hsp hspk hkm hkd hNu t0) rfl (by omega) (Nat.le_of_ble_eq_true rfl) rfl (fun hp55 y54 ht56 by54 => ?_)
    obtain ⟨by541, hha⟩ := by54
    exact r_zret (pc := 18) dX6_canNumber_18 rfl (iv_nar (by omega)) ⟨rfl, Co, Fr, Nu, _, ht56, rfl, by omega, fun _ _ => rfl, hNu, fun _ _ => rfl, cn_fin (va_cg is_cg) (by omega) hha⟩
theorem c_X6_canNumberx {D : va_G} {cI cJ cZ cT : ClassId} {lo b L : Nat} {xs : Nat → Int32} {Γ : TG} {ga : Nat} {gF : Nat} {gT : Nat} {gW : Nat} {gC : Nat} {gTl : Nat} {gHd : Nat} {gBy : Nat} {gOu : Nat} {gIn : Nat} {gJo : Nat} {gn : Nat} {gm : Nat} {gq : Nat} {gdr : Int} {F T W C Tl Hd By Ou In Jo : Nat → Int} {ka : Nat} {kF : Nat} {kT : Nat} {kW : Nat} {kC : Nat} {kTl : Nat} {kHd : Nat} {kBy : Nat} {kOu : Nat} {kIn : Nat} {kJo : Nat} {kn : Nat} {km : Nat} {kq : Nat} {kdr : Int} {F2 T2 W2 C2 Tl2 Hd2 By2 Ou2 In2 Jo2 : Nat → Int} {s : Nat} {Ti : Nat → Int64} (hg : TyG Γ cI cJ cZ ga gF gT gW gC gTl gHd gBy gOu gIn gJo gn gm gq gdr) (hxg : XG Γ cI gF gT gW gC gTl gHd gBy gOu gIn gJo gn gm gq F T W C Tl Hd By Ou In Jo) (hk : TyG Γ cI cJ cZ ka kF kT kW kC kTl kHd kBy kOu kIn kJo kn km kq kdr) (hxk : XG Γ cI kF kT kW kC kTl kHd kBy kOu kIn kJo kn km kq F2 T2 W2 C2 Tl2 Hd2 By2 Ou2 In2 Jo2) (hsp : s + 5 ≤ ga ∧ s + 5 ≤ gF ∧ s + 5 ≤ gT ∧ s + 5 ≤ gW ∧ s + 5 ≤ gC ∧ s + 5 ≤ gTl ∧ s + 5 ≤ gHd ∧ s + 5 ≤ gBy ∧ s + 5 ≤ gOu ∧ s + 5 ≤ gIn ∧ s + 5 ≤ gJo) (hspk : s + 5 ≤ ka ∧ s + 5 ≤ kF ∧ s + 5 ≤ kT ∧ s + 5 ≤ kW ∧ s + 5 ≤ kC ∧ s + 5 ≤ kTl ∧ s + 5 ≤ kHd ∧ s + 5 ≤ kBy ∧ s + 5 ≤ kOu ∧ s + 5 ≤ kIn ∧ s + 5 ≤ kJo) (hkm : km = gm) (hkd : kdr = gdr) (htp : ∀ im, (vaP (isP gm gdr F T W C F2 T2 W2 C2) (gn : Int)) im → tpP Ti gn (fun i => (im i).toNat)) (k : Nat) : ∀ (hp : MH) (n d : Nat) (x1 x2 : Int) (Co Fr : Nat → Int64) (Nu : Nat → Int), (gn : Int) - x1 ≤ (k : Int) → k + 4 ≤ d → (0 ≤ x1 ∧ x1 ≤ (gn : Int)) → (0 ≤ x2 ∧ x2 ≤ x1) → Rfx 16 0 15 Nu → (∀ im, (vaP (isP gm gdr F T W C F2 T2 W2 C2) (gn : Int)) im → (∀ i : Nat, (i : Int) < x1 → im i = Nu i) → cvP Co (Int.toNat (x2 * 32)) gn (fun i => (im i).toNat)) → Tw (SmS Γ cI cJ s Ti Co Fr Nu) hp → Mt (gG D cI cJ cZ cT lo b L xs) mX6_canNumber d 0 0 [.ref s, .ref ga, .ref ka, .int (iv x1), .int (iv x2)] hp n (fun r9 hp1 n1 => n1 = n ∧ ∃ (Co1 Fr1 : Nat → Int64) (Nu1 : Nat → Int) (q : Int), Tw (SmS Γ cI cJ s Ti Co1 Fr1 Nu1) hp1 ∧ r9 = some (.int (iv q)) ∧ (0 ≤ q ∧ q ≤ 1) ∧ (∀ i : Nat, (i : Int) < 32 * (x2 + 1) → Co1 i = Co i) ∧ Rfx 16 0 15 Nu1 ∧ (∀ i : Nat, (i : Int) < x1 → Nu1 i = Nu i) ∧ cnA (vaP (isP gm gdr F T W C F2 T2 W2 C2) (gn : Int)) gn Nu Nu1 x1 q) := by
  induction k with
  | zero =>
    intro hp n d x1 x2 Co Fr Nu h1 h2 h3 h4 h5 h6 ht
    exact c_X6_canNumber_st (by omega) hg hxg hk hxk hsp hspk hkm hkd h5 ht h3 h4 htp h6 (fun hp n z1 z2 Co Fr Nu g1 g2 g3 g4 g5 => absurd g3 (by omega))
  | succ k ih =>
    intro hp n d x1 x2 Co Fr Nu h1 h2 h3 h4 h5 h6 ht
    exact c_X6_canNumber_st (by omega) hg hxg hk hxk hsp hspk hkm hkd h5 ht h3 h4 htp h6 (fun hp n z1 z2 Co Fr Nu g1 g2 g3 g4 g5 => ih hp n (d - 1) z1 z2 Co Fr Nu (by omega) (by omega) (by omega) g4 g2 g5 g1)
