set_option maxHeartbeats 4000000 in
set_option maxRecDepth 100000 in
theorem c_X6_canNumber_st {D : va_G} {cI cJ cZ cT : ClassId} {lo b L : Nat} {xs : Nat → Int32} {hp : MH} {n d : Nat} {Γ : TG} {ga : Nat} {gF : Nat} {gT : Nat} {gW : Nat} {gC : Nat} {gTl : Nat} {gHd : Nat} {gBy : Nat} {gOu : Nat} {gIn : Nat} {gJo : Nat} {gn : Nat} {gm : Nat} {gq : Nat} {gdr : Int} {F T W C Tl Hd By Ou In Jo : Nat → Int} {ka : Nat} {kF : Nat} {kT : Nat} {kW : Nat} {kC : Nat} {kTl : Nat} {kHd : Nat} {kBy : Nat} {kOu : Nat} {kIn : Nat} {kJo : Nat} {kn : Nat} {km : Nat} {kq : Nat} {kdr : Int} {F2 T2 W2 C2 Tl2 Hd2 By2 Ou2 In2 Jo2 : Nat → Int} {s : Nat} {Ti Co Fr : Nat → Int64} {Nu : Nat → Int} {x1 x2 : Int} (hd0 : 4 ≤ d) (hg : TyG Γ cI cJ cZ ga gF gT gW gC gTl gHd gBy gOu gIn gJo gn gm gq gdr) (hxg : XG Γ cI gF gT gW gC gTl gHd gBy gOu gIn gJo gn gm gq F T W C Tl Hd By Ou In Jo) (hk : TyG Γ cI cJ cZ ka kF kT kW kC kTl kHd kBy kOu kIn kJo kn km kq kdr) (hxk : XG Γ cI kF kT kW kC kTl kHd kBy kOu kIn kJo kn km kq F2 T2 W2 C2 Tl2 Hd2 By2 Ou2 In2 Jo2) (hsp : s + 5 ≤ ga ∧ s + 5 ≤ gF ∧ s + 5 ≤ gT ∧ s + 5 ≤ gW ∧ s + 5 ≤ gC ∧ s + 5 ≤ gTl ∧ s + 5 ≤ gHd ∧ s + 5 ≤ gBy ∧ s + 5 ≤ gOu ∧ s + 5 ≤ gIn ∧ s + 5 ≤ gJo) (hspk : s + 5 ≤ ka ∧ s + 5 ≤ kF ∧ s + 5 ≤ kT ∧ s + 5 ≤ kW ∧ s + 5 ≤ kC ∧ s + 5 ≤ kTl ∧ s + 5 ≤ kHd ∧ s + 5 ≤ kBy ∧ s + 5 ≤ kOu ∧ s + 5 ≤ kIn ∧ s + 5 ≤ kJo) (hkm : km = gm) (hkd : kdr = gdr) (hNu : Rfx 16 0 15 Nu) (ht : Tw (SmS Γ cI cJ s ga ka Ti Co Fr Nu) hp) (hx1 : 0 ≤ x1 ∧ x1 ≤ (gn : Int)) (hx2 : 0 ≤ x2 ∧ x2 ≤ x1) (htp : ∀ im, (vaP (isP gm gdr F T W C F2 T2 W2 C2) (gn : Int)) im → tpP Ti gn (fun i => (im i).toNat)) (hcv : (∀ im, (vaP (isP gm gdr F T W C F2 T2 W2 C2) (gn : Int)) im → (∀ i : Nat, (i : Int) < x1 → im i = Nu i) → cvP Co (Int.toNat (x2 * 32)) gn (fun i => (im i).toNat))) (ih : ∀ (hp : MH) (n : Nat) (z1 z2 : Int) (Co Fr : Nat → Int64) (Nu : Nat → Int), Tw (SmS Γ cI cJ s ga ka Ti Co Fr Nu) hp → Rfx 16 0 15 Nu → (x1 < z1 ∧ z1 ≤ (gn : Int)) → (0 ≤ z2 ∧ z2 ≤ z1) → (∀ im, (vaP (isP gm gdr F T W C F2 T2 W2 C2) (gn : Int)) im → (∀ i : Nat, (i : Int) < z1 → im i = Nu i) → cvP Co (Int.toNat (z2 * 32)) gn (fun i => (im i).toNat)) → Mt (gG D cI cJ cZ cT lo b L xs) mX6_canNumber (d - 1) 0 0 [.ref s, .int (iv z1), .int (iv z2)] hp n (fun r9 hp1 n1 => n1 = n ∧ ∃ (Co1 Fr1 : Nat → Int64) (Nu1 : Nat → Int) (q : Int), Tw (SmS Γ cI cJ s ga ka Ti Co1 Fr1 Nu1) hp1 ∧ r9 = some (.int (iv q)) ∧ (0 ≤ q ∧ q ≤ 1) ∧ (∀ i : Nat, (i : Int) < 32 * (z2 + 1) → Co1 i = Co i) ∧ Rfx 16 0 15 Nu1 ∧ (∀ i : Nat, (i : Int) < z1 → Nu1 i = Nu i) ∧ cnA (vaP (isP gm gdr F T W C F2 T2 W2 C2) (gn : Int)) gn Nu Nu1 z1 q)) : Mt (gG D cI cJ cZ cT lo b L xs) mX6_canNumber d 0 0 [.ref s, .int (iv x1), .int (iv x2)] hp n (fun r9 hp1 n1 => n1 = n ∧ ∃ (Co1 Fr1 : Nat → Int64) (Nu1 : Nat → Int) (q : Int), Tw (SmS Γ cI cJ s ga ka Ti Co1 Fr1 Nu1) hp1 ∧ r9 = some (.int (iv q)) ∧ (0 ≤ q ∧ q ≤ 1) ∧ (∀ i : Nat, (i : Int) < 32 * (x2 + 1) → Co1 i = Co i) ∧ Rfx 16 0 15 Nu1 ∧ (∀ i : Nat, (i : Int) < x1 → Nu1 i = Nu i) ∧ cnA (vaP (isP gm gdr F T W C F2 T2 W2 C2) (gn : Int)) gn Nu Nu1 x1 q) := by
  refine Mt.of rfl (Nat.le_of_ble_eq_true rfl) ?_
  refine Rn.pick (lv' := [(0, .ref s), (1, .int (iv x1)), (2, .int (iv x2))]) [0, 1, 2] rfl ?_
  have t0 : Tw (ov (ov (ov (ov (ov Γ s (tO 6 (smnF s ga ka))) (s + 1) (xJ cJ 512 Ti)) (s + 2) (xJ cJ 544 Co)) (s + 3) (xJ cJ 32 Fr)) (s + 4) (xI cI 16 Nu)) hp := ht
  obtain ⟨hg_O, hg_from, hg_to, hg_weight, hg_cost, hg_tail, hg_head, hg_by, hg_out, hg_in, hg_joined, hg_b⟩ := id hg
  obtain ⟨⟨hxg_F, hxg_T, hxg_W, hxg_C, hxg_Tl, hxg_Hd, hxg_By, hxg_Ou, hxg_In, hxg_Jo⟩, ⟨hrg_F, hrg_T, hrg_W, hrg_C, hrg_Tl, hrg_Hd, hrg_By, hrg_Ou, hrg_In, hrg_Jo⟩, houg⟩ := id hxg
  obtain ⟨hk_O, hk_from, hk_to, hk_weight, hk_cost, hk_tail, hk_head, hk_by, hk_out, hk_in, hk_joined, hk_b⟩ := id hk
  obtain ⟨⟨hxk_F, hxk_T, hxk_W, hxk_C, hxk_Tl, hxk_Hd, hxk_By, hxk_Ou, hxk_In, hxk_Jo⟩, ⟨hrk_F, hrk_T, hrk_W, hrk_C, hrk_Tl, hrk_Hd, hrk_By, hrk_Ou, hrk_In, hrk_Jo⟩, houk⟩ := id hxk
  have hgb := hg_b
  have hkb := hk_b
  have hrg : ∀ im, (vaP (isP gm gdr F T W C F2 T2 W2 C2) (gn : Int)) im → ∀ i : Nat, (i : Int) < (gn : Int) → 0 ≤ im i ∧ im i < (gn : Int) := fun im h9 i hi => (h9.1 i hi).1
  refine r_aload_n (pc := 0) dX6_canNumber_0 (i := 0) rfl rfl ?_
  refine t_getE (pc := 1) (.ref ga) t0 (rd_ov (by omega) (rd_ov (by omega) (rd_ov (by omega) (rd_ov (by omega) (rd_of (ov_s _ _ _)))))) fX6_38 dX6_canNumber_1 rfl ?_
  refine t_getE (pc := 4) (.int (iv (gn : Int))) t0 (rd_ov (by omega) (rd_ov (by omega) (rd_ov (by omega) (rd_ov (by omega) (rd_ov (by omega) hg_O))))) fX6_25 dX6_canNumber_4 rfl ?_
  refine r_istore_n (pc := 7) (lv' := [(3, .int (iv (gn : Int))), (0, .ref s), (1, .int (iv x1)), (2, .int (iv x2))]) dX6_canNumber_7 (i := 3) rfl (by decide) rfl ?_
  refine r_iload_n (pc := 8) dX6_canNumber_8 (i := 1) rfl rfl ?_
  refine r_iload_n (pc := 9) dX6_canNumber_9 (i := 3) rfl rfl ?_
  refine t_icmp_lt (pc := 10) (tgt := 18) dX6_canNumber_10 (by decide) (by omega) (by omega) (fun c10 => ?_) (fun c10 => ?_)
  · refine r_iload_n (pc := 18) dX6_canNumber_18 (i := 2) rfl rfl ?_
    refine r_bipush (pc := 19) (v := iv 32) dX6_canNumber_19 (by decide) ?_
    refine r_imul (pc := 21) (v := iv (x2 * 32)) dX6_canNumber_21 (iv_mul _ _) ?_
    refine r_istore (pc := 22) (lv' := [(4, .int (iv (x2 * 32))), (3, .int (iv (gn : Int))), (0, .ref s), (1, .int (iv x1)), (2, .int (iv x2))]) dX6_canNumber_22 (by decide) rfl ?_
    refine r_aload_n (pc := 24) dX6_canNumber_24 (i := 0) rfl rfl ?_
    refine t_getE (pc := 25) (.ref (s + 2)) t0 (rd_ov (by omega) (rd_ov (by omega) (rd_ov (by omega) (rd_ov (by omega) (rd_of (ov_s _ _ _)))))) fX6_15 dX6_canNumber_25 rfl ?_
    refine r_iload (pc := 28) dX6_canNumber_28 rfl ?_
    refine r_iload_n (pc := 30) dX6_canNumber_30 (i := 1) rfl rfl ?_
    refine r_iadd (pc := 31) (v := iv ((x2 * 32) + x1)) dX6_canNumber_31 (iv_add _ _) ?_
    refine t_laldX (pc := 32) (t0 := 1) t0 (rd_ov (by omega) (rd_ov (by omega) (rd_of (ov_s _ _ _)))) dX6_canNumber_32 rfl (by decide) (by omega) ?_
    have e32 : Co (Int.toNat ((x2 * 32) + x1)) = Co ((Int.toNat (x2 * 32)) + Int.toNat x1) := congrArg Co (by omega)
    refine r_lstore (pc := 33) (lv' := [(5, .long (Co (Int.toNat ((x2 * 32) + x1)))), (4, .int (iv (x2 * 32))), (3, .int (iv (gn : Int))), (0, .ref s), (1, .int (iv x1)), (2, .int (iv x2))]) dX6_canNumber_33 (by decide) rfl ?_
    refine r_iconst (pc := 35) (v := iv 0) dX6_canNumber_35 (by decide) ?_
    refine r_istore (pc := 36) (lv' := [(7, .int (iv 0)), (5, .long (Co (Int.toNat ((x2 * 32) + x1)))), (4, .int (iv (x2 * 32))), (3, .int (iv (gn : Int))), (0, .ref s), (1, .int (iv x1)), (2, .int (iv x2))]) dX6_canNumber_36 (by decide) rfl ?_
    refine r_iconst (pc := 38) (v := iv 0) dX6_canNumber_38 (by decide) ?_
    refine r_istore (pc := 39) (lv' := [(8, .int (iv 0)), (7, .int (iv 0)), (5, .long (Co (Int.toNat ((x2 * 32) + x1)))), (4, .int (iv (x2 * 32))), (3, .int (iv (gn : Int))), (0, .ref s), (1, .int (iv x1)), (2, .int (iv x2))]) dX6_canNumber_39 (by decide) rfl ?_
    have B41 : ∀ k : Nat, ∀ Co41 : Nat → Int64, ∀ Fr41 : Nat → Int64, ∀ Nu41 : Nat → Int, ∀ hp41 : MH, Tw (ov (ov (ov (ov (ov Γ s (tO 6 (smnF s ga ka))) (s + 1) (xJ cJ 512 Ti)) (s + 2) (xJ cJ 544 Co41)) (s + 3) (xJ cJ 32 Fr41)) (s + 4) (xI cI 16 Nu41)) hp41 → ∀  (v41_7 : Int) (v41_8 : Int), 0 ≤ v41_7 ∧ v41_7 ≤ 65535 ∧ 0 ≤ v41_8 ∧ v41_8 ≤ 16 ∧ (v41_8 ≤ (gn : Int)) ∧ (∀ i : Nat, (i : Int) < 32 * (x2 + 1) → Co41 i = Co i) ∧ (Rfx 16 0 15 Nu41) ∧ (∀ i : Nat, (i : Int) < x1 → Nu41 i = Nu i) ∧ (nvP (vaP (isP gm gdr F T W C F2 T2 W2 C2) (gn : Int)) Nu x1 v41_7) ∧ (tkC gn v41_7 v41_8) → 16 - v41_8 ≤ (k : Int) → Rn (gG D cI cJ cZ cT lo b L xs) mX6_canNumber d 41 [(0, .ref s), (1, .int (iv x1)), (2, .int (iv x2)), (3, .int (iv (gn : Int))), (4, .int (iv (x2 * 32))), (5, .long (Co (Int.toNat ((x2 * 32) + x1)))), (7, .int (iv v41_7)), (8, .int (iv v41_8))] [] hp41 n 0 0 (fun r9 hp1 n1 => n1 = n ∧ ∃ (Co1 Fr1 : Nat → Int64) (Nu1 : Nat → Int) (q : Int), Tw (SmS Γ cI cJ s ga ka Ti Co1 Fr1 Nu1) hp1 ∧ r9 = some (.int (iv q)) ∧ (0 ≤ q ∧ q ≤ 1) ∧ (∀ i : Nat, (i : Int) < 32 * (x2 + 1) → Co1 i = Co i) ∧ Rfx 16 0 15 Nu1 ∧ (∀ i : Nat, (i : Int) < x1 → Nu1 i = Nu i) ∧ cnA (vaP (isP gm gdr F T W C F2 T2 W2 C2) (gn : Int)) gn Nu Nu1 x1 q) := by
      refine lpS _ ?_
      intro k41 ih41 Co41 Fr41 Nu41 hp41 ht41 v41_7 v41_8 hf41 hm41
      obtain ⟨hf41_0, hf41_1, hf41_2, hf41_3, hf41_4, ha41_5, ha41_6, ha41_7, ha41_8, ha41_9⟩ := hf41
      refine r_iload (pc := 41) dX6_canNumber_41 rfl ?_
      refine r_iload_n (pc := 43) dX6_canNumber_43 (i := 3) rfl rfl ?_
      refine t_icmp_ge (pc := 44) (tgt := 164) dX6_canNumber_44 (by decide) (by omega) (by omega) (fun c44 => ?_) (fun c44 => ?_)
      · refine r_iconst (pc := 164) (v := iv 0) dX6_canNumber_164 (by decide) ?_
        exact r_zret (pc := 165) dX6_canNumber_165 rfl (iv_nar (by omega)) ⟨rfl, Co41, Fr41, Nu41, _, ht41, rfl, by omega, (by assumption : ∀ i : Nat, (i : Int) < 32 * (x2 + 1) → Co41 i = Co i), by assumption, (by assumption : ∀ i : Nat, (i : Int) < x1 → Nu41 i = Nu i), cn_out (by omega) hrg (by assumption : nvP (vaP (isP gm gdr F T W C F2 T2 W2 C2) (gn : Int)) Nu x1 v41_7) (by assumption : tkC gn v41_7 v41_8) (by omega) rfl⟩
      · refine r_aload_n (pc := 47) dX6_canNumber_47 (i := 0) rfl rfl ?_
        refine r_iload (pc := 48) dX6_canNumber_48 rfl ?_
        refine r_lload (pc := 50) dX6_canNumber_50 rfl ?_
        refine r_iload (pc := 52) dX6_canNumber_52 rfl ?_
        refine r_iload_n (pc := 54) dX6_canNumber_54 (i := 3) rfl rfl ?_
        refine t_callVI (pc := 55) (as := [.int (iv (x2 * 32)), .long (Co (Int.toNat ((x2 * 32) + x1))), .int (iv v41_7), .int (iv (gn : Int))]) (st := []) ht41 (rd_ov (by omega) (rd_ov (by omega) (rd_ov (by omega) (rd_ov (by omega) (rd_of (ov_s _ _ _)))))) kX6_106 rfl dX6_canNumber_55 (c_X6_firstLikex (d := d - 1) (Co := Co41) (x1 := x2 * 32) (j2 := Co (Int.toNat ((x2 * 32) + x1))) (x4 := v41_7) (x5 := (gn : Int)) (by omega) (rd_ov (by omega) (rd_ov (by omega) (rd_ov (by omega) (rd_ov (by omega) (rd_of (ov_s _ _ _)))))) (rd_ov (by omega) (rd_ov (by omega) (rd_of (ov_s _ _ _)))) ht41 (by omega) (by omega) (by omega)) rfl (by omega) (Nat.le_of_ble_eq_true rfl) rfl (fun hp2 y1 ht3 by1 => ?_)
        obtain ⟨by11, hfk55⟩ := by1
        rw [Int.toNat_natCast, e32] at hfk55
        have hfq55 := flq_cg (Co := Co) hfk55 (by omega) (by omega) (fun u9 hu9 => (by assumption : ∀ i : Nat, (i : Int) < 32 * (x2 + 1) → Co41 i = Co i) _ (by omega))
        refine r_istore (pc := 58) (lv' := [(9, .int (iv y1)), (0, .ref s), (1, .int (iv x1)), (2, .int (iv x2)), (3, .int (iv (gn : Int))), (4, .int (iv (x2 * 32))), (5, .long (Co (Int.toNat ((x2 * 32) + x1)))), (7, .int (iv v41_7)), (8, .int (iv v41_8))]) dX6_canNumber_58 (by decide) rfl ?_
        refine r_iload (pc := 60) dX6_canNumber_60 rfl ?_
        refine t_if_ge (pc := 62) (tgt := 67) dX6_canNumber_62 (by decide) (by omega) (fun c62 => ?_) (fun c62 => ?_)
        · obtain ⟨hk1, hk2, hk3⟩ := hfq55.2 (by omega)
          have hge := cn_ge (u := y1) (by omega) hrg hcv (by assumption : nvP (vaP (isP gm gdr F T W C F2 T2 W2 C2) (gn : Int)) Nu x1 v41_7) hk3
          refine r_iload (pc := 67) dX6_canNumber_67 rfl ?_
          refine t_if_ne (pc := 69) (tgt := 92) dX6_canNumber_69 (by decide) (by omega) (fun c69 => ?_) (fun c69 => ?_)
          · refine r_iconst (pc := 92) (v := iv 0) dX6_canNumber_92 (by decide) ?_
            refine r_istore (pc := 93) (lv' := [(10, .int (iv 0)), (9, .int (iv y1)), (0, .ref s), (1, .int (iv x1)), (2, .int (iv x2)), (3, .int (iv (gn : Int))), (4, .int (iv (x2 * 32))), (5, .long (Co (Int.toNat ((x2 * 32) + x1)))), (7, .int (iv v41_7)), (8, .int (iv v41_8))]) dX6_canNumber_93 (by decide) rfl ?_
            refine r_iload (pc := 95) dX6_canNumber_95 rfl ?_
            refine r_iconst (pc := 97) (v := iv 1) dX6_canNumber_97 (by decide) ?_
            refine r_iload (pc := 98) dX6_canNumber_98 rfl ?_
            refine r_ishl (pc := 100) (v := iv ((2 ^ Int.toNat y1 : Nat) : Int)) dX6_canNumber_100 (shl_e (by omega)) ?_
            have mp100_4 : 1 ≤ 2 ^ Int.toNat y1 := Nat.one_le_two_pow
            have mq100_5 : 2 ^ Int.toNat y1 ≤ 2 ^ 15 := Nat.pow_le_pow_right (by omega) (by omega)
            have ms100 := Me_shl (Int.toNat y1)
            obtain ⟨z6, hz6, bz6⟩ := or_2 16 v41_7 ((2 ^ Int.toNat y1 : Nat) : Int) (by omega) (by omega) (by decide)
            refine r_ior (pc := 101) (v := iv z6) dX6_canNumber_101 hz6 ?_
            have mez6 := Me_or hz6 (by omega) (by omega) (by omega)
            have hz1 : ∀ i9, Me z6 i9 ↔ Me v41_7 i9 ∨ i9 = Int.toNat y1 := fun i9 => by rw [mez6 i9, ms100 i9]
            refine r_istore (pc := 102) (lv' := [(7, .int (iv z6)), (10, .int (iv 0)), (9, .int (iv y1)), (0, .ref s), (1, .int (iv x1)), (2, .int (iv x2)), (3, .int (iv (gn : Int))), (4, .int (iv (x2 * 32))), (5, .long (Co (Int.toNat ((x2 * 32) + x1)))), (8, .int (iv v41_8))]) dX6_canNumber_102 (by decide) rfl ?_
            refine r_aload_n (pc := 104) dX6_canNumber_104 (i := 0) rfl rfl ?_
            refine t_getE (pc := 105) (.ref (s + 4)) ht3 (rd_ov (by omega) (rd_ov (by omega) (rd_ov (by omega) (rd_ov (by omega) (rd_of (ov_s _ _ _)))))) fX6_21 dX6_canNumber_105 rfl ?_
            refine r_iload_n (pc := 108) dX6_canNumber_108 (i := 1) rfl rfl ?_
            refine r_iload (pc := 109) dX6_canNumber_109 rfl ?_
            refine t_iastX (pc := 111) (t0 := 0) ht3 (ov_s _ _ _) dX6_canNumber_111 rfl (by decide) (by omega) (by omega) (fun hp7 ht8 => ?_)
            rw [ov_ov] at ht8
            have hN111 : Rfx 16 0 15 (fup Nu41 (Int.toNat x1) y1) := Rfx_up (by assumption) (by omega)
            have hpl1 : ∀ i : Nat, (i : Int) < x1 → (fup Nu41 (Int.toNat x1) y1) i = Nu i := fun i9 hi9 => by
              rw [show (fup Nu41 (Int.toNat x1) y1) i9 = Nu41 i9 from if_neg (by omega)]
              exact (by assumption : ∀ i : Nat, (i : Int) < x1 → Nu41 i = Nu i) i9 hi9
            refine r_iload (pc := 112) dX6_canNumber_112 rfl ?_
            refine t_if_eq (pc := 114) (tgt := 126) dX6_canNumber_114 (by decide) (by omega) (fun c114 => ?_) (fun c114 => ?_)
            · refine r_iload_n (pc := 126) dX6_canNumber_126 (i := 2) rfl rfl ?_
              refine r_bipush (pc := 127) (v := iv 16) dX6_canNumber_127 (by decide) ?_
              refine t_icmp_ge (pc := 129) (tgt := 158) dX6_canNumber_129 (by decide) (by omega) (by omega) (fun c129 => ?_) (fun c129 => ?_)
              · exfalso
                omega
              · refine r_aload_n (pc := 132) dX6_canNumber_132 (i := 0) rfl rfl ?_
                refine r_iload_n (pc := 133) dX6_canNumber_133 (i := 1) rfl rfl ?_
                refine r_iload (pc := 134) dX6_canNumber_134 rfl ?_
                refine r_iload_n (pc := 136) dX6_canNumber_136 (i := 2) rfl rfl ?_
                have hcvL : (∀ im, (vaP (isP gm gdr F T W C F2 T2 W2 C2) (gn : Int)) im → (∀ i : Nat, (i : Int) < x1 → im i = Nu i) → cvP Co41 (Int.toNat (x2 * 32)) gn (fun i => (im i).toNat)) := fun im9 h9 g9 v9 hv9 => by
                  have h8 := hcv im9 h9 g9 v9 hv9
                  have h7 := (hrg im9 h9 v9 (by omega)).2
                  show Co41 ((Int.toNat (x2 * 32)) + v9) = Co41 ((Int.toNat (x2 * 32)) + 16 + (im9 v9).toNat)
                  rw [(by assumption : ∀ i : Nat, (i : Int) < 32 * (x2 + 1) → Co41 i = Co i) _ (by omega), (by assumption : ∀ i : Nat, (i : Int) < 32 * (x2 + 1) → Co41 i = Co i) _ (by omega)]
                  exact h8
                obtain ⟨fs14, hfs14⟩ := t_obj ht8 (rd_ov (by omega) (rd_ov (by omega) (rd_ov (by omega) (rd_ov (by omega) (rd_of (ov_s _ _ _))))))
                refine r_callV (pc := 137) (as := [.int (iv x1), .int (iv y1), .int (iv x2)]) (st := []) kX6_114 rfl dX6_canNumber_137 hfs14 (c_X6_markPairx (d := d - 1) (rw9 := (Int.toNat (x2 * 32))) (x1 := x1) (x2 := y1) (x3 := x2) (by omega) hg hsp ht8 (by omega) (by omega) (by omega) (by omega) (by omega)) rfl (by omega) (Nat.le_of_ble_eq_true rfl) (Nat.zero_le _) (Nat.zero_le _) rfl (fun r9 hp10 n11 q12 => ?_)
                obtain ⟨hnn11, Co137, Fr137, v137, ht13, hrr9, bv137, hmp1, hmp2⟩ := q12
                subst n11 r9
                change Rn _ _ _ 140 _ [.int (iv v137)] _ _ _ _ _
                have hlo1 : ∀ i : Nat, (i : Int) < 32 * (x2 + 1) → Co137 i = Co i := fun i9 hi9 => (hmp1 i9 (by omega)).trans ((by assumption : ∀ i : Nat, (i : Int) < 32 * (x2 + 1) → Co41 i = Co i) i9 hi9)
                refine t_if_eq (pc := 140) (tgt := 158) dX6_canNumber_140 (by decide) (by omega) (fun c140 => ?_) (fun c140 => ?_)
                · have hnv1 : nvP (vaP (isP gm gdr F T W C F2 T2 W2 C2) (gn : Int)) Nu x1 z6 := nv_up (u := Int.toNat y1) (by assumption : nvP (vaP (isP gm gdr F T W C F2 T2 W2 C2) (gn : Int)) Nu x1 v41_7) hz1 (fun im9 h9 g9 e9 => by
                    have h8 := (hmp2 _ (htp im9 h9) (hcvL im9 h9 g9) (by show (im9 (Int.toNat x1)).toNat = _; rw [e9]; omega)).1
                    omega)
                  have htk1 := tk_up (by assumption : tkC gn v41_7 v41_8) (u := Int.toNat y1) (by omega) hk1 hz1
                  refine r_iinc (pc := 158) (v := iv (v41_8 + 1)) (lv' := [(8, .int (iv (v41_8 + 1))), (7, .int (iv z6)), (10, .int (iv 0)), (9, .int (iv y1)), (0, .ref s), (1, .int (iv x1)), (2, .int (iv x2)), (3, .int (iv (gn : Int))), (4, .int (iv (x2 * 32))), (5, .long (Co (Int.toNat ((x2 * 32) + x1))))]) dX6_canNumber_158 rfl (iv_add _ _) (by decide) rfl ?_
                  refine r_goto (pc := 161) (tgt := 41) dX6_canNumber_161 (by decide) ?_
                  refine Rn.pick (lv' := [(0, .ref s), (1, .int (iv x1)), (2, .int (iv x2)), (3, .int (iv (gn : Int))), (4, .int (iv (x2 * 32))), (5, .long (Co (Int.toNat ((x2 * 32) + x1)))), (7, .int (iv z6)), (8, .int (iv (v41_8 + 1)))]) [4, 5, 6, 7, 8, 9, 1, 0] rfl ?_
                  exact ih41 (Int.toNat (16 - (v41_8 + 1))) (by omega) Co137 Fr137 (fup Nu41 (Int.toNat x1) y1) _ ht13 z6 (v41_8 + 1) ⟨by omega, by omega, by omega, by omega, by omega, by (first | exact hlo2 | exact hlo1 | exact fun _ _ => rfl), by (first | exact hNu150 | exact hN111 | exact hNu), by (first | exact hpl2 | exact hpl1 | exact fun _ _ => rfl), by (first | exact hnv1 | exact nv_0), by (first | exact htk1 | exact tk_0)⟩ (by omega)
                · refine r_aload_n (pc := 143) dX6_canNumber_143 (i := 0) rfl rfl ?_
                  refine r_iload_n (pc := 144) dX6_canNumber_144 (i := 1) rfl rfl ?_
                  refine r_iconst (pc := 145) (v := iv 1) dX6_canNumber_145 (by decide) ?_
                  refine r_iadd (pc := 146) (v := iv (x1 + 1)) dX6_canNumber_146 (iv_add _ _) ?_
                  refine r_iload_n (pc := 147) dX6_canNumber_147 (i := 2) rfl rfl ?_
                  refine r_iconst (pc := 148) (v := iv 1) dX6_canNumber_148 (by decide) ?_
                  refine r_iadd (pc := 149) (v := iv (x2 + 1)) dX6_canNumber_149 (iv_add _ _) ?_
                  have hcn : (∀ im, (vaP (isP gm gdr F T W C F2 T2 W2 C2) (gn : Int)) im → (∀ i : Nat, (i : Int) < (x1 + 1) → im i = (fup Nu41 (Int.toNat x1) y1) i) → cvP Co137 (Int.toNat ((x2 + 1) * 32)) gn (fun i => (im i).toNat)) := fun im9 h9 g9 => by
                    have h8 := (pf_up (by omega) (by assumption : ∀ i : Nat, (i : Int) < x1 → Nu41 i = Nu i)).mp g9
                    have h7 := (hmp2 _ (htp im9 h9) (hcvL im9 h9 h8.1) (by show (im9 (Int.toNat x1)).toNat = _; rw [h8.2])).2
                    rw [show Int.toNat ((x2 + 1) * 32) = (Int.toNat (x2 * 32)) + 32 by omega]
                    exact h7
                  obtain ⟨fs20, hfs20⟩ := t_obj ht13 (rd_ov (by omega) (rd_ov (by omega) (rd_ov (by omega) (rd_ov (by omega) (rd_of (ov_s _ _ _))))))
                  refine r_callV (pc := 150) (as := [.int (iv (x1 + 1)), .int (iv (x2 + 1))]) (st := []) kX6_63 rfl dX6_canNumber_150 hfs20 (ih _ _ (x1 + 1) (x2 + 1) Co137 Fr137 (fup Nu41 (Int.toNat x1) y1) ht13 hN111 (by omega) (by omega) hcn) rfl (by omega) (Nat.le_of_ble_eq_true rfl) (Nat.zero_le _) (Nat.zero_le _) rfl (fun r15 hp16 n17 q18 => ?_)
                  obtain ⟨hnn17, Co150, Fr150, Nu150, v150, ht19, hrr15, bv150, hlo150, hNu150, hpf150, hca150⟩ := q18
                  subst n17 r15
                  change Rn _ _ _ 153 _ [.int (iv v150)] _ _ _ _ _
                  refine t_if_eq (pc := 153) (tgt := 158) dX6_canNumber_153 (by decide) (by omega) (fun c153 => ?_) (fun c153 => ?_)
                  · have e150 : v150 = 0 := by omega
                    rw [e150] at hca150
                    have hnx := cn_nx (by omega) (by assumption : ∀ i : Nat, (i : Int) < x1 → Nu41 i = Nu i) hca150
                    have hnv1 : nvP (vaP (isP gm gdr F T W C F2 T2 W2 C2) (gn : Int)) Nu x1 z6 := nv_up (u := Int.toNat y1) (by assumption : nvP (vaP (isP gm gdr F T W C F2 T2 W2 C2) (gn : Int)) Nu x1 v41_7) hz1 (fun im9 h9 g9 e9 => hnx im9 h9 g9 (by omega))
                    have htk1 := tk_up (by assumption : tkC gn v41_7 v41_8) (u := Int.toNat y1) (by omega) hk1 hz1
                    have hlo2 : ∀ i : Nat, (i : Int) < 32 * (x2 + 1) → Co150 i = Co i := fun i9 hi9 => (hlo150 i9 (by omega)).trans (hlo1 i9 hi9)
                    have hpl2 : ∀ i : Nat, (i : Int) < x1 → Nu150 i = Nu i := fun i9 hi9 => (hpf150 i9 (by omega)).trans (hpl1 i9 hi9)
                    refine r_iinc (pc := 158) (v := iv (v41_8 + 1)) (lv' := [(8, .int (iv (v41_8 + 1))), (7, .int (iv z6)), (10, .int (iv 0)), (9, .int (iv y1)), (0, .ref s), (1, .int (iv x1)), (2, .int (iv x2)), (3, .int (iv (gn : Int))), (4, .int (iv (x2 * 32))), (5, .long (Co (Int.toNat ((x2 * 32) + x1))))]) dX6_canNumber_158 rfl (iv_add _ _) (by decide) rfl ?_
                    refine r_goto (pc := 161) (tgt := 41) dX6_canNumber_161 (by decide) ?_
                    refine Rn.pick (lv' := [(0, .ref s), (1, .int (iv x1)), (2, .int (iv x2)), (3, .int (iv (gn : Int))), (4, .int (iv (x2 * 32))), (5, .long (Co (Int.toNat ((x2 * 32) + x1)))), (7, .int (iv z6)), (8, .int (iv (v41_8 + 1)))]) [4, 5, 6, 7, 8, 9, 1, 0] rfl ?_
                    exact ih41 (Int.toNat (16 - (v41_8 + 1))) (by omega) Co150 Fr150 Nu150 _ ht19 z6 (v41_8 + 1) ⟨by omega, by omega, by omega, by omega, by omega, by (first | exact hlo2 | exact hlo1 | exact fun _ _ => rfl), by (first | exact hNu150 | exact hN111 | exact hNu), by (first | exact hpl2 | exact hpl1 | exact fun _ _ => rfl), by (first | exact hnv1 | exact nv_0), by (first | exact htk1 | exact tk_0)⟩ (by omega)
                  · have e150 : v150 = 1 := by omega
                    rw [e150] at hca150
                    refine r_iconst (pc := 156) (v := iv 1) dX6_canNumber_156 (by decide) ?_
                    exact r_zret (pc := 157) dX6_canNumber_157 rfl (iv_nar (by omega)) ⟨rfl, Co150, Fr150, Nu150, _, ht19, rfl, by omega, fun i9 hi9 => (hlo150 i9 (by omega)).trans (hlo1 i9 hi9), hNu150, fun i9 hi9 => (hpf150 i9 (by omega)).trans (hpl1 i9 hi9), cn_ys (by omega) (by assumption : ∀ i : Nat, (i : Int) < x1 → Nu41 i = Nu i) hge hpf150 hca150 rfl⟩
            · exfalso
              omega
          · refine r_aload_n (pc := 72) dX6_canNumber_72 (i := 0) rfl rfl ?_
            refine r_iload (pc := 73) dX6_canNumber_73 rfl ?_
            refine r_lload (pc := 75) dX6_canNumber_75 rfl ?_
            refine r_iconst (pc := 77) (v := iv 1) dX6_canNumber_77 (by decide) ?_
            refine r_iload (pc := 78) dX6_canNumber_78 rfl ?_
            refine r_ishl (pc := 80) (v := iv ((2 ^ Int.toNat y1 : Nat) : Int)) dX6_canNumber_80 (shl_e (by omega)) ?_
            have mp80_21 : 1 ≤ 2 ^ Int.toNat y1 := Nat.one_le_two_pow
            have mq80_22 : 2 ^ Int.toNat y1 ≤ 2 ^ 15 := Nat.pow_le_pow_right (by omega) (by omega)
            have ms80 := Me_shl (Int.toNat y1)
            refine r_iload_n (pc := 81) dX6_canNumber_81 (i := 3) rfl rfl ?_
            refine t_callVI (pc := 82) (as := [.int (iv (x2 * 32)), .long (Co (Int.toNat ((x2 * 32) + x1))), .int (iv ((2 ^ Int.toNat y1 : Nat) : Int)), .int (iv (gn : Int))]) (st := []) ht3 (rd_ov (by omega) (rd_ov (by omega) (rd_ov (by omega) (rd_ov (by omega) (rd_of (ov_s _ _ _)))))) kX6_106 rfl dX6_canNumber_82 (c_X6_firstLikex (d := d - 1) (Co := Co41) (x1 := x2 * 32) (j2 := Co (Int.toNat ((x2 * 32) + x1))) (x4 := ((2 ^ Int.toNat y1 : Nat) : Int)) (x5 := (gn : Int)) (by omega) (rd_ov (by omega) (rd_ov (by omega) (rd_ov (by omega) (rd_ov (by omega) (rd_of (ov_s _ _ _)))))) (rd_ov (by omega) (rd_ov (by omega) (rd_of (ov_s _ _ _)))) ht3 (by omega) (by omega) (by omega)) rfl (by omega) (Nat.le_of_ble_eq_true rfl) rfl (fun hp24 y23 ht25 by23 => ?_)
            obtain ⟨by231, hfk82⟩ := by23
            rw [Int.toNat_natCast, e32] at hfk82
            have hfq82 := flq_cg (Co := Co) hfk82 (by omega) (by omega) (fun u9 hu9 => (by assumption : ∀ i : Nat, (i : Int) < 32 * (x2 + 1) → Co41 i = Co i) _ (by omega))
            refine t_if_ge (pc := 85) (tgt := 92) dX6_canNumber_85 (by decide) (by omega) (fun c85 => ?_) (fun c85 => ?_)
            · refine r_iconst (pc := 92) (v := iv 0) dX6_canNumber_92 (by decide) ?_
              refine r_istore (pc := 93) (lv' := [(10, .int (iv 0)), (9, .int (iv y1)), (0, .ref s), (1, .int (iv x1)), (2, .int (iv x2)), (3, .int (iv (gn : Int))), (4, .int (iv (x2 * 32))), (5, .long (Co (Int.toNat ((x2 * 32) + x1)))), (7, .int (iv v41_7)), (8, .int (iv v41_8))]) dX6_canNumber_93 (by decide) rfl ?_
              refine r_iload (pc := 95) dX6_canNumber_95 rfl ?_
              refine r_iconst (pc := 97) (v := iv 1) dX6_canNumber_97 (by decide) ?_
              refine r_iload (pc := 98) dX6_canNumber_98 rfl ?_
              refine r_ishl (pc := 100) (v := iv ((2 ^ Int.toNat y1 : Nat) : Int)) dX6_canNumber_100 (shl_e (by omega)) ?_
              have mp100_26 : 1 ≤ 2 ^ Int.toNat y1 := Nat.one_le_two_pow
              have mq100_27 : 2 ^ Int.toNat y1 ≤ 2 ^ 15 := Nat.pow_le_pow_right (by omega) (by omega)
              have ms100 := Me_shl (Int.toNat y1)
              obtain ⟨z28, hz28, bz28⟩ := or_2 16 v41_7 ((2 ^ Int.toNat y1 : Nat) : Int) (by omega) (by omega) (by decide)
              refine r_ior (pc := 101) (v := iv z28) dX6_canNumber_101 hz28 ?_
              have mez28 := Me_or hz28 (by omega) (by omega) (by omega)
              have hz1 : ∀ i9, Me z28 i9 ↔ Me v41_7 i9 ∨ i9 = Int.toNat y1 := fun i9 => by rw [mez28 i9, ms100 i9]
              refine r_istore (pc := 102) (lv' := [(7, .int (iv z28)), (10, .int (iv 0)), (9, .int (iv y1)), (0, .ref s), (1, .int (iv x1)), (2, .int (iv x2)), (3, .int (iv (gn : Int))), (4, .int (iv (x2 * 32))), (5, .long (Co (Int.toNat ((x2 * 32) + x1)))), (8, .int (iv v41_8))]) dX6_canNumber_102 (by decide) rfl ?_
              refine r_aload_n (pc := 104) dX6_canNumber_104 (i := 0) rfl rfl ?_
              refine t_getE (pc := 105) (.ref (s + 4)) ht25 (rd_ov (by omega) (rd_ov (by omega) (rd_ov (by omega) (rd_ov (by omega) (rd_of (ov_s _ _ _)))))) fX6_21 dX6_canNumber_105 rfl ?_
              refine r_iload_n (pc := 108) dX6_canNumber_108 (i := 1) rfl rfl ?_
              refine r_iload (pc := 109) dX6_canNumber_109 rfl ?_
              refine t_iastX (pc := 111) (t0 := 0) ht25 (ov_s _ _ _) dX6_canNumber_111 rfl (by decide) (by omega) (by omega) (fun hp29 ht30 => ?_)
              rw [ov_ov] at ht30
              have hN111 : Rfx 16 0 15 (fup Nu41 (Int.toNat x1) y1) := Rfx_up (by assumption) (by omega)
              have hpl1 : ∀ i : Nat, (i : Int) < x1 → (fup Nu41 (Int.toNat x1) y1) i = Nu i := fun i9 hi9 => by
                rw [show (fup Nu41 (Int.toNat x1) y1) i9 = Nu41 i9 from if_neg (by omega)]
                exact (by assumption : ∀ i : Nat, (i : Int) < x1 → Nu41 i = Nu i) i9 hi9
              refine r_iload (pc := 112) dX6_canNumber_112 rfl ?_
              refine t_if_eq (pc := 114) (tgt := 126) dX6_canNumber_114 (by decide) (by omega) (fun c114 => ?_) (fun c114 => ?_)
              · refine r_iload_n (pc := 126) dX6_canNumber_126 (i := 2) rfl rfl ?_
                refine r_bipush (pc := 127) (v := iv 16) dX6_canNumber_127 (by decide) ?_
                refine t_icmp_ge (pc := 129) (tgt := 158) dX6_canNumber_129 (by decide) (by omega) (by omega) (fun c129 => ?_) (fun c129 => ?_)
                · exfalso
                  omega
                · refine r_aload_n (pc := 132) dX6_canNumber_132 (i := 0) rfl rfl ?_
                  refine r_iload_n (pc := 133) dX6_canNumber_133 (i := 1) rfl rfl ?_
                  refine r_iload (pc := 134) dX6_canNumber_134 rfl ?_
                  refine r_iload_n (pc := 136) dX6_canNumber_136 (i := 2) rfl rfl ?_
                  have hcvL : (∀ im, (vaP (isP gm gdr F T W C F2 T2 W2 C2) (gn : Int)) im → (∀ i : Nat, (i : Int) < x1 → im i = Nu i) → cvP Co41 (Int.toNat (x2 * 32)) gn (fun i => (im i).toNat)) := fun im9 h9 g9 v9 hv9 => by
                    have h8 := hcv im9 h9 g9 v9 hv9
                    have h7 := (hrg im9 h9 v9 (by omega)).2
                    show Co41 ((Int.toNat (x2 * 32)) + v9) = Co41 ((Int.toNat (x2 * 32)) + 16 + (im9 v9).toNat)
                    rw [(by assumption : ∀ i : Nat, (i : Int) < 32 * (x2 + 1) → Co41 i = Co i) _ (by omega), (by assumption : ∀ i : Nat, (i : Int) < 32 * (x2 + 1) → Co41 i = Co i) _ (by omega)]
                    exact h8
                  obtain ⟨fs36, hfs36⟩ := t_obj ht30 (rd_ov (by omega) (rd_ov (by omega) (rd_ov (by omega) (rd_ov (by omega) (rd_of (ov_s _ _ _))))))
                  refine r_callV (pc := 137) (as := [.int (iv x1), .int (iv y1), .int (iv x2)]) (st := []) kX6_114 rfl dX6_canNumber_137 hfs36 (c_X6_markPairx (d := d - 1) (rw9 := (Int.toNat (x2 * 32))) (x1 := x1) (x2 := y1) (x3 := x2) (by omega) hg hsp ht30 (by omega) (by omega) (by omega) (by omega) (by omega)) rfl (by omega) (Nat.le_of_ble_eq_true rfl) (Nat.zero_le _) (Nat.zero_le _) rfl (fun r31 hp32 n33 q34 => ?_)
                  obtain ⟨hnn33, Co137, Fr137, v137, ht35, hrr31, bv137, hmp1, hmp2⟩ := q34
                  subst n33 r31
                  change Rn _ _ _ 140 _ [.int (iv v137)] _ _ _ _ _
                  have hlo1 : ∀ i : Nat, (i : Int) < 32 * (x2 + 1) → Co137 i = Co i := fun i9 hi9 => (hmp1 i9 (by omega)).trans ((by assumption : ∀ i : Nat, (i : Int) < 32 * (x2 + 1) → Co41 i = Co i) i9 hi9)
                  refine t_if_eq (pc := 140) (tgt := 158) dX6_canNumber_140 (by decide) (by omega) (fun c140 => ?_) (fun c140 => ?_)
                  · have hnv1 : nvP (vaP (isP gm gdr F T W C F2 T2 W2 C2) (gn : Int)) Nu x1 z28 := nv_up (u := Int.toNat y1) (by assumption : nvP (vaP (isP gm gdr F T W C F2 T2 W2 C2) (gn : Int)) Nu x1 v41_7) hz1 (fun im9 h9 g9 e9 => by
                      have h8 := (hmp2 _ (htp im9 h9) (hcvL im9 h9 g9) (by show (im9 (Int.toNat x1)).toNat = _; rw [e9]; omega)).1
                      omega)
                    have htk1 := tk_up (by assumption : tkC gn v41_7 v41_8) (u := Int.toNat y1) (by omega) hk1 hz1
                    refine r_iinc (pc := 158) (v := iv (v41_8 + 1)) (lv' := [(8, .int (iv (v41_8 + 1))), (7, .int (iv z28)), (10, .int (iv 0)), (9, .int (iv y1)), (0, .ref s), (1, .int (iv x1)), (2, .int (iv x2)), (3, .int (iv (gn : Int))), (4, .int (iv (x2 * 32))), (5, .long (Co (Int.toNat ((x2 * 32) + x1))))]) dX6_canNumber_158 rfl (iv_add _ _) (by decide) rfl ?_
                    refine r_goto (pc := 161) (tgt := 41) dX6_canNumber_161 (by decide) ?_
                    refine Rn.pick (lv' := [(0, .ref s), (1, .int (iv x1)), (2, .int (iv x2)), (3, .int (iv (gn : Int))), (4, .int (iv (x2 * 32))), (5, .long (Co (Int.toNat ((x2 * 32) + x1)))), (7, .int (iv z28)), (8, .int (iv (v41_8 + 1)))]) [4, 5, 6, 7, 8, 9, 1, 0] rfl ?_
                    exact ih41 (Int.toNat (16 - (v41_8 + 1))) (by omega) Co137 Fr137 (fup Nu41 (Int.toNat x1) y1) _ ht35 z28 (v41_8 + 1) ⟨by omega, by omega, by omega, by omega, by omega, by (first | exact hlo2 | exact hlo1 | exact fun _ _ => rfl), by (first | exact hNu150 | exact hN111 | exact hNu), by (first | exact hpl2 | exact hpl1 | exact fun _ _ => rfl), by (first | exact hnv1 | exact nv_0), by (first | exact htk1 | exact tk_0)⟩ (by omega)
                  · refine r_aload_n (pc := 143) dX6_canNumber_143 (i := 0) rfl rfl ?_
                    refine r_iload_n (pc := 144) dX6_canNumber_144 (i := 1) rfl rfl ?_
                    refine r_iconst (pc := 145) (v := iv 1) dX6_canNumber_145 (by decide) ?_
                    refine r_iadd (pc := 146) (v := iv (x1 + 1)) dX6_canNumber_146 (iv_add _ _) ?_
                    refine r_iload_n (pc := 147) dX6_canNumber_147 (i := 2) rfl rfl ?_
                    refine r_iconst (pc := 148) (v := iv 1) dX6_canNumber_148 (by decide) ?_
                    refine r_iadd (pc := 149) (v := iv (x2 + 1)) dX6_canNumber_149 (iv_add _ _) ?_
                    have hcn : (∀ im, (vaP (isP gm gdr F T W C F2 T2 W2 C2) (gn : Int)) im → (∀ i : Nat, (i : Int) < (x1 + 1) → im i = (fup Nu41 (Int.toNat x1) y1) i) → cvP Co137 (Int.toNat ((x2 + 1) * 32)) gn (fun i => (im i).toNat)) := fun im9 h9 g9 => by
                      have h8 := (pf_up (by omega) (by assumption : ∀ i : Nat, (i : Int) < x1 → Nu41 i = Nu i)).mp g9
                      have h7 := (hmp2 _ (htp im9 h9) (hcvL im9 h9 h8.1) (by show (im9 (Int.toNat x1)).toNat = _; rw [h8.2])).2
                      rw [show Int.toNat ((x2 + 1) * 32) = (Int.toNat (x2 * 32)) + 32 by omega]
                      exact h7
                    obtain ⟨fs42, hfs42⟩ := t_obj ht35 (rd_ov (by omega) (rd_ov (by omega) (rd_ov (by omega) (rd_ov (by omega) (rd_of (ov_s _ _ _))))))
                    refine r_callV (pc := 150) (as := [.int (iv (x1 + 1)), .int (iv (x2 + 1))]) (st := []) kX6_63 rfl dX6_canNumber_150 hfs42 (ih _ _ (x1 + 1) (x2 + 1) Co137 Fr137 (fup Nu41 (Int.toNat x1) y1) ht35 hN111 (by omega) (by omega) hcn) rfl (by omega) (Nat.le_of_ble_eq_true rfl) (Nat.zero_le _) (Nat.zero_le _) rfl (fun r37 hp38 n39 q40 => ?_)
                    obtain ⟨hnn39, Co150, Fr150, Nu150, v150, ht41, hrr37, bv150, hlo150, hNu150, hpf150, hca150⟩ := q40
                    subst n39 r37
                    change Rn _ _ _ 153 _ [.int (iv v150)] _ _ _ _ _
                    refine t_if_eq (pc := 153) (tgt := 158) dX6_canNumber_153 (by decide) (by omega) (fun c153 => ?_) (fun c153 => ?_)
                    · have e150 : v150 = 0 := by omega
                      rw [e150] at hca150
                      have hnx := cn_nx (by omega) (by assumption : ∀ i : Nat, (i : Int) < x1 → Nu41 i = Nu i) hca150
                      have hnv1 : nvP (vaP (isP gm gdr F T W C F2 T2 W2 C2) (gn : Int)) Nu x1 z28 := nv_up (u := Int.toNat y1) (by assumption : nvP (vaP (isP gm gdr F T W C F2 T2 W2 C2) (gn : Int)) Nu x1 v41_7) hz1 (fun im9 h9 g9 e9 => hnx im9 h9 g9 (by omega))
                      have htk1 := tk_up (by assumption : tkC gn v41_7 v41_8) (u := Int.toNat y1) (by omega) hk1 hz1
                      have hlo2 : ∀ i : Nat, (i : Int) < 32 * (x2 + 1) → Co150 i = Co i := fun i9 hi9 => (hlo150 i9 (by omega)).trans (hlo1 i9 hi9)
                      have hpl2 : ∀ i : Nat, (i : Int) < x1 → Nu150 i = Nu i := fun i9 hi9 => (hpf150 i9 (by omega)).trans (hpl1 i9 hi9)
                      refine r_iinc (pc := 158) (v := iv (v41_8 + 1)) (lv' := [(8, .int (iv (v41_8 + 1))), (7, .int (iv z28)), (10, .int (iv 0)), (9, .int (iv y1)), (0, .ref s), (1, .int (iv x1)), (2, .int (iv x2)), (3, .int (iv (gn : Int))), (4, .int (iv (x2 * 32))), (5, .long (Co (Int.toNat ((x2 * 32) + x1))))]) dX6_canNumber_158 rfl (iv_add _ _) (by decide) rfl ?_
                      refine r_goto (pc := 161) (tgt := 41) dX6_canNumber_161 (by decide) ?_
                      refine Rn.pick (lv' := [(0, .ref s), (1, .int (iv x1)), (2, .int (iv x2)), (3, .int (iv (gn : Int))), (4, .int (iv (x2 * 32))), (5, .long (Co (Int.toNat ((x2 * 32) + x1)))), (7, .int (iv z28)), (8, .int (iv (v41_8 + 1)))]) [4, 5, 6, 7, 8, 9, 1, 0] rfl ?_
                      exact ih41 (Int.toNat (16 - (v41_8 + 1))) (by omega) Co150 Fr150 Nu150 _ ht41 z28 (v41_8 + 1) ⟨by omega, by omega, by omega, by omega, by omega, by (first | exact hlo2 | exact hlo1 | exact fun _ _ => rfl), by (first | exact hNu150 | exact hN111 | exact hNu), by (first | exact hpl2 | exact hpl1 | exact fun _ _ => rfl), by (first | exact hnv1 | exact nv_0), by (first | exact htk1 | exact tk_0)⟩ (by omega)
                    · have e150 : v150 = 1 := by omega
                      rw [e150] at hca150
                      refine r_iconst (pc := 156) (v := iv 1) dX6_canNumber_156 (by decide) ?_
                      exact r_zret (pc := 157) dX6_canNumber_157 rfl (iv_nar (by omega)) ⟨rfl, Co150, Fr150, Nu150, _, ht41, rfl, by omega, fun i9 hi9 => (hlo150 i9 (by omega)).trans (hlo1 i9 hi9), hNu150, fun i9 hi9 => (hpf150 i9 (by omega)).trans (hpl1 i9 hi9), cn_ys (by omega) (by assumption : ∀ i : Nat, (i : Int) < x1 → Nu41 i = Nu i) hge hpf150 hca150 rfl⟩
              · exfalso
                omega
            · have hal := cn_alo (u := y1) (by omega) (by omega) hrg hcv ms80 (hfq82.1 (by omega))
              refine r_iconst (pc := 88) (v := iv 1) dX6_canNumber_88 (by decide) ?_
              refine r_goto (pc := 89) (tgt := 93) dX6_canNumber_89 (by decide) ?_
              refine r_istore (pc := 93) (lv' := [(10, .int (iv 1)), (9, .int (iv y1)), (0, .ref s), (1, .int (iv x1)), (2, .int (iv x2)), (3, .int (iv (gn : Int))), (4, .int (iv (x2 * 32))), (5, .long (Co (Int.toNat ((x2 * 32) + x1)))), (7, .int (iv v41_7)), (8, .int (iv v41_8))]) dX6_canNumber_93 (by decide) rfl ?_
              refine r_iload (pc := 95) dX6_canNumber_95 rfl ?_
              refine r_iconst (pc := 97) (v := iv 1) dX6_canNumber_97 (by decide) ?_
              refine r_iload (pc := 98) dX6_canNumber_98 rfl ?_
              refine r_ishl (pc := 100) (v := iv ((2 ^ Int.toNat y1 : Nat) : Int)) dX6_canNumber_100 (shl_e (by omega)) ?_
              have mp100_43 : 1 ≤ 2 ^ Int.toNat y1 := Nat.one_le_two_pow
              have mq100_44 : 2 ^ Int.toNat y1 ≤ 2 ^ 15 := Nat.pow_le_pow_right (by omega) (by omega)
              have ms100 := Me_shl (Int.toNat y1)
              obtain ⟨z45, hz45, bz45⟩ := or_2 16 v41_7 ((2 ^ Int.toNat y1 : Nat) : Int) (by omega) (by omega) (by decide)
              refine r_ior (pc := 101) (v := iv z45) dX6_canNumber_101 hz45 ?_
              have mez45 := Me_or hz45 (by omega) (by omega) (by omega)
              have hz1 : ∀ i9, Me z45 i9 ↔ Me v41_7 i9 ∨ i9 = Int.toNat y1 := fun i9 => by rw [mez45 i9, ms100 i9]
              refine r_istore (pc := 102) (lv' := [(7, .int (iv z45)), (10, .int (iv 1)), (9, .int (iv y1)), (0, .ref s), (1, .int (iv x1)), (2, .int (iv x2)), (3, .int (iv (gn : Int))), (4, .int (iv (x2 * 32))), (5, .long (Co (Int.toNat ((x2 * 32) + x1)))), (8, .int (iv v41_8))]) dX6_canNumber_102 (by decide) rfl ?_
              refine r_aload_n (pc := 104) dX6_canNumber_104 (i := 0) rfl rfl ?_
              refine t_getE (pc := 105) (.ref (s + 4)) ht25 (rd_ov (by omega) (rd_ov (by omega) (rd_ov (by omega) (rd_ov (by omega) (rd_of (ov_s _ _ _)))))) fX6_21 dX6_canNumber_105 rfl ?_
              refine r_iload_n (pc := 108) dX6_canNumber_108 (i := 1) rfl rfl ?_
              refine r_iload (pc := 109) dX6_canNumber_109 rfl ?_
              refine t_iastX (pc := 111) (t0 := 0) ht25 (ov_s _ _ _) dX6_canNumber_111 rfl (by decide) (by omega) (by omega) (fun hp46 ht47 => ?_)
              rw [ov_ov] at ht47
              have hN111 : Rfx 16 0 15 (fup Nu41 (Int.toNat x1) y1) := Rfx_up (by assumption) (by omega)
              have hpl1 : ∀ i : Nat, (i : Int) < x1 → (fup Nu41 (Int.toNat x1) y1) i = Nu i := fun i9 hi9 => by
                rw [show (fup Nu41 (Int.toNat x1) y1) i9 = Nu41 i9 from if_neg (by omega)]
                exact (by assumption : ∀ i : Nat, (i : Int) < x1 → Nu41 i = Nu i) i9 hi9
              refine r_iload (pc := 112) dX6_canNumber_112 rfl ?_
              refine t_if_eq (pc := 114) (tgt := 126) dX6_canNumber_114 (by decide) (by omega) (fun c114 => ?_) (fun c114 => ?_)
              · exfalso
                omega
              · refine r_aload_n (pc := 117) dX6_canNumber_117 (i := 0) rfl rfl ?_
                refine r_iload_n (pc := 118) dX6_canNumber_118 (i := 1) rfl rfl ?_
                refine r_iconst (pc := 119) (v := iv 1) dX6_canNumber_119 (by decide) ?_
                refine r_iadd (pc := 120) (v := iv (x1 + 1)) dX6_canNumber_120 (iv_add _ _) ?_
                refine r_iload_n (pc := 121) dX6_canNumber_121 (i := 2) rfl rfl ?_
                have hcn : (∀ im, (vaP (isP gm gdr F T W C F2 T2 W2 C2) (gn : Int)) im → (∀ i : Nat, (i : Int) < (x1 + 1) → im i = (fup Nu41 (Int.toNat x1) y1) i) → cvP Co41 (Int.toNat (x2 * 32)) gn (fun i => (im i).toNat)) := fun im9 h9 g9 v9 hv9 => by
                  have h8 := hcv im9 h9 ((pf_up (by omega) (by assumption : ∀ i : Nat, (i : Int) < x1 → Nu41 i = Nu i)).mp g9).1 v9 hv9
                  have h7 := (hrg im9 h9 v9 (by omega)).2
                  show Co41 ((Int.toNat (x2 * 32)) + v9) = Co41 ((Int.toNat (x2 * 32)) + 16 + (im9 v9).toNat)
                  rw [(by assumption : ∀ i : Nat, (i : Int) < 32 * (x2 + 1) → Co41 i = Co i) _ (by omega), (by assumption : ∀ i : Nat, (i : Int) < 32 * (x2 + 1) → Co41 i = Co i) _ (by omega)]
                  exact h8
                obtain ⟨fs53, hfs53⟩ := t_obj ht47 (rd_ov (by omega) (rd_ov (by omega) (rd_ov (by omega) (rd_ov (by omega) (rd_of (ov_s _ _ _))))))
                refine r_callV (pc := 122) (as := [.int (iv (x1 + 1)), .int (iv x2)]) (st := []) kX6_63 rfl dX6_canNumber_122 hfs53 (ih _ _ (x1 + 1) x2 Co41 Fr41 (fup Nu41 (Int.toNat x1) y1) ht47 hN111 (by omega) (by omega) hcn) rfl (by omega) (Nat.le_of_ble_eq_true rfl) (Nat.zero_le _) (Nat.zero_le _) rfl (fun r48 hp49 n50 q51 => ?_)
                obtain ⟨hnn50, Co122, Fr122, Nu122, v122, ht52, hrr48, bv122, hlo122, hNu122, hpf122, hca122⟩ := q51
                subst n50 r48
                change Rn _ _ _ 125 _ [.int (iv v122)] _ _ _ _ _
                exact r_zret (pc := 125) dX6_canNumber_125 rfl (iv_nar (by omega)) ⟨rfl, Co122, Fr122, Nu122, _, ht52, rfl, bv122, fun i9 hi9 => (hlo122 i9 hi9).trans ((by assumption : ∀ i : Nat, (i : Int) < 32 * (x2 + 1) → Co41 i = Co i) i9 hi9), hNu122, fun i9 hi9 => (hpf122 i9 (by omega)).trans (hpl1 i9 hi9), cn_al (by omega) (by assumption : ∀ i : Nat, (i : Int) < x1 → Nu41 i = Nu i) hal hca122⟩
        · refine r_iconst (pc := 65) (v := iv 0) dX6_canNumber_65 (by decide) ?_
          exact r_zret (pc := 66) dX6_canNumber_66 rfl (iv_nar (by omega)) ⟨rfl, Co41, Fr41, Nu41, _, ht3, rfl, by omega, (by assumption : ∀ i : Nat, (i : Int) < 32 * (x2 + 1) → Co41 i = Co i), by assumption, (by assumption : ∀ i : Nat, (i : Int) < x1 → Nu41 i = Nu i), cn_non (by omega) hrg hcv (by assumption : nvP (vaP (isP gm gdr F T W C F2 T2 W2 C2) (gn : Int)) Nu x1 v41_7) (hfq55.1 (by omega)) rfl⟩
    refine Rn.pick (lv' := [(0, .ref s), (1, .int (iv x1)), (2, .int (iv x2)), (3, .int (iv (gn : Int))), (4, .int (iv (x2 * 32))), (5, .long (Co (Int.toNat ((x2 * 32) + x1)))), (7, .int (iv 0)), (8, .int (iv 0))]) [5, 6, 7, 4, 3, 2, 1, 0] rfl ?_
    exact B41 (Int.toNat (16 - 0)) Co Fr Nu _ t0 0 0 ⟨by omega, by omega, by omega, by omega, by omega, by (first | exact hlo2 | exact hlo1 | exact fun _ _ => rfl), by (first | exact hNu150 | exact hN111 | exact hNu), by (first | exact hpl2 | exact hpl1 | exact fun _ _ => rfl), by (first | exact hnv1 | exact nv_0), by (first | exact htk1 | exact tk_0)⟩ (by omega)
  · refine r_aload_n (pc := 13) dX6_canNumber_13 (i := 0) rfl rfl ?_
    refine t_callVI (pc := 14) (as := []) (st := []) t0 (rd_ov (by omega) (rd_ov (by omega) (rd_ov (by omega) (rd_ov (by omega) (rd_of (ov_s _ _ _)))))) kX6_110 rfl dX6_canNumber_14 (c_X6_haveSameArcsx (d := d - 1) (by omega) hg hxg hk hxk hsp hspk hkm hkd hNu t0) rfl (by omega) (Nat.le_of_ble_eq_true rfl) rfl (fun hp55 y54 ht56 by54 => ?_)
    obtain ⟨by541, hha⟩ := by54
    exact r_zret (pc := 17) dX6_canNumber_17 rfl (iv_nar (by omega)) ⟨rfl, Co, Fr, Nu, _, ht56, rfl, by omega, fun _ _ => rfl, hNu, fun _ _ => rfl, cn_fin (va_cg is_cg) (by omega) hha⟩
theorem c_X6_canNumberx {D : va_G} {cI cJ cZ cT : ClassId} {lo b L : Nat} {xs : Nat → Int32} {Γ : TG} {ga : Nat} {gF : Nat} {gT : Nat} {gW : Nat} {gC : Nat} {gTl : Nat} {gHd : Nat} {gBy : Nat} {gOu : Nat} {gIn : Nat} {gJo : Nat} {gn : Nat} {gm : Nat} {gq : Nat} {gdr : Int} {F T W C Tl Hd By Ou In Jo : Nat → Int} {ka : Nat} {kF : Nat} {kT : Nat} {kW : Nat} {kC : Nat} {kTl : Nat} {kHd : Nat} {kBy : Nat} {kOu : Nat} {kIn : Nat} {kJo : Nat} {kn : Nat} {km : Nat} {kq : Nat} {kdr : Int} {F2 T2 W2 C2 Tl2 Hd2 By2 Ou2 In2 Jo2 : Nat → Int} {s : Nat} {Ti : Nat → Int64} (hg : TyG Γ cI cJ cZ ga gF gT gW gC gTl gHd gBy gOu gIn gJo gn gm gq gdr) (hxg : XG Γ cI gF gT gW gC gTl gHd gBy gOu gIn gJo gn gm gq F T W C Tl Hd By Ou In Jo) (hk : TyG Γ cI cJ cZ ka kF kT kW kC kTl kHd kBy kOu kIn kJo kn km kq kdr) (hxk : XG Γ cI kF kT kW kC kTl kHd kBy kOu kIn kJo kn km kq F2 T2 W2 C2 Tl2 Hd2 By2 Ou2 In2 Jo2) (hsp : s + 5 ≤ ga ∧ s + 5 ≤ gF ∧ s + 5 ≤ gT ∧ s + 5 ≤ gW ∧ s + 5 ≤ gC ∧ s + 5 ≤ gTl ∧ s + 5 ≤ gHd ∧ s + 5 ≤ gBy ∧ s + 5 ≤ gOu ∧ s + 5 ≤ gIn ∧ s + 5 ≤ gJo) (hspk : s + 5 ≤ ka ∧ s + 5 ≤ kF ∧ s + 5 ≤ kT ∧ s + 5 ≤ kW ∧ s + 5 ≤ kC ∧ s + 5 ≤ kTl ∧ s + 5 ≤ kHd ∧ s + 5 ≤ kBy ∧ s + 5 ≤ kOu ∧ s + 5 ≤ kIn ∧ s + 5 ≤ kJo) (hkm : km = gm) (hkd : kdr = gdr) (htp : ∀ im, (vaP (isP gm gdr F T W C F2 T2 W2 C2) (gn : Int)) im → tpP Ti gn (fun i => (im i).toNat)) (k : Nat) : ∀ (hp : MH) (n d : Nat) (x1 x2 : Int) (Co Fr : Nat → Int64) (Nu : Nat → Int), (gn : Int) - x1 ≤ (k : Int) → k + 4 ≤ d → (0 ≤ x1 ∧ x1 ≤ (gn : Int)) → (0 ≤ x2 ∧ x2 ≤ x1) → Rfx 16 0 15 Nu → (∀ im, (vaP (isP gm gdr F T W C F2 T2 W2 C2) (gn : Int)) im → (∀ i : Nat, (i : Int) < x1 → im i = Nu i) → cvP Co (Int.toNat (x2 * 32)) gn (fun i => (im i).toNat)) → Tw (SmS Γ cI cJ s ga ka Ti Co Fr Nu) hp → Mt (gG D cI cJ cZ cT lo b L xs) mX6_canNumber d 0 0 [.ref s, .int (iv x1), .int (iv x2)] hp n (fun r9 hp1 n1 => n1 = n ∧ ∃ (Co1 Fr1 : Nat → Int64) (Nu1 : Nat → Int) (q : Int), Tw (SmS Γ cI cJ s ga ka Ti Co1 Fr1 Nu1) hp1 ∧ r9 = some (.int (iv q)) ∧ (0 ≤ q ∧ q ≤ 1) ∧ (∀ i : Nat, (i : Int) < 32 * (x2 + 1) → Co1 i = Co i) ∧ Rfx 16 0 15 Nu1 ∧ (∀ i : Nat, (i : Int) < x1 → Nu1 i = Nu i) ∧ cnA (vaP (isP gm gdr F T W C F2 T2 W2 C2) (gn : Int)) gn Nu Nu1 x1 q) := by
  induction k with
  | zero =>
    intro hp n d x1 x2 Co Fr Nu h1 h2 h3 h4 h5 h6 ht
    exact c_X6_canNumber_st (by omega) hg hxg hk hxk hsp hspk hkm hkd h5 ht h3 h4 htp h6 (fun hp n z1 z2 Co Fr Nu g1 g2 g3 g4 g5 => absurd g3 (by omega))
  | succ k ih =>
    intro hp n d x1 x2 Co Fr Nu h1 h2 h3 h4 h5 h6 ht
    exact c_X6_canNumber_st (by omega) hg hxg hk hxk hsp hspk hkm hkd h5 ht h3 h4 htp h6 (fun hp n z1 z2 Co Fr Nu g1 g2 g3 g4 g5 => ih hp n (d - 1) z1 z2 Co Fr Nu (by omega) (by omega) (by omega) g4 g2 g5 g1)
