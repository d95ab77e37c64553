set_option maxHeartbeats 4000000 in
set_option maxRecDepth 100000 in
theorem c_X6_scramblex {D : va_G} {cI cJ cZ cT : ClassId} {lo b L : Nat} {xs : Nat → Int32} {hp : MH} {n d : Nat} {Γ : TG} {j0 : Int64} (hd0 : 0 ≤ d) (ht : Tw Γ hp) : Mt (gG D cI cJ cZ cT lo b L xs) mX6_scramble d 0 0 [.long j0] hp n (pJ Γ n (fun q => q = scR j0)) := by
  refine Mt.of rfl (Nat.le_of_ble_eq_true rfl) ?_
  refine Rn.pick (lv' := [(0, .long j0)]) [0] rfl ?_
  refine r_lload_n (pc := 0) dX6_scramble_0 (i := 0) rfl rfl ?_
  refine r_lload_n (pc := 1) dX6_scramble_1 (i := 0) rfl rfl ?_
  refine r_bipush (pc := 2) (v := iv 31) dX6_scramble_2 (by decide) ?_
  refine r_lushr (pc := 4) dX6_scramble_4 ?_
  refine r_lxor (pc := 5) (v := j0 ^^^ ((j0.toUInt64 >>> ((iv 31).toInt64.toUInt64 &&& Int64.toUInt64 63)).toInt64)) dX6_scramble_5 rfl ?_
  refine r_ldc2 (pc := 6) (v := (-7046029254386353131)) dX6_scramble_6 kX6_60 ?_
  refine r_lmul (pc := 9) (v := (j0 ^^^ ((j0.toUInt64 >>> ((iv 31).toInt64.toUInt64 &&& Int64.toUInt64 63)).toInt64)) * ((-7046029254386353131) : Int64)) dX6_scramble_9 rfl ?_
  refine r_lstore_n (pc := 10) (lv' := [(2, .long ((j0 ^^^ ((j0.toUInt64 >>> ((iv 31).toInt64.toUInt64 &&& Int64.toUInt64 63)).toInt64)) * ((-7046029254386353131) : Int64))), (0, .long j0)]) dX6_scramble_10 (i := 2) rfl (by decide) rfl ?_
  refine r_lload_n (pc := 11) dX6_scramble_11 (i := 2) rfl rfl ?_
  refine r_lload_n (pc := 12) dX6_scramble_12 (i := 2) rfl rfl ?_
  refine r_bipush (pc := 13) (v := iv 29) dX6_scramble_13 (by decide) ?_
  refine r_lushr (pc := 15) dX6_scramble_15 ?_
  refine r_lxor (pc := 16) (v := ((j0 ^^^ ((j0.toUInt64 >>> ((iv 31).toInt64.toUInt64 &&& Int64.toUInt64 63)).toInt64)) * ((-7046029254386353131) : Int64)) ^^^ ((((j0 ^^^ ((j0.toUInt64 >>> ((iv 31).toInt64.toUInt64 &&& Int64.toUInt64 63)).toInt64)) * ((-7046029254386353131) : Int64)).toUInt64 >>> ((iv 29).toInt64.toUInt64 &&& Int64.toUInt64 63)).toInt64)) dX6_scramble_16 rfl ?_
  refine r_ldc2 (pc := 17) (v := (-7046029254386353131)) dX6_scramble_17 kX6_60 ?_
  refine r_lmul (pc := 20) (v := (((j0 ^^^ ((j0.toUInt64 >>> ((iv 31).toInt64.toUInt64 &&& Int64.toUInt64 63)).toInt64)) * ((-7046029254386353131) : Int64)) ^^^ ((((j0 ^^^ ((j0.toUInt64 >>> ((iv 31).toInt64.toUInt64 &&& Int64.toUInt64 63)).toInt64)) * ((-7046029254386353131) : Int64)).toUInt64 >>> ((iv 29).toInt64.toUInt64 &&& Int64.toUInt64 63)).toInt64)) * ((-7046029254386353131) : Int64)) dX6_scramble_20 rfl ?_
  refine r_lstore_n (pc := 21) (lv' := [(2, .long ((((j0 ^^^ ((j0.toUInt64 >>> ((iv 31).toInt64.toUInt64 &&& Int64.toUInt64 63)).toInt64)) * ((-7046029254386353131) : Int64)) ^^^ ((((j0 ^^^ ((j0.toUInt64 >>> ((iv 31).toInt64.toUInt64 &&& Int64.toUInt64 63)).toInt64)) * ((-7046029254386353131) : Int64)).toUInt64 >>> ((iv 29).toInt64.toUInt64 &&& Int64.toUInt64 63)).toInt64)) * ((-7046029254386353131) : Int64))), (0, .long j0)]) dX6_scramble_21 (i := 2) rfl (by decide) rfl ?_
  refine r_lload_n (pc := 22) dX6_scramble_22 (i := 2) rfl rfl ?_
  refine r_lload_n (pc := 23) dX6_scramble_23 (i := 2) rfl rfl ?_
  refine r_bipush (pc := 24) (v := iv 32) dX6_scramble_24 (by decide) ?_
  refine r_lushr (pc := 26) dX6_scramble_26 ?_
  refine r_lxor (pc := 27) (v := ((((j0 ^^^ ((j0.toUInt64 >>> ((iv 31).toInt64.toUInt64 &&& Int64.toUInt64 63)).toInt64)) * ((-7046029254386353131) : Int64)) ^^^ ((((j0 ^^^ ((j0.toUInt64 >>> ((iv 31).toInt64.toUInt64 &&& Int64.toUInt64 63)).toInt64)) * ((-7046029254386353131) : Int64)).toUInt64 >>> ((iv 29).toInt64.toUInt64 &&& Int64.toUInt64 63)).toInt64)) * ((-7046029254386353131) : Int64)) ^^^ ((((((j0 ^^^ ((j0.toUInt64 >>> ((iv 31).toInt64.toUInt64 &&& Int64.toUInt64 63)).toInt64)) * ((-7046029254386353131) : Int64)) ^^^ ((((j0 ^^^ ((j0.toUInt64 >>> ((iv 31).toInt64.toUInt64 &&& Int64.toUInt64 63)).toInt64)) * ((-7046029254386353131) : Int64)).toUInt64 >>> ((iv 29).toInt64.toUInt64 &&& Int64.toUInt64 63)).toInt64)) * ((-7046029254386353131) : Int64)).toUInt64 >>> ((iv 32).toInt64.toUInt64 &&& Int64.toUInt64 63)).toInt64)) dX6_scramble_27 rfl ?_
  exact r_lret (pc := 28) dX6_scramble_28 rfl ⟨rfl, ht, _, rfl, rfl⟩
set_option maxHeartbeats 4000000 in
set_option maxRecDepth 100000 in
theorem c_X6_fillTiesx {D : va_G} {cI cJ cZ cT : ClassId} {lo b L : Nat} {xs : Nat → Int32} {hp : MH} {n d : Nat} {Γ : TG} {ga : Nat} {gF : Nat} {gT : Nat} {gW : Nat} {gC : Nat} {gTl : Nat} {gHd : Nat} {gBy : Nat} {gOu : Nat} {gIn : Nat} {gJo : Nat} {gn : Nat} {gm : Nat} {gq : Nat} {gdr : Int} {F T W C Tl Hd By Ou In Jo : Nat → Int} {s : Nat} {Ti Co Fr : Nat → Int64} {Nu : Nat → Int} {x2 : Int} (hd0 : 1 ≤ d) (hg : TyG Γ cI cJ cZ ga gF gT gW gC gTl gHd gBy gOu gIn gJo gn gm gq gdr) (hxg : XG Γ cI gF gT gW gC gTl gHd gBy gOu gIn gJo gn gm gq F T W C Tl Hd By Ou In Jo) (hsp : s + 5 ≤ ga ∧ s + 5 ≤ gF ∧ s + 5 ≤ gT ∧ s + 5 ≤ gW ∧ s + 5 ≤ gC ∧ s + 5 ≤ gTl ∧ s + 5 ≤ gHd ∧ s + 5 ≤ gBy ∧ s + 5 ≤ gOu ∧ s + 5 ≤ gIn ∧ s + 5 ≤ gJo) (ht : Tw (SmS Γ cI cJ s Ti Co Fr Nu) hp) (hx2 : 0 ≤ x2 ∧ x2 ≤ 256) (hT0 : ∀ q, Int.toNat x2 ≤ q → q < Int.toNat x2 + 256 → Ti q = 0) : Mt (gG D cI cJ cZ cT lo b L xs) mX6_fillTies d 0 0 [.ref s, .ref ga, .int (iv x2)] hp n (fun r9 hp1 n1 => n1 = n ∧ r9 = none ∧ ∃ Ti1 : Nat → Int64, Tw (SmS Γ cI cJ s Ti1 Co Fr Nu) hp1 ∧ tfI gdr F T W C (Int.toNat x2) Ti Ti1 gm) := by
  refine Mt.of rfl (Nat.le_of_ble_eq_true rfl) ?_
  refine Rn.pick (lv' := [(0, .ref s), (1, .ref ga), (2, .int (iv x2))]) [0, 1, 2] rfl ?_
  have t0 : Tw (ov (ov (ov (ov (ov Γ s (tO 6 (smnR s))) (s + 1) (xJ cJ 512 Ti)) (s + 2) (xJ cJ 544 Co)) (s + 3) (xJ cJ 32 Fr)) (s + 4) (xI cI 16 Nu)) hp := ht
  obtain ⟨hg_O, hg_from, hg_to, hg_weight, hg_cost, hg_tail, hg_head, hg_by, hg_out, hg_in, hg_joined, hg_b⟩ := id hg
  obtain ⟨⟨hxg_F, hxg_T, hxg_W, hxg_C, hxg_Tl, hxg_Hd, hxg_By, hxg_Ou, hxg_In, hxg_Jo⟩, ⟨hrg_F, hrg_T, hrg_W, hrg_C, hrg_Tl, hrg_Hd, hrg_By, hrg_Ou, hrg_In, hrg_Jo⟩, houg⟩ := id hxg
  have hgb := hg_b
  refine r_iconst (pc := 0) (v := iv 0) dX6_fillTies_0 (by decide) ?_
  refine r_istore_n (pc := 1) (lv' := [(3, .int (iv 0)), (0, .ref s), (1, .ref ga), (2, .int (iv x2))]) dX6_fillTies_1 (i := 3) rfl (by decide) rfl ?_
  have B2 : ∀ k : Nat, ∀ Ti2 : Nat → Int64, ∀ hp2 : MH, Tw (ov (ov (ov (ov (ov Γ s (tO 6 (smnR s))) (s + 1) (xJ cJ 512 Ti2)) (s + 2) (xJ cJ 544 Co)) (s + 3) (xJ cJ 32 Fr)) (s + 4) (xI cI 16 Nu)) hp2 → ∀  (v2_3 : Int), 0 ≤ v2_3 ∧ v2_3 ≤ 60 ∧ (v2_3 ≤ (gm : Int)) ∧ (tfI gdr F T W C (Int.toNat x2) Ti Ti2 (Int.toNat v2_3)) → 60 - v2_3 ≤ (k : Int) → Rn (gG D cI cJ cZ cT lo b L xs) mX6_fillTies d 2 [(0, .ref s), (1, .ref ga), (2, .int (iv x2)), (3, .int (iv v2_3))] [] hp2 n 0 0 (fun r9 hp1 n1 => n1 = n ∧ r9 = none ∧ ∃ Ti1 : Nat → Int64, Tw (SmS Γ cI cJ s Ti1 Co Fr Nu) hp1 ∧ tfI gdr F T W C (Int.toNat x2) Ti Ti1 gm) := by
    refine lpS _ ?_
    intro k2 ih2 Ti2 hp2 ht2 v2_3 hf2 hm2
    obtain ⟨hf2_0, hf2_1, hf2_2, ha2_3⟩ := hf2
    refine r_iload_n (pc := 2) dX6_fillTies_2 (i := 3) rfl rfl ?_
    refine r_aload_n (pc := 3) dX6_fillTies_3 (i := 1) rfl rfl ?_
    refine t_getE (pc := 4) (.int (iv (gm : Int))) ht2 (rd_ov (by omega) (rd_ov (by omega) (rd_ov (by omega) (rd_ov (by omega) (rd_ov (by omega) hg_O))))) fX6_35 dX6_fillTies_4 rfl ?_
    refine t_icmp_ge (pc := 7) (tgt := 128) dX6_fillTies_7 (by decide) (by omega) (by omega) (fun c7 => ?_) (fun c7 => ?_)
    · exact r_vret (pc := 128) dX6_fillTies_128 rfl ⟨rfl, rfl, Ti2, ht2, by have h9 := (by assumption : tfI gdr F T W C (Int.toNat x2) Ti Ti2 (Int.toNat v2_3)); rw [show Int.toNat v2_3 = gm by omega] at h9; exact h9⟩
    · refine r_aload_n (pc := 10) dX6_fillTies_10 (i := 1) rfl rfl ?_
      refine t_getE (pc := 11) (.ref gW) ht2 (rd_ov (by omega) (rd_ov (by omega) (rd_ov (by omega) (rd_ov (by omega) (rd_ov (by omega) hg_O))))) fX6_62 dX6_fillTies_11 rfl ?_
      refine r_iload_n (pc := 14) dX6_fillTies_14 (i := 3) rfl rfl ?_
      refine t_ialdX (pc := 15) (t0 := 0) ht2 (rd_ov (by omega) (rd_ov (by omega) (rd_ov (by omega) (rd_ov (by omega) (rd_ov (by omega) hxg_W))))) dX6_fillTies_15 rfl (by omega) (by omega) (fun b1 => ?_)
      have rb1 := (show Rfx gm (-1000) 1000 W by assumption) (Int.toNat v2_3) (by omega)
      refine r_i2l (pc := 16) (v := (iv (W (Int.toNat v2_3))).toInt64) dX6_fillTies_16 rfl ?_
      refine r_ldc2 (pc := 17) (v := 4096) dX6_fillTies_17 kX6_65 ?_
      refine r_lmul (pc := 20) (v := ((iv (W (Int.toNat v2_3))).toInt64) * (4096 : Int64)) dX6_fillTies_20 rfl ?_
      refine r_aload_n (pc := 21) dX6_fillTies_21 (i := 1) rfl rfl ?_
      refine t_getE (pc := 22) (.ref gC) ht2 (rd_ov (by omega) (rd_ov (by omega) (rd_ov (by omega) (rd_ov (by omega) (rd_ov (by omega) hg_O))))) fX6_67 dX6_fillTies_22 rfl ?_
      refine r_iload_n (pc := 25) dX6_fillTies_25 (i := 3) rfl rfl ?_
      refine t_ialdX (pc := 26) (t0 := 0) ht2 (rd_ov (by omega) (rd_ov (by omega) (rd_ov (by omega) (rd_ov (by omega) (rd_ov (by omega) hxg_C))))) dX6_fillTies_26 rfl (by omega) (by omega) (fun b2 => ?_)
      have rb2 := (show Rfx gm (-1000) 1000 C by assumption) (Int.toNat v2_3) (by omega)
      refine r_i2l (pc := 27) (v := (iv (C (Int.toNat v2_3))).toInt64) dX6_fillTies_27 rfl ?_
      refine r_ladd (pc := 28) (v := (((iv (W (Int.toNat v2_3))).toInt64) * (4096 : Int64)) + ((iv (C (Int.toNat v2_3))).toInt64)) dX6_fillTies_28 rfl ?_
      refine r_lconst (pc := 29) (v := 1) dX6_fillTies_29 (by decide) ?_
      refine r_ladd (pc := 30) (v := ((((iv (W (Int.toNat v2_3))).toInt64) * (4096 : Int64)) + ((iv (C (Int.toNat v2_3))).toInt64)) + (1 : Int64)) dX6_fillTies_30 rfl ?_
      refine t_callSJ (pc := 31) (as := [.long (((((iv (W (Int.toNat v2_3))).toInt64) * (4096 : Int64)) + ((iv (C (Int.toNat v2_3))).toInt64)) + (1 : Int64))]) (st := []) kX6_70 dX6_fillTies_31 (c_X6_scramblex (d := d - 1) (j0 := ((((iv (W (Int.toNat v2_3))).toInt64) * (4096 : Int64)) + ((iv (C (Int.toNat v2_3))).toInt64)) + (1 : Int64)) (by omega) ht2) rfl (by omega) (Nat.le_of_ble_eq_true rfl) rfl (fun hp4 y3 ht5 by3 => ?_)
      subst by3
      refine r_lstore (pc := 34) (lv' := [(4, .long (scR (((((iv (W (Int.toNat v2_3))).toInt64) * (4096 : Int64)) + ((iv (C (Int.toNat v2_3))).toInt64)) + (1 : Int64)))), (0, .ref s), (1, .ref ga), (2, .int (iv x2)), (3, .int (iv v2_3))]) dX6_fillTies_34 (by decide) rfl ?_
      refine r_iload_n (pc := 36) dX6_fillTies_36 (i := 2) rfl rfl ?_
      refine r_aload_n (pc := 37) dX6_fillTies_37 (i := 1) rfl rfl ?_
      refine t_getE (pc := 38) (.ref gF) ht5 (rd_ov (by omega) (rd_ov (by omega) (rd_ov (by omega) (rd_ov (by omega) (rd_ov (by omega) hg_O))))) fX6_74 dX6_fillTies_38 rfl ?_
      refine r_iload_n (pc := 41) dX6_fillTies_41 (i := 3) rfl rfl ?_
      refine t_ialdX (pc := 42) (t0 := 0) ht5 (rd_ov (by omega) (rd_ov (by omega) (rd_ov (by omega) (rd_ov (by omega) (rd_ov (by omega) hxg_F))))) dX6_fillTies_42 rfl (by omega) (by omega) (fun b6 => ?_)
      have rb6 := (show Rfx gm 0 ((gn : Int) - 1) F by assumption) (Int.toNat v2_3) (by omega)
      refine r_bipush (pc := 43) (v := iv 16) dX6_fillTies_43 (by decide) ?_
      refine r_imul (pc := 45) (v := iv ((F (Int.toNat v2_3)) * 16)) dX6_fillTies_45 (iv_mul _ _) ?_
      refine r_iadd (pc := 46) (v := iv (x2 + ((F (Int.toNat v2_3)) * 16))) dX6_fillTies_46 (iv_add _ _) ?_
      refine r_aload_n (pc := 47) dX6_fillTies_47 (i := 1) rfl rfl ?_
      refine t_getE (pc := 48) (.ref gT) ht5 (rd_ov (by omega) (rd_ov (by omega) (rd_ov (by omega) (rd_ov (by omega) (rd_ov (by omega) hg_O))))) fX6_77 dX6_fillTies_48 rfl ?_
      refine r_iload_n (pc := 51) dX6_fillTies_51 (i := 3) rfl rfl ?_
      refine t_ialdX (pc := 52) (t0 := 0) ht5 (rd_ov (by omega) (rd_ov (by omega) (rd_ov (by omega) (rd_ov (by omega) (rd_ov (by omega) hxg_T))))) dX6_fillTies_52 rfl (by omega) (by omega) (fun b7 => ?_)
      have rb7 := (show Rfx gm 0 ((gn : Int) - 1) T by assumption) (Int.toNat v2_3) (by omega)
      refine r_iadd (pc := 53) (v := iv ((x2 + ((F (Int.toNat v2_3)) * 16)) + (T (Int.toNat v2_3)))) dX6_fillTies_53 (iv_add _ _) ?_
      refine r_istore (pc := 54) (lv' := [(6, .int (iv ((x2 + ((F (Int.toNat v2_3)) * 16)) + (T (Int.toNat v2_3))))), (4, .long (scR (((((iv (W (Int.toNat v2_3))).toInt64) * (4096 : Int64)) + ((iv (C (Int.toNat v2_3))).toInt64)) + (1 : Int64)))), (0, .ref s), (1, .ref ga), (2, .int (iv x2)), (3, .int (iv v2_3))]) dX6_fillTies_54 (by decide) rfl ?_
      refine r_iload_n (pc := 56) dX6_fillTies_56 (i := 2) rfl rfl ?_
      refine r_aload_n (pc := 57) dX6_fillTies_57 (i := 1) rfl rfl ?_
      refine t_getE (pc := 58) (.ref gT) ht5 (rd_ov (by omega) (rd_ov (by omega) (rd_ov (by omega) (rd_ov (by omega) (rd_ov (by omega) hg_O))))) fX6_77 dX6_fillTies_58 rfl ?_
      refine r_iload_n (pc := 61) dX6_fillTies_61 (i := 3) rfl rfl ?_
      refine t_ialdX (pc := 62) (t0 := 0) ht5 (rd_ov (by omega) (rd_ov (by omega) (rd_ov (by omega) (rd_ov (by omega) (rd_ov (by omega) hxg_T))))) dX6_fillTies_62 rfl (by omega) (by omega) (fun b8 => ?_)
      have rb8 := (show Rfx gm 0 ((gn : Int) - 1) T by assumption) (Int.toNat v2_3) (by omega)
      refine r_bipush (pc := 63) (v := iv 16) dX6_fillTies_63 (by decide) ?_
      refine r_imul (pc := 65) (v := iv ((T (Int.toNat v2_3)) * 16)) dX6_fillTies_65 (iv_mul _ _) ?_
      refine r_iadd (pc := 66) (v := iv (x2 + ((T (Int.toNat v2_3)) * 16))) dX6_fillTies_66 (iv_add _ _) ?_
      refine r_aload_n (pc := 67) dX6_fillTies_67 (i := 1) rfl rfl ?_
      refine t_getE (pc := 68) (.ref gF) ht5 (rd_ov (by omega) (rd_ov (by omega) (rd_ov (by omega) (rd_ov (by omega) (rd_ov (by omega) hg_O))))) fX6_74 dX6_fillTies_68 rfl ?_
      refine r_iload_n (pc := 71) dX6_fillTies_71 (i := 3) rfl rfl ?_
      refine t_ialdX (pc := 72) (t0 := 0) ht5 (rd_ov (by omega) (rd_ov (by omega) (rd_ov (by omega) (rd_ov (by omega) (rd_ov (by omega) hxg_F))))) dX6_fillTies_72 rfl (by omega) (by omega) (fun b9 => ?_)
      have rb9 := (show Rfx gm 0 ((gn : Int) - 1) F by assumption) (Int.toNat v2_3) (by omega)
      refine r_iadd (pc := 73) (v := iv ((x2 + ((T (Int.toNat v2_3)) * 16)) + (F (Int.toNat v2_3)))) dX6_fillTies_73 (iv_add _ _) ?_
      refine r_istore (pc := 74) (lv' := [(7, .int (iv ((x2 + ((T (Int.toNat v2_3)) * 16)) + (F (Int.toNat v2_3))))), (6, .int (iv ((x2 + ((F (Int.toNat v2_3)) * 16)) + (T (Int.toNat v2_3))))), (4, .long (scR (((((iv (W (Int.toNat v2_3))).toInt64) * (4096 : Int64)) + ((iv (C (Int.toNat v2_3))).toInt64)) + (1 : Int64)))), (0, .ref s), (1, .ref ga), (2, .int (iv x2)), (3, .int (iv v2_3))]) dX6_fillTies_74 (by decide) rfl ?_
      refine r_aload_n (pc := 76) dX6_fillTies_76 (i := 0) rfl rfl ?_
      refine t_getE (pc := 77) (.ref (s + 1)) ht5 (rd_ov (by omega) (rd_ov (by omega) (rd_ov (by omega) (rd_ov (by omega) (rd_of (ov_s _ _ _)))))) fX6_9 dX6_fillTies_77 rfl ?_
      refine r_iload (pc := 80) dX6_fillTies_80 rfl ?_
      refine r_dup2_11 (pc := 82) dX6_fillTies_82 rfl rfl ?_
      refine t_laldX (pc := 83) (t0 := 1) ht5 (rd_ov (by omega) (rd_ov (by omega) (rd_ov (by omega) (rd_of (ov_s _ _ _))))) dX6_fillTies_83 rfl (by decide) (by omega) ?_
      refine r_lload (pc := 84) dX6_fillTies_84 rfl ?_
      refine r_ladd (pc := 86) (v := (Ti2 (Int.toNat ((x2 + ((F (Int.toNat v2_3)) * 16)) + (T (Int.toNat v2_3))))) + (scR (((((iv (W (Int.toNat v2_3))).toInt64) * (4096 : Int64)) + ((iv (C (Int.toNat v2_3))).toInt64)) + (1 : Int64)))) dX6_fillTies_86 rfl ?_
      refine t_lastX (pc := 87) (t0 := 1) ht5 (eq_ov (by omega) (eq_ov (by omega) (eq_ov (by omega) (ov_s _ _ _)))) dX6_fillTies_87 rfl (by decide) (by omega) (fun hp10 ht11 => ?_)
      rw [ov_in4 (by omega) (by omega) (by omega) ] at ht11
      refine r_iload (pc := 88) dX6_fillTies_88 rfl ?_
      refine r_iload (pc := 90) dX6_fillTies_90 rfl ?_
      refine t_icmp_eq (pc := 92) (tgt := 122) dX6_fillTies_92 (by decide) (by omega) (by omega) (fun c92 => ?_) (fun c92 => ?_)
      · have htf : tfI gdr F T W C (Int.toNat x2) Ti (fuj Ti2 (Int.toNat ((x2 + ((F (Int.toNat v2_3)) * 16)) + (T (Int.toNat v2_3)))) ((Ti2 (Int.toNat ((x2 + ((F (Int.toNat v2_3)) * 16)) + (T (Int.toNat v2_3))))) + (scR (((((iv (W (Int.toNat v2_3))).toInt64) * (4096 : Int64)) + ((iv (C (Int.toNat v2_3))).toInt64)) + (1 : Int64))))) (Int.toNat (v2_3 + 1)) := by
          rw [show Int.toNat (v2_3 + 1) = (Int.toNat v2_3) + 1 by omega]
          exact tf_eq (k := (Int.toNat v2_3)) (Ti := Ti2) (by assumption : tfI gdr F T W C (Int.toNat x2) Ti Ti2 (Int.toNat v2_3)) (by omega) (by omega) (by omega) (by omega)
        refine r_iinc (pc := 122) (v := iv (v2_3 + 1)) (lv' := [(3, .int (iv (v2_3 + 1))), (7, .int (iv ((x2 + ((T (Int.toNat v2_3)) * 16)) + (F (Int.toNat v2_3))))), (6, .int (iv ((x2 + ((F (Int.toNat v2_3)) * 16)) + (T (Int.toNat v2_3))))), (4, .long (scR (((((iv (W (Int.toNat v2_3))).toInt64) * (4096 : Int64)) + ((iv (C (Int.toNat v2_3))).toInt64)) + (1 : Int64)))), (0, .ref s), (1, .ref ga), (2, .int (iv x2))]) dX6_fillTies_122 rfl (iv_add _ _) (by decide) rfl ?_
        refine r_goto (pc := 125) (tgt := 2) dX6_fillTies_125 (by decide) ?_
        refine Rn.pick (lv' := [(0, .ref s), (1, .ref ga), (2, .int (iv x2)), (3, .int (iv (v2_3 + 1)))]) [4, 5, 6, 0] rfl ?_
        exact ih2 (Int.toNat (60 - (v2_3 + 1))) (by omega) (fuj Ti2 (Int.toNat ((x2 + ((F (Int.toNat v2_3)) * 16)) + (T (Int.toNat v2_3)))) ((Ti2 (Int.toNat ((x2 + ((F (Int.toNat v2_3)) * 16)) + (T (Int.toNat v2_3))))) + (scR (((((iv (W (Int.toNat v2_3))).toInt64) * (4096 : Int64)) + ((iv (C (Int.toNat v2_3))).toInt64)) + (1 : Int64))))) _ ht11 (v2_3 + 1) ⟨by omega, by omega, by omega, by (first | exact htf | exact tf_0 hT0)⟩ (by omega)
      · refine r_aload_n (pc := 95) dX6_fillTies_95 (i := 0) rfl rfl ?_
        refine t_getE (pc := 96) (.ref (s + 1)) ht11 (rd_ov (by omega) (rd_ov (by omega) (rd_ov (by omega) (rd_ov (by omega) (rd_of (ov_s _ _ _)))))) fX6_9 dX6_fillTies_96 rfl ?_
        refine r_iload (pc := 99) dX6_fillTies_99 rfl ?_
        refine r_dup2_11 (pc := 101) dX6_fillTies_101 rfl rfl ?_
        refine t_laldX (pc := 102) (t0 := 1) ht11 (rd_ov (by omega) (rd_ov (by omega) (rd_ov (by omega) (rd_of (ov_s _ _ _))))) dX6_fillTies_102 rfl (by decide) (by omega) ?_
        refine r_aload_n (pc := 103) dX6_fillTies_103 (i := 1) rfl rfl ?_
        refine t_getE (pc := 104) (.int (iv gdr)) ht11 (rd_ov (by omega) (rd_ov (by omega) (rd_ov (by omega) (rd_ov (by omega) (rd_ov (by omega) hg_O))))) fX6_31 dX6_fillTies_104 rfl ?_
        refine t_if_eq (pc := 107) (tgt := 118) dX6_fillTies_107 (by decide) (by omega) (fun c107 => ?_) (fun c107 => ?_)
        · refine r_lload (pc := 118) dX6_fillTies_118 rfl ?_
          refine r_ladd (pc := 120) (v := ((fuj Ti2 (Int.toNat ((x2 + ((F (Int.toNat v2_3)) * 16)) + (T (Int.toNat v2_3)))) ((Ti2 (Int.toNat ((x2 + ((F (Int.toNat v2_3)) * 16)) + (T (Int.toNat v2_3))))) + (scR (((((iv (W (Int.toNat v2_3))).toInt64) * (4096 : Int64)) + ((iv (C (Int.toNat v2_3))).toInt64)) + (1 : Int64))))) (Int.toNat ((x2 + ((T (Int.toNat v2_3)) * 16)) + (F (Int.toNat v2_3))))) + (scR (((((iv (W (Int.toNat v2_3))).toInt64) * (4096 : Int64)) + ((iv (C (Int.toNat v2_3))).toInt64)) + (1 : Int64)))) dX6_fillTies_120 rfl ?_
          refine t_lastX (pc := 121) (t0 := 1) ht11 (eq_ov (by omega) (eq_ov (by omega) (eq_ov (by omega) (ov_s _ _ _)))) dX6_fillTies_121 rfl (by decide) (by omega) (fun hp12 ht13 => ?_)
          rw [ov_in4 (by omega) (by omega) (by omega) ] at ht13
          have htf : tfI gdr F T W C (Int.toNat x2) Ti (fuj (fuj Ti2 (Int.toNat ((x2 + ((F (Int.toNat v2_3)) * 16)) + (T (Int.toNat v2_3)))) ((Ti2 (Int.toNat ((x2 + ((F (Int.toNat v2_3)) * 16)) + (T (Int.toNat v2_3))))) + (scR (((((iv (W (Int.toNat v2_3))).toInt64) * (4096 : Int64)) + ((iv (C (Int.toNat v2_3))).toInt64)) + (1 : Int64))))) (Int.toNat ((x2 + ((T (Int.toNat v2_3)) * 16)) + (F (Int.toNat v2_3)))) (((fuj Ti2 (Int.toNat ((x2 + ((F (Int.toNat v2_3)) * 16)) + (T (Int.toNat v2_3)))) ((Ti2 (Int.toNat ((x2 + ((F (Int.toNat v2_3)) * 16)) + (T (Int.toNat v2_3))))) + (scR (((((iv (W (Int.toNat v2_3))).toInt64) * (4096 : Int64)) + ((iv (C (Int.toNat v2_3))).toInt64)) + (1 : Int64))))) (Int.toNat ((x2 + ((T (Int.toNat v2_3)) * 16)) + (F (Int.toNat v2_3))))) + (scR (((((iv (W (Int.toNat v2_3))).toInt64) * (4096 : Int64)) + ((iv (C (Int.toNat v2_3))).toInt64)) + (1 : Int64))))) (Int.toNat (v2_3 + 1)) := by
            rw [show Int.toNat (v2_3 + 1) = (Int.toNat v2_3) + 1 by omega]
            exact tf_ne (k := (Int.toNat v2_3)) (Ti := Ti2) (by assumption : tfI gdr F T W C (Int.toNat x2) Ti Ti2 (Int.toNat v2_3)) (by omega) (by omega) (by omega) (by omega) (by omega) (by rw [kr_0 (by omega)]; first | done | rfl)
          refine r_iinc (pc := 122) (v := iv (v2_3 + 1)) (lv' := [(3, .int (iv (v2_3 + 1))), (7, .int (iv ((x2 + ((T (Int.toNat v2_3)) * 16)) + (F (Int.toNat v2_3))))), (6, .int (iv ((x2 + ((F (Int.toNat v2_3)) * 16)) + (T (Int.toNat v2_3))))), (4, .long (scR (((((iv (W (Int.toNat v2_3))).toInt64) * (4096 : Int64)) + ((iv (C (Int.toNat v2_3))).toInt64)) + (1 : Int64)))), (0, .ref s), (1, .ref ga), (2, .int (iv x2))]) dX6_fillTies_122 rfl (iv_add _ _) (by decide) rfl ?_
          refine r_goto (pc := 125) (tgt := 2) dX6_fillTies_125 (by decide) ?_
          refine Rn.pick (lv' := [(0, .ref s), (1, .ref ga), (2, .int (iv x2)), (3, .int (iv (v2_3 + 1)))]) [4, 5, 6, 0] rfl ?_
          exact ih2 (Int.toNat (60 - (v2_3 + 1))) (by omega) (fuj (fuj Ti2 (Int.toNat ((x2 + ((F (Int.toNat v2_3)) * 16)) + (T (Int.toNat v2_3)))) ((Ti2 (Int.toNat ((x2 + ((F (Int.toNat v2_3)) * 16)) + (T (Int.toNat v2_3))))) + (scR (((((iv (W (Int.toNat v2_3))).toInt64) * (4096 : Int64)) + ((iv (C (Int.toNat v2_3))).toInt64)) + (1 : Int64))))) (Int.toNat ((x2 + ((T (Int.toNat v2_3)) * 16)) + (F (Int.toNat v2_3)))) (((fuj Ti2 (Int.toNat ((x2 + ((F (Int.toNat v2_3)) * 16)) + (T (Int.toNat v2_3)))) ((Ti2 (Int.toNat ((x2 + ((F (Int.toNat v2_3)) * 16)) + (T (Int.toNat v2_3))))) + (scR (((((iv (W (Int.toNat v2_3))).toInt64) * (4096 : Int64)) + ((iv (C (Int.toNat v2_3))).toInt64)) + (1 : Int64))))) (Int.toNat ((x2 + ((T (Int.toNat v2_3)) * 16)) + (F (Int.toNat v2_3))))) + (scR (((((iv (W (Int.toNat v2_3))).toInt64) * (4096 : Int64)) + ((iv (C (Int.toNat v2_3))).toInt64)) + (1 : Int64))))) _ ht13 (v2_3 + 1) ⟨by omega, by omega, by omega, by (first | exact htf | exact tf_0 hT0)⟩ (by omega)
        · refine r_lload (pc := 110) dX6_fillTies_110 rfl ?_
          refine t_callSJ (pc := 112) (as := [.long (scR (((((iv (W (Int.toNat v2_3))).toInt64) * (4096 : Int64)) + ((iv (C (Int.toNat v2_3))).toInt64)) + (1 : Int64)))]) (st := [.long ((fuj Ti2 (Int.toNat ((x2 + ((F (Int.toNat v2_3)) * 16)) + (T (Int.toNat v2_3)))) ((Ti2 (Int.toNat ((x2 + ((F (Int.toNat v2_3)) * 16)) + (T (Int.toNat v2_3))))) + (scR (((((iv (W (Int.toNat v2_3))).toInt64) * (4096 : Int64)) + ((iv (C (Int.toNat v2_3))).toInt64)) + (1 : Int64))))) (Int.toNat ((x2 + ((T (Int.toNat v2_3)) * 16)) + (F (Int.toNat v2_3))))), .int (iv ((x2 + ((T (Int.toNat v2_3)) * 16)) + (F (Int.toNat v2_3)))), .ref (s + 1)]) kX6_70 dX6_fillTies_112 (c_X6_scramblex (d := d - 1) (j0 := scR (((((iv (W (Int.toNat v2_3))).toInt64) * (4096 : Int64)) + ((iv (C (Int.toNat v2_3))).toInt64)) + (1 : Int64))) (by omega) ht11) rfl (by omega) (Nat.le_of_ble_eq_true rfl) rfl (fun hp15 y14 ht16 by14 => ?_)
          subst by14
          refine r_goto (pc := 115) (tgt := 120) dX6_fillTies_115 (by decide) ?_
          refine r_ladd (pc := 120) (v := ((fuj Ti2 (Int.toNat ((x2 + ((F (Int.toNat v2_3)) * 16)) + (T (Int.toNat v2_3)))) ((Ti2 (Int.toNat ((x2 + ((F (Int.toNat v2_3)) * 16)) + (T (Int.toNat v2_3))))) + (scR (((((iv (W (Int.toNat v2_3))).toInt64) * (4096 : Int64)) + ((iv (C (Int.toNat v2_3))).toInt64)) + (1 : Int64))))) (Int.toNat ((x2 + ((T (Int.toNat v2_3)) * 16)) + (F (Int.toNat v2_3))))) + (scR (scR (((((iv (W (Int.toNat v2_3))).toInt64) * (4096 : Int64)) + ((iv (C (Int.toNat v2_3))).toInt64)) + (1 : Int64))))) dX6_fillTies_120 rfl ?_
          refine t_lastX (pc := 121) (t0 := 1) ht16 (eq_ov (by omega) (eq_ov (by omega) (eq_ov (by omega) (ov_s _ _ _)))) dX6_fillTies_121 rfl (by decide) (by omega) (fun hp17 ht18 => ?_)
          rw [ov_in4 (by omega) (by omega) (by omega) ] at ht18
          have htf : tfI gdr F T W C (Int.toNat x2) Ti (fuj (fuj Ti2 (Int.toNat ((x2 + ((F (Int.toNat v2_3)) * 16)) + (T (Int.toNat v2_3)))) ((Ti2 (Int.toNat ((x2 + ((F (Int.toNat v2_3)) * 16)) + (T (Int.toNat v2_3))))) + (scR (((((iv (W (Int.toNat v2_3))).toInt64) * (4096 : Int64)) + ((iv (C (Int.toNat v2_3))).toInt64)) + (1 : Int64))))) (Int.toNat ((x2 + ((T (Int.toNat v2_3)) * 16)) + (F (Int.toNat v2_3)))) (((fuj Ti2 (Int.toNat ((x2 + ((F (Int.toNat v2_3)) * 16)) + (T (Int.toNat v2_3)))) ((Ti2 (Int.toNat ((x2 + ((F (Int.toNat v2_3)) * 16)) + (T (Int.toNat v2_3))))) + (scR (((((iv (W (Int.toNat v2_3))).toInt64) * (4096 : Int64)) + ((iv (C (Int.toNat v2_3))).toInt64)) + (1 : Int64))))) (Int.toNat ((x2 + ((T (Int.toNat v2_3)) * 16)) + (F (Int.toNat v2_3))))) + (scR (scR (((((iv (W (Int.toNat v2_3))).toInt64) * (4096 : Int64)) + ((iv (C (Int.toNat v2_3))).toInt64)) + (1 : Int64)))))) (Int.toNat (v2_3 + 1)) := by
            rw [show Int.toNat (v2_3 + 1) = (Int.toNat v2_3) + 1 by omega]
            exact tf_ne (k := (Int.toNat v2_3)) (Ti := Ti2) (by assumption : tfI gdr F T W C (Int.toNat x2) Ti Ti2 (Int.toNat v2_3)) (by omega) (by omega) (by omega) (by omega) (by omega) (by rw [kr_1 (by omega)]; first | done | rfl)
          refine r_iinc (pc := 122) (v := iv (v2_3 + 1)) (lv' := [(3, .int (iv (v2_3 + 1))), (7, .int (iv ((x2 + ((T (Int.toNat v2_3)) * 16)) + (F (Int.toNat v2_3))))), (6, .int (iv ((x2 + ((F (Int.toNat v2_3)) * 16)) + (T (Int.toNat v2_3))))), (4, .long (scR (((((iv (W (Int.toNat v2_3))).toInt64) * (4096 : Int64)) + ((iv (C (Int.toNat v2_3))).toInt64)) + (1 : Int64)))), (0, .ref s), (1, .ref ga), (2, .int (iv x2))]) dX6_fillTies_122 rfl (iv_add _ _) (by decide) rfl ?_
          refine r_goto (pc := 125) (tgt := 2) dX6_fillTies_125 (by decide) ?_
          refine Rn.pick (lv' := [(0, .ref s), (1, .ref ga), (2, .int (iv x2)), (3, .int (iv (v2_3 + 1)))]) [4, 5, 6, 0] rfl ?_
          exact ih2 (Int.toNat (60 - (v2_3 + 1))) (by omega) (fuj (fuj Ti2 (Int.toNat ((x2 + ((F (Int.toNat v2_3)) * 16)) + (T (Int.toNat v2_3)))) ((Ti2 (Int.toNat ((x2 + ((F (Int.toNat v2_3)) * 16)) + (T (Int.toNat v2_3))))) + (scR (((((iv (W (Int.toNat v2_3))).toInt64) * (4096 : Int64)) + ((iv (C (Int.toNat v2_3))).toInt64)) + (1 : Int64))))) (Int.toNat ((x2 + ((T (Int.toNat v2_3)) * 16)) + (F (Int.toNat v2_3)))) (((fuj Ti2 (Int.toNat ((x2 + ((F (Int.toNat v2_3)) * 16)) + (T (Int.toNat v2_3)))) ((Ti2 (Int.toNat ((x2 + ((F (Int.toNat v2_3)) * 16)) + (T (Int.toNat v2_3))))) + (scR (((((iv (W (Int.toNat v2_3))).toInt64) * (4096 : Int64)) + ((iv (C (Int.toNat v2_3))).toInt64)) + (1 : Int64))))) (Int.toNat ((x2 + ((T (Int.toNat v2_3)) * 16)) + (F (Int.toNat v2_3))))) + (scR (scR (((((iv (W (Int.toNat v2_3))).toInt64) * (4096 : Int64)) + ((iv (C (Int.toNat v2_3))).toInt64)) + (1 : Int64)))))) _ ht18 (v2_3 + 1) ⟨by omega, by omega, by omega, by (first | exact htf | exact tf_0 hT0)⟩ (by omega)
  refine Rn.pick (lv' := [(0, .ref s), (1, .ref ga), (2, .int (iv x2)), (3, .int (iv 0))]) [1, 2, 3, 0] rfl ?_
  exact B2 (Int.toNat (60 - 0)) Ti _ t0 0 ⟨by omega, by omega, by omega, by (first | exact htf | exact tf_0 hT0)⟩ (by omega)
