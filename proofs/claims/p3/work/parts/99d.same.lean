def TySame (Γ : TG) (cI cJ cZ : ClassId) (s : Nat) (o1 : Nat) (o2 : Nat) : Prop := rd Γ s (tO 6 [fE (.ref o1), fE (.ref o2), fE (.ref (s + 1)), fE (.ref (s + 2)), fE (.ref (s + 3)), fE (.ref (s + 4))]) ∧ Γ (s + 1) = some (tJ cJ 512 anyJ) ∧ Γ (s + 2) = some (tJ cJ 544 anyJ) ∧ Γ (s + 3) = some (tJ cJ 32 anyJ) ∧ Γ (s + 4) = some (tI cI 16 (rg 0 15))
theorem TySame.ext {Γ Γ1 : TG} {cI cJ cZ : ClassId} {s : Nat} {o1 : Nat} {o2 : Nat} (hE : Ext Γ Γ1) (h : TySame Γ cI cJ cZ s o1 o2) : TySame Γ1 cI cJ cZ s o1 o2 := ⟨rd_ext hE h.1, hE _ _ h.2.1, hE _ _ h.2.2.1, hE _ _ h.2.2.2.1, hE _ _ h.2.2.2.2⟩
set_option maxHeartbeats 4000000 in
set_option maxRecDepth 100000 in
theorem t_X6_scramble {D : va_G} {cI cJ cZ cT : ClassId} {lo b L : Nat} {xs : Nat → Int32} {hp : MH} {n d : Nat} {Γ : TG}  {j0 : Int64} (hd0 : 0 ≤ d)  (ht : Tw Γ hp)  : Mt (gG D cI cJ cZ cT lo b L xs) mX6_scramble d 0 0 [.long j0] hp n (pJ Γ n yes64) := by
  refine Mt.of rfl (Nat.le_of_ble_eq_true rfl) ?_
  refine Rn.pick (lv' := [(0, .long j0)]) [0] rfl ?_
  refine r_lload_n (pc := 0) dX6_scramble_0 (i := 0) rfl rfl ?_
  refine r_lload_n (pc := 1) dX6_scramble_1 (i := 0) rfl rfl ?_
  refine r_bipush (pc := 2) (v := iv 31) dX6_scramble_2 (by decide) ?_
  refine r_lushr (pc := 4) dX6_scramble_4 ?_
  refine r_lxor (pc := 5) (v := j0 ^^^ ((j0.toUInt64 >>> ((iv 31).toInt64.toUInt64 &&& Int64.toUInt64 63)).toInt64)) dX6_scramble_5 rfl ?_
  refine r_ldc2 (pc := 6) (v := (-7046029254386353131)) dX6_scramble_6 kX6_67 ?_
  refine r_lmul (pc := 9) (v := (j0 ^^^ ((j0.toUInt64 >>> ((iv 31).toInt64.toUInt64 &&& Int64.toUInt64 63)).toInt64)) * ((-7046029254386353131) : Int64)) dX6_scramble_9 rfl ?_
  refine r_lstore_n (pc := 10) (lv' := [(2, .long ((j0 ^^^ ((j0.toUInt64 >>> ((iv 31).toInt64.toUInt64 &&& Int64.toUInt64 63)).toInt64)) * ((-7046029254386353131) : Int64))), (0, .long j0)]) dX6_scramble_10 (i := 2) rfl (by decide) rfl ?_
  refine r_lload_n (pc := 11) dX6_scramble_11 (i := 2) rfl rfl ?_
  refine r_lload_n (pc := 12) dX6_scramble_12 (i := 2) rfl rfl ?_
  refine r_bipush (pc := 13) (v := iv 29) dX6_scramble_13 (by decide) ?_
  refine r_lushr (pc := 15) dX6_scramble_15 ?_
  refine r_lxor (pc := 16) (v := ((j0 ^^^ ((j0.toUInt64 >>> ((iv 31).toInt64.toUInt64 &&& Int64.toUInt64 63)).toInt64)) * ((-7046029254386353131) : Int64)) ^^^ ((((j0 ^^^ ((j0.toUInt64 >>> ((iv 31).toInt64.toUInt64 &&& Int64.toUInt64 63)).toInt64)) * ((-7046029254386353131) : Int64)).toUInt64 >>> ((iv 29).toInt64.toUInt64 &&& Int64.toUInt64 63)).toInt64)) dX6_scramble_16 rfl ?_
  refine r_ldc2 (pc := 17) (v := (-7046029254386353131)) dX6_scramble_17 kX6_67 ?_
  refine r_lmul (pc := 20) (v := (((j0 ^^^ ((j0.toUInt64 >>> ((iv 31).toInt64.toUInt64 &&& Int64.toUInt64 63)).toInt64)) * ((-7046029254386353131) : Int64)) ^^^ ((((j0 ^^^ ((j0.toUInt64 >>> ((iv 31).toInt64.toUInt64 &&& Int64.toUInt64 63)).toInt64)) * ((-7046029254386353131) : Int64)).toUInt64 >>> ((iv 29).toInt64.toUInt64 &&& Int64.toUInt64 63)).toInt64)) * ((-7046029254386353131) : Int64)) dX6_scramble_20 rfl ?_
  refine r_lstore_n (pc := 21) (lv' := [(2, .long ((((j0 ^^^ ((j0.toUInt64 >>> ((iv 31).toInt64.toUInt64 &&& Int64.toUInt64 63)).toInt64)) * ((-7046029254386353131) : Int64)) ^^^ ((((j0 ^^^ ((j0.toUInt64 >>> ((iv 31).toInt64.toUInt64 &&& Int64.toUInt64 63)).toInt64)) * ((-7046029254386353131) : Int64)).toUInt64 >>> ((iv 29).toInt64.toUInt64 &&& Int64.toUInt64 63)).toInt64)) * ((-7046029254386353131) : Int64))), (0, .long j0)]) dX6_scramble_21 (i := 2) rfl (by decide) rfl ?_
  refine r_lload_n (pc := 22) dX6_scramble_22 (i := 2) rfl rfl ?_
  refine r_lload_n (pc := 23) dX6_scramble_23 (i := 2) rfl rfl ?_
  refine r_bipush (pc := 24) (v := iv 32) dX6_scramble_24 (by decide) ?_
  refine r_lushr (pc := 26) dX6_scramble_26 ?_
  refine r_lxor (pc := 27) (v := ((((j0 ^^^ ((j0.toUInt64 >>> ((iv 31).toInt64.toUInt64 &&& Int64.toUInt64 63)).toInt64)) * ((-7046029254386353131) : Int64)) ^^^ ((((j0 ^^^ ((j0.toUInt64 >>> ((iv 31).toInt64.toUInt64 &&& Int64.toUInt64 63)).toInt64)) * ((-7046029254386353131) : Int64)).toUInt64 >>> ((iv 29).toInt64.toUInt64 &&& Int64.toUInt64 63)).toInt64)) * ((-7046029254386353131) : Int64)) ^^^ ((((((j0 ^^^ ((j0.toUInt64 >>> ((iv 31).toInt64.toUInt64 &&& Int64.toUInt64 63)).toInt64)) * ((-7046029254386353131) : Int64)) ^^^ ((((j0 ^^^ ((j0.toUInt64 >>> ((iv 31).toInt64.toUInt64 &&& Int64.toUInt64 63)).toInt64)) * ((-7046029254386353131) : Int64)).toUInt64 >>> ((iv 29).toInt64.toUInt64 &&& Int64.toUInt64 63)).toInt64)) * ((-7046029254386353131) : Int64)).toUInt64 >>> ((iv 32).toInt64.toUInt64 &&& Int64.toUInt64 63)).toInt64)) dX6_scramble_27 rfl ?_
  exact r_lret (pc := 28) dX6_scramble_28 rfl ⟨rfl, ht, _, rfl, trivial⟩
set_option maxHeartbeats 4000000 in
set_option maxRecDepth 100000 in
theorem t_X6_newNumber {D : va_G} {cI cJ cZ cT : ClassId} {lo b L : Nat} {xs : Nat → Int32} {hp : MH} {n d : Nat} {Γ : TG} {ss : Nat} {so1 : Nat} {so2 : Nat} {x1 : Int} (hd0 : 0 ≤ d) (hs : TySame Γ cI cJ cZ ss so1 so2) (ht : Tw Γ hp) (hx1 : 0 ≤ x1 ∧ x1 ≤ 15) : Mt (gG D cI cJ cZ cT lo b L xs) mX6_newNumber d 0 0 [.ref ss, .int (iv x1)] hp n (pR Γ n 0 15) := by
  obtain ⟨hs_O, hs_ties, hs_colours, hs_fresh, hs_numbering⟩ := id hs
  refine Mt.of rfl (Nat.le_of_ble_eq_true rfl) ?_
  refine Rn.pick (lv' := [(0, .ref ss), (1, .int (iv x1))]) [0, 1] rfl ?_
  refine r_aload_n (pc := 0) dX6_newNumber_0 (i := 0) rfl rfl ?_
  refine t_getE (pc := 1) (.ref (ss + 4)) ht hs_O fX6_21 dX6_newNumber_1 rfl ?_
  refine r_iload_n (pc := 4) dX6_newNumber_4 (i := 1) rfl rfl ?_
  refine t_ialdR (pc := 5) (t0 := 0) ht (rd_of hs_numbering) dX6_newNumber_5 rfl (by decide) (by omega) (fun y1 by1 => ?_)
  exact r_iret (pc := 6) dX6_newNumber_6 rfl ⟨rfl, ht, _, rfl, by omega, by omega⟩
set_option maxHeartbeats 4000000 in
set_option maxRecDepth 100000 in
theorem t_X6_fillTies {D : va_G} {cI cJ cZ cT : ClassId} {lo b L : Nat} {xs : Nat → Int32} {hp : MH} {n d : Nat} {Γ : TG} {ss : Nat} {so1 : Nat} {so2 : Nat} {ga : Nat} {gF : Nat} {gT : Nat} {gW : Nat} {gC : Nat} {gTl : Nat} {gHd : Nat} {gBy : Nat} {gOu : Nat} {gIn : Nat} {gJo : Nat} {gn : Nat} {gm : Nat} {gq : Nat} {gdr : Int} {x2 : Int} (hd0 : 1 ≤ d) (hs : TySame Γ cI cJ cZ ss so1 so2) (hg : TyG Γ cI cJ cZ ga gF gT gW gC gTl gHd gBy gOu gIn gJo gn gm gq gdr) (ht : Tw Γ hp) (hx2 : 0 ≤ x2 ∧ x2 ≤ 256) : Mt (gG D cI cJ cZ cT lo b L xs) mX6_fillTies d 0 0 [.ref ss, .ref ga, .int (iv x2)] hp n (pV Γ n) := by
  obtain ⟨hs_O, hs_ties, hs_colours, hs_fresh, hs_numbering⟩ := id hs
  obtain ⟨hg_O, hg_from, hg_to, hg_weight, hg_cost, hg_tail, hg_head, hg_by, hg_out, hg_in, hg_joined, hg_b⟩ := id hg
  refine Mt.of rfl (Nat.le_of_ble_eq_true rfl) ?_
  refine Rn.pick (lv' := [(0, .ref ss), (1, .ref ga), (2, .int (iv x2))]) [0, 1, 2] rfl ?_
  refine r_iconst (pc := 0) (v := iv 0) dX6_fillTies_0 (by decide) ?_
  refine r_istore_n (pc := 1) (lv' := [(3, .int (iv 0)), (0, .ref ss), (1, .ref ga), (2, .int (iv x2))]) dX6_fillTies_1 (i := 3) rfl (by decide) rfl ?_
  have B2 : ∀ k : Nat, ∀ hp2 : MH, Tw Γ hp2 → ∀  (v2_3 : Int), 0 ≤ v2_3 ∧ v2_3 ≤ 60 → 60 - v2_3 ≤ (k : Int) → Rn (gG D cI cJ cZ cT lo b L xs) mX6_fillTies d 2 [(0, .ref ss), (1, .ref ga), (2, .int (iv x2)), (3, .int (iv v2_3))] [] hp2 n 0 0 (pV Γ n) := by
    refine lpS _ ?_
    intro k2 ih2 hp2 ht2 v2_3 hf2 hm2
    refine r_iload_n (pc := 2) dX6_fillTies_2 (i := 3) rfl rfl ?_
    refine r_aload_n (pc := 3) dX6_fillTies_3 (i := 1) rfl rfl ?_
    refine t_getE (pc := 4) (.int (iv (gm : Int))) ht2 hg_O fX6_35 dX6_fillTies_4 rfl ?_
    refine t_icmp_ge (pc := 7) (tgt := 128) dX6_fillTies_7 (by decide) (by omega) (by omega) (fun c7 => ?_) (fun c7 => ?_)
    · exact r_vret (pc := 128) dX6_fillTies_128 rfl ⟨rfl, ht2, rfl⟩
    · refine r_aload_n (pc := 10) dX6_fillTies_10 (i := 1) rfl rfl ?_
      refine t_getE (pc := 11) (.ref gW) ht2 hg_O fX6_69 dX6_fillTies_11 rfl ?_
      refine r_iload_n (pc := 14) dX6_fillTies_14 (i := 3) rfl rfl ?_
      refine t_ialdR (pc := 15) (t0 := 0) ht2 hg_weight dX6_fillTies_15 rfl (by omega) (by omega) (fun y1 by1 => ?_)
      refine r_i2l (pc := 16) (v := (iv y1).toInt64) dX6_fillTies_16 rfl ?_
      refine r_ldc2 (pc := 17) (v := 4096) dX6_fillTies_17 kX6_72 ?_
      refine r_lmul (pc := 20) (v := ((iv y1).toInt64) * (4096 : Int64)) dX6_fillTies_20 rfl ?_
      refine r_aload_n (pc := 21) dX6_fillTies_21 (i := 1) rfl rfl ?_
      refine t_getE (pc := 22) (.ref gC) ht2 hg_O fX6_74 dX6_fillTies_22 rfl ?_
      refine r_iload_n (pc := 25) dX6_fillTies_25 (i := 3) rfl rfl ?_
      refine t_ialdR (pc := 26) (t0 := 0) ht2 hg_cost dX6_fillTies_26 rfl (by omega) (by omega) (fun y2 by2 => ?_)
      refine r_i2l (pc := 27) (v := (iv y2).toInt64) dX6_fillTies_27 rfl ?_
      refine r_ladd (pc := 28) (v := (((iv y1).toInt64) * (4096 : Int64)) + ((iv y2).toInt64)) dX6_fillTies_28 rfl ?_
      refine r_lconst (pc := 29) (v := 1) dX6_fillTies_29 (by decide) ?_
      refine r_ladd (pc := 30) (v := ((((iv y1).toInt64) * (4096 : Int64)) + ((iv y2).toInt64)) + (1 : Int64)) dX6_fillTies_30 rfl ?_
      refine t_callSJ (pc := 31) (as := [.long (((((iv y1).toInt64) * (4096 : Int64)) + ((iv y2).toInt64)) + (1 : Int64))]) (st := []) kX6_77 dX6_fillTies_31 (t_X6_scramble (d := d - 1) (j0 := ((((iv y1).toInt64) * (4096 : Int64)) + ((iv y2).toInt64)) + (1 : Int64)) (by omega)   ht2  ) rfl (by omega) (Nat.le_of_ble_eq_true rfl) rfl (fun hp3 y5 ht4 _ => ?_)
      refine r_lstore (pc := 34) (lv' := [(4, .long y5), (0, .ref ss), (1, .ref ga), (2, .int (iv x2)), (3, .int (iv v2_3))]) dX6_fillTies_34 (by decide) rfl ?_
      refine r_iload_n (pc := 36) dX6_fillTies_36 (i := 2) rfl rfl ?_
      refine r_aload_n (pc := 37) dX6_fillTies_37 (i := 1) rfl rfl ?_
      refine t_getE (pc := 38) (.ref gF) ht4 hg_O fX6_81 dX6_fillTies_38 rfl ?_
      refine r_iload_n (pc := 41) dX6_fillTies_41 (i := 3) rfl rfl ?_
      refine t_ialdR (pc := 42) (t0 := 0) ht4 hg_from dX6_fillTies_42 rfl (by omega) (by omega) (fun y6 by6 => ?_)
      refine r_bipush (pc := 43) (v := iv 16) dX6_fillTies_43 (by decide) ?_
      refine r_imul (pc := 45) (v := iv (y6 * 16)) dX6_fillTies_45 (iv_mul _ _) ?_
      refine r_iadd (pc := 46) (v := iv (x2 + (y6 * 16))) dX6_fillTies_46 (iv_add _ _) ?_
      refine r_aload_n (pc := 47) dX6_fillTies_47 (i := 1) rfl rfl ?_
      refine t_getE (pc := 48) (.ref gT) ht4 hg_O fX6_84 dX6_fillTies_48 rfl ?_
      refine r_iload_n (pc := 51) dX6_fillTies_51 (i := 3) rfl rfl ?_
      refine t_ialdR (pc := 52) (t0 := 0) ht4 hg_to dX6_fillTies_52 rfl (by omega) (by omega) (fun y7 by7 => ?_)
      refine r_iadd (pc := 53) (v := iv ((x2 + (y6 * 16)) + y7)) dX6_fillTies_53 (iv_add _ _) ?_
      refine r_istore (pc := 54) (lv' := [(6, .int (iv ((x2 + (y6 * 16)) + y7))), (4, .long y5), (0, .ref ss), (1, .ref ga), (2, .int (iv x2)), (3, .int (iv v2_3))]) dX6_fillTies_54 (by decide) rfl ?_
      refine r_iload_n (pc := 56) dX6_fillTies_56 (i := 2) rfl rfl ?_
      refine r_aload_n (pc := 57) dX6_fillTies_57 (i := 1) rfl rfl ?_
      refine t_getE (pc := 58) (.ref gT) ht4 hg_O fX6_84 dX6_fillTies_58 rfl ?_
      refine r_iload_n (pc := 61) dX6_fillTies_61 (i := 3) rfl rfl ?_
      refine t_ialdR (pc := 62) (t0 := 0) ht4 hg_to dX6_fillTies_62 rfl (by omega) (by omega) (fun y8 by8 => ?_)
      refine r_bipush (pc := 63) (v := iv 16) dX6_fillTies_63 (by decide) ?_
      refine r_imul (pc := 65) (v := iv (y8 * 16)) dX6_fillTies_65 (iv_mul _ _) ?_
      refine r_iadd (pc := 66) (v := iv (x2 + (y8 * 16))) dX6_fillTies_66 (iv_add _ _) ?_
      refine r_aload_n (pc := 67) dX6_fillTies_67 (i := 1) rfl rfl ?_
      refine t_getE (pc := 68) (.ref gF) ht4 hg_O fX6_81 dX6_fillTies_68 rfl ?_
      refine r_iload_n (pc := 71) dX6_fillTies_71 (i := 3) rfl rfl ?_
      refine t_ialdR (pc := 72) (t0 := 0) ht4 hg_from dX6_fillTies_72 rfl (by omega) (by omega) (fun y9 by9 => ?_)
      refine r_iadd (pc := 73) (v := iv ((x2 + (y8 * 16)) + y9)) dX6_fillTies_73 (iv_add _ _) ?_
      refine r_istore (pc := 74) (lv' := [(7, .int (iv ((x2 + (y8 * 16)) + y9))), (6, .int (iv ((x2 + (y6 * 16)) + y7))), (4, .long y5), (0, .ref ss), (1, .ref ga), (2, .int (iv x2)), (3, .int (iv v2_3))]) dX6_fillTies_74 (by decide) rfl ?_
      refine r_aload_n (pc := 76) dX6_fillTies_76 (i := 0) rfl rfl ?_
      refine t_getE (pc := 77) (.ref (ss + 1)) ht4 hs_O fX6_9 dX6_fillTies_77 rfl ?_
      refine r_iload (pc := 80) dX6_fillTies_80 rfl ?_
      refine r_dup2_11 (pc := 82) dX6_fillTies_82 rfl rfl ?_
      refine t_lald (pc := 83) (t0 := 1) ht4 (rd_of hs_ties) dX6_fillTies_83 rfl (by decide) (by omega) (fun w10 _ => ?_)
      refine r_lload (pc := 84) dX6_fillTies_84 rfl ?_
      refine r_ladd (pc := 86) (v := w10 + y5) dX6_fillTies_86 rfl ?_
      refine t_last (pc := 87) (t0 := 1) ht4 hs_ties dX6_fillTies_87 rfl (by decide) (by omega) trivial (fun hp11 ht12 => ?_)
      refine r_iload (pc := 88) dX6_fillTies_88 rfl ?_
      refine r_iload (pc := 90) dX6_fillTies_90 rfl ?_
      have B122 : ∀ hp122 : MH, Tw Γ hp122 → True → Rn (gG D cI cJ cZ cT lo b L xs) mX6_fillTies d 122 [(0, .ref ss), (1, .ref ga), (2, .int (iv x2)), (3, .int (iv v2_3))] [] hp122 n 0 0 (pV Γ n) := by
        intro hp122 ht122 hf122
        refine r_iinc (pc := 122) (v := iv (v2_3 + 1)) (lv' := [(3, .int (iv (v2_3 + 1))), (0, .ref ss), (1, .ref ga), (2, .int (iv x2))]) dX6_fillTies_122 rfl (iv_add _ _) (by decide) rfl ?_
        refine r_goto (pc := 125) (tgt := 2) dX6_fillTies_125 (by decide) ?_
        refine Rn.pick (lv' := [(0, .ref ss), (1, .ref ga), (2, .int (iv x2)), (3, .int (iv (v2_3 + 1)))]) [1, 2, 3, 0] rfl ?_
        exact ih2 (Int.toNat (60 - (v2_3 + 1))) (by omega) _ ht122 (v2_3 + 1) ⟨by omega, by omega⟩ (by omega)
      refine t_icmp_eq (pc := 92) (tgt := 122) dX6_fillTies_92 (by decide) (by omega) (by omega) (fun c92 => ?_) (fun c92 => ?_)
      · refine Rn.pick (lv' := [(0, .ref ss), (1, .ref ga), (2, .int (iv x2)), (3, .int (iv v2_3))]) [3, 4, 5, 6] rfl ?_
        exact B122 _ ht12 trivial
      · refine r_aload_n (pc := 95) dX6_fillTies_95 (i := 0) rfl rfl ?_
        refine t_getE (pc := 96) (.ref (ss + 1)) ht12 hs_O fX6_9 dX6_fillTies_96 rfl ?_
        refine r_iload (pc := 99) dX6_fillTies_99 rfl ?_
        refine r_dup2_11 (pc := 101) dX6_fillTies_101 rfl rfl ?_
        refine t_lald (pc := 102) (t0 := 1) ht12 (rd_of hs_ties) dX6_fillTies_102 rfl (by decide) (by omega) (fun w13 _ => ?_)
        refine r_aload_n (pc := 103) dX6_fillTies_103 (i := 1) rfl rfl ?_
        refine t_getE (pc := 104) (.int (iv gdr)) ht12 hg_O fX6_31 dX6_fillTies_104 rfl ?_
        have B120 : ∀ hp120 : MH, Tw Γ hp120 → ∀  (x120_3 : Int64), True → Rn (gG D cI cJ cZ cT lo b L xs) mX6_fillTies d 120 [(0, .ref ss), (1, .ref ga), (2, .int (iv x2)), (3, .int (iv v2_3))] [.long x120_3, .long w13, .int (iv ((x2 + (y8 * 16)) + y9)), .ref (ss + 1)] hp120 n 0 0 (pV Γ n) := by
          intro hp120 ht120 x120_3 hf120
          refine r_ladd (pc := 120) (v := w13 + x120_3) dX6_fillTies_120 rfl ?_
          refine t_last (pc := 121) (t0 := 1) ht120 hs_ties dX6_fillTies_121 rfl (by decide) (by omega) trivial (fun hp14 ht15 => ?_)
          refine Rn.pick (lv' := [(0, .ref ss), (1, .ref ga), (2, .int (iv x2)), (3, .int (iv v2_3))]) [0, 1, 2, 3] rfl ?_
          exact B122 _ ht15 trivial
        refine t_if_eq (pc := 107) (tgt := 118) dX6_fillTies_107 (by decide) (by omega) (fun c107 => ?_) (fun c107 => ?_)
        · refine r_lload (pc := 118) dX6_fillTies_118 rfl ?_
          refine Rn.pick (lv' := [(0, .ref ss), (1, .ref ga), (2, .int (iv x2)), (3, .int (iv v2_3))]) [3, 4, 5, 6] rfl ?_
          exact B120 _ ht12 y5 trivial
        · refine r_lload (pc := 110) dX6_fillTies_110 rfl ?_
          refine t_callSJ (pc := 112) (as := [.long y5]) (st := [.long w13, .int (iv ((x2 + (y8 * 16)) + y9)), .ref (ss + 1)]) kX6_77 dX6_fillTies_112 (t_X6_scramble (d := d - 1) (j0 := y5) (by omega)   ht12  ) rfl (by omega) (Nat.le_of_ble_eq_true rfl) rfl (fun hp16 y18 ht17 _ => ?_)
          refine r_goto (pc := 115) (tgt := 120) dX6_fillTies_115 (by decide) ?_
          refine Rn.pick (lv' := [(0, .ref ss), (1, .ref ga), (2, .int (iv x2)), (3, .int (iv v2_3))]) [3, 4, 5, 6] rfl ?_
          exact B120 _ ht17 y18 trivial
  refine Rn.pick (lv' := [(0, .ref ss), (1, .ref ga), (2, .int (iv x2)), (3, .int (iv 0))]) [1, 2, 3, 0] rfl ?_
  exact B2 (Int.toNat (60 - 0)) _ ht 0 ⟨by omega, by omega⟩ (by omega)
set_option maxHeartbeats 4000000 in
set_option maxRecDepth 100000 in
theorem t_X6_startColours {D : va_G} {cI cJ cZ cT : ClassId} {lo b L : Nat} {xs : Nat → Int32} {hp : MH} {n d : Nat} {Γ : TG} {ss : Nat} {so1 : Nat} {so2 : Nat} {x1 : Int} (hd0 : 1 ≤ d) (hs : TySame Γ cI cJ cZ ss so1 so2) (ht : Tw Γ hp) (hx1 : 0 ≤ x1 ∧ x1 ≤ 16) : Mt (gG D cI cJ cZ cT lo b L xs) mX6_startColours d 0 0 [.ref ss, .int (iv x1)] hp n (pV Γ n) := by
  obtain ⟨hs_O, hs_ties, hs_colours, hs_fresh, hs_numbering⟩ := id hs
  refine Mt.of rfl (Nat.le_of_ble_eq_true rfl) ?_
  refine Rn.pick (lv' := [(0, .ref ss), (1, .int (iv x1))]) [0, 1] rfl ?_
  refine r_iconst (pc := 0) (v := iv 0) dX6_startColours_0 (by decide) ?_
  refine r_istore_n (pc := 1) (lv' := [(2, .int (iv 0)), (0, .ref ss), (1, .int (iv x1))]) dX6_startColours_1 (i := 2) rfl (by decide) rfl ?_
  have B2 : ∀ k : Nat, ∀ hp2 : MH, Tw Γ hp2 → ∀  (v2_2 : Int), 0 ≤ v2_2 ∧ v2_2 ≤ 16 → 16 - v2_2 ≤ (k : Int) → Rn (gG D cI cJ cZ cT lo b L xs) mX6_startColours d 2 [(0, .ref ss), (1, .int (iv x1)), (2, .int (iv v2_2))] [] hp2 n 0 0 (pV Γ n) := by
    refine lpS _ ?_
    intro k2 ih2 hp2 ht2 v2_2 hf2 hm2
    refine r_iload_n (pc := 2) dX6_startColours_2 (i := 2) rfl rfl ?_
    refine r_iload_n (pc := 3) dX6_startColours_3 (i := 1) rfl rfl ?_
    refine t_icmp_ge (pc := 4) (tgt := 57) dX6_startColours_4 (by decide) (by omega) (by omega) (fun c4 => ?_) (fun c4 => ?_)
    · exact r_vret (pc := 57) dX6_startColours_57 rfl ⟨rfl, ht2, rfl⟩
    · refine r_iload_n (pc := 7) dX6_startColours_7 (i := 2) rfl rfl ?_
      refine r_bipush (pc := 8) (v := iv 16) dX6_startColours_8 (by decide) ?_
      refine r_imul (pc := 10) (v := iv (v2_2 * 16)) dX6_startColours_10 (iv_mul _ _) ?_
      refine r_iload_n (pc := 11) dX6_startColours_11 (i := 2) rfl rfl ?_
      refine r_iadd (pc := 12) (v := iv ((v2_2 * 16) + v2_2)) dX6_startColours_12 (iv_add _ _) ?_
      refine r_istore_n (pc := 13) (lv' := [(3, .int (iv ((v2_2 * 16) + v2_2))), (0, .ref ss), (1, .int (iv x1)), (2, .int (iv v2_2))]) dX6_startColours_13 (i := 3) rfl (by decide) rfl ?_
      refine r_aload_n (pc := 14) dX6_startColours_14 (i := 0) rfl rfl ?_
      refine t_getE (pc := 15) (.ref (ss + 2)) ht2 hs_O fX6_15 dX6_startColours_15 rfl ?_
      refine r_iload_n (pc := 18) dX6_startColours_18 (i := 2) rfl rfl ?_
      refine r_aload_n (pc := 19) dX6_startColours_19 (i := 0) rfl rfl ?_
      refine t_getE (pc := 20) (.ref (ss + 1)) ht2 hs_O fX6_9 dX6_startColours_20 rfl ?_
      refine r_iload_n (pc := 23) dX6_startColours_23 (i := 3) rfl rfl ?_
      refine t_lald (pc := 24) (t0 := 1) ht2 (rd_of hs_ties) dX6_startColours_24 rfl (by decide) (by omega) (fun w1 _ => ?_)
      refine t_callSJ (pc := 25) (as := [.long w1]) (st := [.int (iv v2_2), .ref (ss + 2)]) kX6_77 dX6_startColours_25 (t_X6_scramble (d := d - 1) (j0 := w1) (by omega)   ht2  ) rfl (by omega) (Nat.le_of_ble_eq_true rfl) rfl (fun hp2 y4 ht3 _ => ?_)
      refine t_last (pc := 28) (t0 := 1) ht3 hs_colours dX6_startColours_28 rfl (by decide) (by omega) trivial (fun hp5 ht6 => ?_)
      refine r_aload_n (pc := 29) dX6_startColours_29 (i := 0) rfl rfl ?_
      refine t_getE (pc := 30) (.ref (ss + 2)) ht6 hs_O fX6_15 dX6_startColours_30 rfl ?_
      refine r_bipush (pc := 33) (v := iv 16) dX6_startColours_33 (by decide) ?_
      refine r_iload_n (pc := 35) dX6_startColours_35 (i := 2) rfl rfl ?_
      refine r_iadd (pc := 36) (v := iv (16 + v2_2)) dX6_startColours_36 (iv_add _ _) ?_
      refine r_aload_n (pc := 37) dX6_startColours_37 (i := 0) rfl rfl ?_
      refine t_getE (pc := 38) (.ref (ss + 1)) ht6 hs_O fX6_9 dX6_startColours_38 rfl ?_
      refine r_sipush (pc := 41) (v := iv 256) dX6_startColours_41 (by decide) ?_
      refine r_iload_n (pc := 44) dX6_startColours_44 (i := 3) rfl rfl ?_
      refine r_iadd (pc := 45) (v := iv (256 + ((v2_2 * 16) + v2_2))) dX6_startColours_45 (iv_add _ _) ?_
      refine t_lald (pc := 46) (t0 := 1) ht6 (rd_of hs_ties) dX6_startColours_46 rfl (by decide) (by omega) (fun w7 _ => ?_)
      refine t_callSJ (pc := 47) (as := [.long w7]) (st := [.int (iv (16 + v2_2)), .ref (ss + 2)]) kX6_77 dX6_startColours_47 (t_X6_scramble (d := d - 1) (j0 := w7) (by omega)   ht6  ) rfl (by omega) (Nat.le_of_ble_eq_true rfl) rfl (fun hp8 y10 ht9 _ => ?_)
      refine t_last (pc := 50) (t0 := 1) ht9 hs_colours dX6_startColours_50 rfl (by decide) (by omega) trivial (fun hp11 ht12 => ?_)
      refine r_iinc (pc := 51) (v := iv (v2_2 + 1)) (lv' := [(2, .int (iv (v2_2 + 1))), (3, .int (iv ((v2_2 * 16) + v2_2))), (0, .ref ss), (1, .int (iv x1))]) dX6_startColours_51 rfl (iv_add _ _) (by decide) rfl ?_
      refine r_goto (pc := 54) (tgt := 2) dX6_startColours_54 (by decide) ?_
      refine Rn.pick (lv' := [(0, .ref ss), (1, .int (iv x1)), (2, .int (iv (v2_2 + 1)))]) [2, 3, 0] rfl ?_
      exact ih2 (Int.toNat (16 - (v2_2 + 1))) (by omega) _ ht12 (v2_2 + 1) ⟨by omega, by omega⟩ (by omega)
  refine Rn.pick (lv' := [(0, .ref ss), (1, .int (iv x1)), (2, .int (iv 0))]) [1, 2, 0] rfl ?_
  exact B2 (Int.toNat (16 - 0)) _ ht 0 ⟨by omega, by omega⟩ (by omega)
set_option maxHeartbeats 4000000 in
set_option maxRecDepth 100000 in
theorem t_X6_countColours {D : va_G} {cI cJ cZ cT : ClassId} {lo b L : Nat} {xs : Nat → Int32} {hp : MH} {n d : Nat} {Γ : TG} {ss : Nat} {so1 : Nat} {so2 : Nat} {x1 x2 : Int} (hd0 : 0 ≤ d) (hs : TySame Γ cI cJ cZ ss so1 so2) (ht : Tw Γ hp) (hx1 : 0 ≤ x1 ∧ x1 ≤ 512) (hx2 : 0 ≤ x2 ∧ x2 ≤ 16) : Mt (gG D cI cJ cZ cT lo b L xs) mX6_countColours d 0 0 [.ref ss, .int (iv x1), .int (iv x2)] hp n (pR Γ n (-2147483648) 2147483647) := by
  obtain ⟨hs_O, hs_ties, hs_colours, hs_fresh, hs_numbering⟩ := id hs
  refine Mt.of rfl (Nat.le_of_ble_eq_true rfl) ?_
  refine Rn.pick (lv' := [(0, .ref ss), (1, .int (iv x1)), (2, .int (iv x2))]) [0, 1, 2] rfl ?_
  refine r_iconst (pc := 0) (v := iv 0) dX6_countColours_0 (by decide) ?_
  refine r_istore_n (pc := 1) (lv' := [(3, .int (iv 0)), (0, .ref ss), (1, .int (iv x1)), (2, .int (iv x2))]) dX6_countColours_1 (i := 3) rfl (by decide) rfl ?_
  refine r_iconst (pc := 2) (v := iv 0) dX6_countColours_2 (by decide) ?_
  refine r_istore (pc := 3) (lv' := [(4, .int (iv 0)), (3, .int (iv 0)), (0, .ref ss), (1, .int (iv x1)), (2, .int (iv x2))]) dX6_countColours_3 (by decide) rfl ?_
  have B5 : ∀ k : Nat, ∀ hp5 : MH, Tw Γ hp5 → ∀  (v5_3 : Int) (v5_4 : Int), (-2147483648) ≤ v5_3 ∧ v5_3 ≤ 2147483647 ∧ 0 ≤ v5_4 ∧ v5_4 ≤ 16 → 16 - v5_4 ≤ (k : Int) → Rn (gG D cI cJ cZ cT lo b L xs) mX6_countColours d 5 [(0, .ref ss), (1, .int (iv x1)), (2, .int (iv x2)), (3, .int (iv v5_3)), (4, .int (iv v5_4))] [] hp5 n 0 0 (pR Γ n (-2147483648) 2147483647) := by
    refine lpS _ ?_
    intro k5 ih5 hp5 ht5 v5_3 v5_4 hf5 hm5
    refine r_iload (pc := 5) dX6_countColours_5 rfl ?_
    refine r_iload_n (pc := 7) dX6_countColours_7 (i := 2) rfl rfl ?_
    refine t_icmp_ge (pc := 8) (tgt := 83) dX6_countColours_8 (by decide) (by omega) (by omega) (fun c8 => ?_) (fun c8 => ?_)
    · refine r_iload_n (pc := 83) dX6_countColours_83 (i := 3) rfl rfl ?_
      exact r_iret (pc := 84) dX6_countColours_84 rfl ⟨rfl, ht5, _, rfl, by omega, by omega⟩
    · refine r_iconst (pc := 11) (v := iv 1) dX6_countColours_11 (by decide) ?_
      refine r_istore (pc := 12) (lv' := [(5, .int (iv 1)), (0, .ref ss), (1, .int (iv x1)), (2, .int (iv x2)), (3, .int (iv v5_3)), (4, .int (iv v5_4))]) dX6_countColours_12 (by decide) rfl ?_
      refine r_iconst (pc := 14) (v := iv 0) dX6_countColours_14 (by decide) ?_
      refine r_istore (pc := 15) (lv' := [(6, .int (iv 0)), (5, .int (iv 1)), (0, .ref ss), (1, .int (iv x1)), (2, .int (iv x2)), (3, .int (iv v5_3)), (4, .int (iv v5_4))]) dX6_countColours_15 (by decide) rfl ?_
      have B17 : ∀ k : Nat, ∀ hp17 : MH, Tw Γ hp17 → ∀  (v17_5 : Int) (v17_6 : Int), 0 ≤ v17_5 ∧ v17_5 ≤ 1 ∧ 0 ≤ v17_6 ∧ v17_6 ≤ 15 → 15 - v17_6 ≤ (k : Int) → Rn (gG D cI cJ cZ cT lo b L xs) mX6_countColours d 17 [(0, .ref ss), (1, .int (iv x1)), (2, .int (iv x2)), (3, .int (iv v5_3)), (4, .int (iv v5_4)), (5, .int (iv v17_5)), (6, .int (iv v17_6))] [] hp17 n 0 0 (pR Γ n (-2147483648) 2147483647) := by
        refine lpS _ ?_
        intro k17 ih17 hp17 ht17 v17_5 v17_6 hf17 hm17
        refine r_iload (pc := 17) dX6_countColours_17 rfl ?_
        refine r_iload (pc := 19) dX6_countColours_19 rfl ?_
        have B64 : ∀ hp64 : MH, Tw Γ hp64 → True → Rn (gG D cI cJ cZ cT lo b L xs) mX6_countColours d 64 [(0, .ref ss), (1, .int (iv x1)), (2, .int (iv x2)), (3, .int (iv v5_3)), (4, .int (iv v5_4)), (5, .int (iv v17_5))] [] hp64 n 0 0 (pR Γ n (-2147483648) 2147483647) := by
          intro hp64 ht64 hf64
          refine r_iload_n (pc := 64) dX6_countColours_64 (i := 3) rfl rfl ?_
          refine r_iload (pc := 65) dX6_countColours_65 rfl ?_
          have B75 : ∀ hp75 : MH, Tw Γ hp75 → ∀  (u75_1 : Int), 0 ≤ u75_1 ∧ u75_1 ≤ 1 → Rn (gG D cI cJ cZ cT lo b L xs) mX6_countColours d 75 [(0, .ref ss), (1, .int (iv x1)), (2, .int (iv x2)), (4, .int (iv v5_4))] [.int (iv u75_1), .int (iv v5_3)] hp75 n 0 0 (pR Γ n (-2147483648) 2147483647) := by
            intro hp75 ht75 u75_1 hf75
            obtain ⟨z1, hz1, bz1⟩ := any_i (iv v5_3 + iv u75_1)
            refine r_iadd (pc := 75) (v := iv z1) dX6_countColours_75 hz1 ?_
            refine r_istore_n (pc := 76) (lv' := [(3, .int (iv z1)), (0, .ref ss), (1, .int (iv x1)), (2, .int (iv x2)), (4, .int (iv v5_4))]) dX6_countColours_76 (i := 3) rfl (by decide) rfl ?_
            refine r_iinc (pc := 77) (v := iv (v5_4 + 1)) (lv' := [(4, .int (iv (v5_4 + 1))), (3, .int (iv z1)), (0, .ref ss), (1, .int (iv x1)), (2, .int (iv x2))]) dX6_countColours_77 rfl (iv_add _ _) (by decide) rfl ?_
            refine r_goto (pc := 80) (tgt := 5) dX6_countColours_80 (by decide) ?_
            refine Rn.pick (lv' := [(0, .ref ss), (1, .int (iv x1)), (2, .int (iv x2)), (3, .int (iv z1)), (4, .int (iv (v5_4 + 1)))]) [2, 3, 4, 1, 0] rfl ?_
            exact ih5 (Int.toNat (16 - (v5_4 + 1))) (by omega) _ ht75 z1 (v5_4 + 1) ⟨by omega, by omega, by omega, by omega⟩ (by omega)
          refine t_if_eq (pc := 67) (tgt := 74) dX6_countColours_67 (by decide) (by omega) (fun c67 => ?_) (fun c67 => ?_)
          · refine r_iconst (pc := 74) (v := iv 0) dX6_countColours_74 (by decide) ?_
            refine Rn.pick (lv' := [(0, .ref ss), (1, .int (iv x1)), (2, .int (iv x2)), (4, .int (iv v5_4))]) [0, 1, 2, 4] rfl ?_
            exact B75 _ ht64 0 ⟨by omega, by omega⟩
          · refine r_iconst (pc := 70) (v := iv 1) dX6_countColours_70 (by decide) ?_
            refine r_goto (pc := 71) (tgt := 75) dX6_countColours_71 (by decide) ?_
            refine Rn.pick (lv' := [(0, .ref ss), (1, .int (iv x1)), (2, .int (iv x2)), (4, .int (iv v5_4))]) [0, 1, 2, 4] rfl ?_
            exact B75 _ ht64 1 ⟨by omega, by omega⟩
        refine t_icmp_ge (pc := 21) (tgt := 64) dX6_countColours_21 (by decide) (by omega) (by omega) (fun c21 => ?_) (fun c21 => ?_)
        · refine Rn.pick (lv' := [(0, .ref ss), (1, .int (iv x1)), (2, .int (iv x2)), (3, .int (iv v5_3)), (4, .int (iv v5_4)), (5, .int (iv v17_5))]) [0, 1, 2, 3, 4, 5] rfl ?_
          exact B64 _ ht17 trivial
        · refine r_iload (pc := 24) dX6_countColours_24 rfl ?_
          refine t_if_eq (pc := 26) (tgt := 64) dX6_countColours_26 (by decide) (by omega) (fun c26 => ?_) (fun c26 => ?_)
          · refine Rn.pick (lv' := [(0, .ref ss), (1, .int (iv x1)), (2, .int (iv x2)), (3, .int (iv v5_3)), (4, .int (iv v5_4)), (5, .int (iv v17_5))]) [0, 1, 2, 3, 4, 5] rfl ?_
            exact B64 _ ht17 trivial
          · refine r_aload_n (pc := 29) dX6_countColours_29 (i := 0) rfl rfl ?_
            refine t_getE (pc := 30) (.ref (ss + 2)) ht17 hs_O fX6_15 dX6_countColours_30 rfl ?_
            refine r_iload_n (pc := 33) dX6_countColours_33 (i := 1) rfl rfl ?_
            refine r_iload (pc := 34) dX6_countColours_34 rfl ?_
            refine r_iadd (pc := 36) (v := iv (x1 + v17_6)) dX6_countColours_36 (iv_add _ _) ?_
            refine t_lald (pc := 37) (t0 := 1) ht17 (rd_of hs_colours) dX6_countColours_37 rfl (by decide) (by omega) (fun w2 _ => ?_)
            refine r_aload_n (pc := 38) dX6_countColours_38 (i := 0) rfl rfl ?_
            refine t_getE (pc := 39) (.ref (ss + 2)) ht17 hs_O fX6_15 dX6_countColours_39 rfl ?_
            refine r_iload_n (pc := 42) dX6_countColours_42 (i := 1) rfl rfl ?_
            refine r_iload (pc := 43) dX6_countColours_43 rfl ?_
            refine r_iadd (pc := 45) (v := iv (x1 + v5_4)) dX6_countColours_45 (iv_add _ _) ?_
            refine t_lald (pc := 46) (t0 := 1) ht17 (rd_of hs_colours) dX6_countColours_46 rfl (by decide) (by omega) (fun w3 _ => ?_)
            refine r_lcmp (pc := 47) dX6_countColours_47 ?_
            have B56 : ∀ hp56 : MH, Tw Γ hp56 → ∀  (u56_0 : Int), 0 ≤ u56_0 ∧ u56_0 ≤ 1 → Rn (gG D cI cJ cZ cT lo b L xs) mX6_countColours d 56 [(0, .ref ss), (1, .int (iv x1)), (2, .int (iv x2)), (3, .int (iv v5_3)), (4, .int (iv v5_4)), (6, .int (iv v17_6))] [.int (iv u56_0)] hp56 n 0 0 (pR Γ n (-2147483648) 2147483647) := by
              intro hp56 ht56 u56_0 hf56
              refine r_istore (pc := 56) (lv' := [(5, .int (iv u56_0)), (0, .ref ss), (1, .int (iv x1)), (2, .int (iv x2)), (3, .int (iv v5_3)), (4, .int (iv v5_4)), (6, .int (iv v17_6))]) dX6_countColours_56 (by decide) rfl ?_
              refine r_iinc (pc := 58) (v := iv (v17_6 + 1)) (lv' := [(6, .int (iv (v17_6 + 1))), (5, .int (iv u56_0)), (0, .ref ss), (1, .int (iv x1)), (2, .int (iv x2)), (3, .int (iv v5_3)), (4, .int (iv v5_4))]) dX6_countColours_58 rfl (iv_add _ _) (by decide) rfl ?_
              refine r_goto (pc := 61) (tgt := 17) dX6_countColours_61 (by decide) ?_
              refine Rn.pick (lv' := [(0, .ref ss), (1, .int (iv x1)), (2, .int (iv x2)), (3, .int (iv v5_3)), (4, .int (iv v5_4)), (5, .int (iv u56_0)), (6, .int (iv (v17_6 + 1)))]) [2, 3, 4, 5, 6, 1, 0] rfl ?_
              exact ih17 (Int.toNat (15 - (v17_6 + 1))) (by omega) _ ht56 u56_0 (v17_6 + 1) ⟨by omega, by omega, by omega, by omega⟩ (by omega)
            refine r_if_eq (pc := 48) (tgt := 55) dX6_countColours_48 (by decide) (fun c48 => ?_) (fun c48 => ?_)
            · refine r_iconst (pc := 55) (v := iv 0) dX6_countColours_55 (by decide) ?_
              refine Rn.pick (lv' := [(0, .ref ss), (1, .int (iv x1)), (2, .int (iv x2)), (3, .int (iv v5_3)), (4, .int (iv v5_4)), (6, .int (iv v17_6))]) [0, 1, 2, 3, 4, 6] rfl ?_
              exact B56 _ ht17 0 ⟨by omega, by omega⟩
            · refine r_iconst (pc := 51) (v := iv 1) dX6_countColours_51 (by decide) ?_
              refine r_goto (pc := 52) (tgt := 56) dX6_countColours_52 (by decide) ?_
              refine Rn.pick (lv' := [(0, .ref ss), (1, .int (iv x1)), (2, .int (iv x2)), (3, .int (iv v5_3)), (4, .int (iv v5_4)), (6, .int (iv v17_6))]) [0, 1, 2, 3, 4, 6] rfl ?_
              exact B56 _ ht17 1 ⟨by omega, by omega⟩
      refine Rn.pick (lv' := [(0, .ref ss), (1, .int (iv x1)), (2, .int (iv x2)), (3, .int (iv v5_3)), (4, .int (iv v5_4)), (5, .int (iv 1)), (6, .int (iv 0))]) [2, 3, 4, 5, 6, 1, 0] rfl ?_
      exact B17 (Int.toNat (15 - 0)) _ ht5 1 0 ⟨by omega, by omega, by omega, by omega⟩ (by omega)
  refine Rn.pick (lv' := [(0, .ref ss), (1, .int (iv x1)), (2, .int (iv x2)), (3, .int (iv 0)), (4, .int (iv 0))]) [2, 3, 4, 1, 0] rfl ?_
  exact B5 (Int.toNat (16 - 0)) _ ht 0 0 ⟨by omega, by omega, by omega, by omega⟩ (by omega)
set_option maxHeartbeats 4000000 in
set_option maxRecDepth 100000 in
theorem t_X6_recolour {D : va_G} {cI cJ cZ cT : ClassId} {lo b L : Nat} {xs : Nat → Int32} {hp : MH} {n d : Nat} {Γ : TG} {ss : Nat} {so1 : Nat} {so2 : Nat} {x1 x2 x3 : Int} (hd0 : 1 ≤ d) (hs : TySame Γ cI cJ cZ ss so1 so2) (ht : Tw Γ hp) (hx1 : 0 ≤ x1 ∧ x1 ≤ 512) (hx2 : 0 ≤ x2 ∧ x2 ≤ 16) (hx3 : 0 ≤ x3 ∧ x3 ≤ 16) : Mt (gG D cI cJ cZ cT lo b L xs) mX6_recolour d 0 0 [.ref ss, .int (iv x1), .int (iv x2), .int (iv x3)] hp n (pV Γ n) := by
  obtain ⟨hs_O, hs_ties, hs_colours, hs_fresh, hs_numbering⟩ := id hs
  refine Mt.of rfl (Nat.le_of_ble_eq_true rfl) ?_
  refine Rn.pick (lv' := [(0, .ref ss), (1, .int (iv x1)), (2, .int (iv x2)), (3, .int (iv x3))]) [0, 1, 2, 3] rfl ?_
  refine r_iconst (pc := 0) (v := iv 0) dX6_recolour_0 (by decide) ?_
  refine r_istore (pc := 1) (lv' := [(4, .int (iv 0)), (0, .ref ss), (1, .int (iv x1)), (2, .int (iv x2)), (3, .int (iv x3))]) dX6_recolour_1 (by decide) rfl ?_
  have B3 : ∀ k : Nat, ∀ hp3 : MH, Tw Γ hp3 → ∀  (v3_4 : Int), 0 ≤ v3_4 ∧ v3_4 ≤ 16 → 16 - v3_4 ≤ (k : Int) → Rn (gG D cI cJ cZ cT lo b L xs) mX6_recolour d 3 [(0, .ref ss), (1, .int (iv x1)), (2, .int (iv x2)), (3, .int (iv x3)), (4, .int (iv v3_4))] [] hp3 n 0 0 (pV Γ n) := by
    refine lpS _ ?_
    intro k3 ih3 hp3 ht3 v3_4 hf3 hm3
    refine r_iload (pc := 3) dX6_recolour_3 rfl ?_
    refine r_iload_n (pc := 5) dX6_recolour_5 (i := 3) rfl rfl ?_
    refine t_icmp_ge (pc := 6) (tgt := 115) dX6_recolour_6 (by decide) (by omega) (by omega) (fun c6 => ?_) (fun c6 => ?_)
    · exact r_vret (pc := 115) dX6_recolour_115 rfl ⟨rfl, ht3, rfl⟩
    · refine r_iload_n (pc := 9) dX6_recolour_9 (i := 2) rfl rfl ?_
      refine r_iload (pc := 10) dX6_recolour_10 rfl ?_
      refine r_iadd (pc := 12) (v := iv (x2 + v3_4)) dX6_recolour_12 (iv_add _ _) ?_
      refine r_bipush (pc := 13) (v := iv 16) dX6_recolour_13 (by decide) ?_
      refine r_imul (pc := 15) (v := iv ((x2 + v3_4) * 16)) dX6_recolour_15 (iv_mul _ _) ?_
      refine r_istore (pc := 16) (lv' := [(5, .int (iv ((x2 + v3_4) * 16))), (0, .ref ss), (1, .int (iv x1)), (2, .int (iv x2)), (3, .int (iv x3)), (4, .int (iv v3_4))]) dX6_recolour_16 (by decide) rfl ?_
      refine r_ldc2 (pc := 18) (v := 3) dX6_recolour_18 kX6_104 ?_
      refine r_aload_n (pc := 21) dX6_recolour_21 (i := 0) rfl rfl ?_
      refine t_getE (pc := 22) (.ref (ss + 2)) ht3 hs_O fX6_15 dX6_recolour_22 rfl ?_
      refine r_iload_n (pc := 25) dX6_recolour_25 (i := 1) rfl rfl ?_
      refine r_iload_n (pc := 26) dX6_recolour_26 (i := 2) rfl rfl ?_
      refine r_iadd (pc := 27) (v := iv (x1 + x2)) dX6_recolour_27 (iv_add _ _) ?_
      refine r_iload (pc := 28) dX6_recolour_28 rfl ?_
      refine r_iadd (pc := 30) (v := iv ((x1 + x2) + v3_4)) dX6_recolour_30 (iv_add _ _) ?_
      refine t_lald (pc := 31) (t0 := 1) ht3 (rd_of hs_colours) dX6_recolour_31 rfl (by decide) (by omega) (fun w1 _ => ?_)
      refine r_lmul (pc := 32) (v := (3 : Int64) * w1) dX6_recolour_32 rfl ?_
      refine r_lstore (pc := 33) (lv' := [(6, .long ((3 : Int64) * w1)), (5, .int (iv ((x2 + v3_4) * 16))), (0, .ref ss), (1, .int (iv x1)), (2, .int (iv x2)), (3, .int (iv x3)), (4, .int (iv v3_4))]) dX6_recolour_33 (by decide) rfl ?_
      refine r_iconst (pc := 35) (v := iv 0) dX6_recolour_35 (by decide) ?_
      refine r_istore (pc := 36) (lv' := [(8, .int (iv 0)), (6, .long ((3 : Int64) * w1)), (5, .int (iv ((x2 + v3_4) * 16))), (0, .ref ss), (1, .int (iv x1)), (2, .int (iv x2)), (3, .int (iv x3)), (4, .int (iv v3_4))]) dX6_recolour_36 (by decide) rfl ?_
      have B38 : ∀ k : Nat, ∀ hp38 : MH, Tw Γ hp38 → ∀  (v38_8 : Int) (w38_6 : Int64), 0 ≤ v38_8 ∧ v38_8 ≤ 16 → 16 - v38_8 ≤ (k : Int) → Rn (gG D cI cJ cZ cT lo b L xs) mX6_recolour d 38 [(0, .ref ss), (1, .int (iv x1)), (2, .int (iv x2)), (3, .int (iv x3)), (4, .int (iv v3_4)), (5, .int (iv ((x2 + v3_4) * 16))), (6, .long w38_6), (8, .int (iv v38_8))] [] hp38 n 0 0 (pV Γ n) := by
        refine lpS _ ?_
        intro k38 ih38 hp38 ht38 v38_8 w38_6 hf38 hm38
        refine r_iload (pc := 38) dX6_recolour_38 rfl ?_
        refine r_iload_n (pc := 40) dX6_recolour_40 (i := 3) rfl rfl ?_
        refine t_icmp_ge (pc := 41) (tgt := 95) dX6_recolour_41 (by decide) (by omega) (by omega) (fun c41 => ?_) (fun c41 => ?_)
        · refine r_aload_n (pc := 95) dX6_recolour_95 (i := 0) rfl rfl ?_
          refine t_getE (pc := 96) (.ref (ss + 3)) ht38 hs_O fX6_18 dX6_recolour_96 rfl ?_
          refine r_iload_n (pc := 99) dX6_recolour_99 (i := 2) rfl rfl ?_
          refine r_iload (pc := 100) dX6_recolour_100 rfl ?_
          refine r_iadd (pc := 102) (v := iv (x2 + v3_4)) dX6_recolour_102 (iv_add _ _) ?_
          refine r_lload (pc := 103) dX6_recolour_103 rfl ?_
          refine t_callSJ (pc := 105) (as := [.long w38_6]) (st := [.int (iv (x2 + v3_4)), .ref (ss + 3)]) kX6_77 dX6_recolour_105 (t_X6_scramble (d := d - 1) (j0 := w38_6) (by omega)   ht38  ) rfl (by omega) (Nat.le_of_ble_eq_true rfl) rfl (fun hp2 y4 ht3 _ => ?_)
          refine t_last (pc := 108) (t0 := 1) ht3 hs_fresh dX6_recolour_108 rfl (by decide) (by omega) trivial (fun hp5 ht6 => ?_)
          refine r_iinc (pc := 109) (v := iv (v3_4 + 1)) (lv' := [(4, .int (iv (v3_4 + 1))), (0, .ref ss), (1, .int (iv x1)), (2, .int (iv x2)), (3, .int (iv x3)), (5, .int (iv ((x2 + v3_4) * 16))), (6, .long w38_6), (8, .int (iv v38_8))]) dX6_recolour_109 rfl (iv_add _ _) (by decide) rfl ?_
          refine r_goto (pc := 112) (tgt := 3) dX6_recolour_112 (by decide) ?_
          refine Rn.pick (lv' := [(0, .ref ss), (1, .int (iv x1)), (2, .int (iv x2)), (3, .int (iv x3)), (4, .int (iv (v3_4 + 1)))]) [1, 2, 3, 4, 0] rfl ?_
          exact ih3 (Int.toNat (16 - (v3_4 + 1))) (by omega) _ ht6 (v3_4 + 1) ⟨by omega, by omega⟩ (by omega)
        · refine r_aload_n (pc := 44) dX6_recolour_44 (i := 0) rfl rfl ?_
          refine t_getE (pc := 45) (.ref (ss + 1)) ht38 hs_O fX6_9 dX6_recolour_45 rfl ?_
          refine r_iload (pc := 48) dX6_recolour_48 rfl ?_
          refine r_iload (pc := 50) dX6_recolour_50 rfl ?_
          refine r_iadd (pc := 52) (v := iv (((x2 + v3_4) * 16) + v38_8)) dX6_recolour_52 (iv_add _ _) ?_
          refine t_lald (pc := 53) (t0 := 1) ht38 (rd_of hs_ties) dX6_recolour_53 rfl (by decide) (by omega) (fun w7 _ => ?_)
          refine r_lconst (pc := 54) (v := 0) dX6_recolour_54 (by decide) ?_
          refine r_lcmp (pc := 55) dX6_recolour_55 ?_
          have B89 : ∀ hp89 : MH, Tw Γ hp89 → ∀  (w89_6 : Int64), True → Rn (gG D cI cJ cZ cT lo b L xs) mX6_recolour d 89 [(0, .ref ss), (1, .int (iv x1)), (2, .int (iv x2)), (3, .int (iv x3)), (4, .int (iv v3_4)), (5, .int (iv ((x2 + v3_4) * 16))), (6, .long w89_6), (8, .int (iv v38_8))] [] hp89 n 0 0 (pV Γ n) := by
            intro hp89 ht89 w89_6 hf89
            refine r_iinc (pc := 89) (v := iv (v38_8 + 1)) (lv' := [(8, .int (iv (v38_8 + 1))), (0, .ref ss), (1, .int (iv x1)), (2, .int (iv x2)), (3, .int (iv x3)), (4, .int (iv v3_4)), (5, .int (iv ((x2 + v3_4) * 16))), (6, .long w89_6)]) dX6_recolour_89 rfl (iv_add _ _) (by decide) rfl ?_
            refine r_goto (pc := 92) (tgt := 38) dX6_recolour_92 (by decide) ?_
            refine Rn.pick (lv' := [(0, .ref ss), (1, .int (iv x1)), (2, .int (iv x2)), (3, .int (iv x3)), (4, .int (iv v3_4)), (5, .int (iv ((x2 + v3_4) * 16))), (6, .long w89_6), (8, .int (iv (v38_8 + 1)))]) [1, 2, 3, 4, 5, 6, 7, 0] rfl ?_
            exact ih38 (Int.toNat (16 - (v38_8 + 1))) (by omega) _ ht89 (v38_8 + 1) w89_6 ⟨by omega, by omega⟩ (by omega)
          refine r_if_eq (pc := 56) (tgt := 89) dX6_recolour_56 (by decide) (fun c56 => ?_) (fun c56 => ?_)
          · refine Rn.pick (lv' := [(0, .ref ss), (1, .int (iv x1)), (2, .int (iv x2)), (3, .int (iv x3)), (4, .int (iv v3_4)), (5, .int (iv ((x2 + v3_4) * 16))), (6, .long w38_6), (8, .int (iv v38_8))]) [0, 1, 2, 3, 4, 5, 6, 7] rfl ?_
            exact B89 _ ht38 w38_6 trivial
          · refine r_lload (pc := 59) dX6_recolour_59 rfl ?_
            refine r_aload_n (pc := 61) dX6_recolour_61 (i := 0) rfl rfl ?_
            refine t_getE (pc := 62) (.ref (ss + 1)) ht38 hs_O fX6_9 dX6_recolour_62 rfl ?_
            refine r_iload (pc := 65) dX6_recolour_65 rfl ?_
            refine r_iload (pc := 67) dX6_recolour_67 rfl ?_
            refine r_iadd (pc := 69) (v := iv (((x2 + v3_4) * 16) + v38_8)) dX6_recolour_69 (iv_add _ _) ?_
            refine t_lald (pc := 70) (t0 := 1) ht38 (rd_of hs_ties) dX6_recolour_70 rfl (by decide) (by omega) (fun w8 _ => ?_)
            refine r_aload_n (pc := 71) dX6_recolour_71 (i := 0) rfl rfl ?_
            refine t_getE (pc := 72) (.ref (ss + 2)) ht38 hs_O fX6_15 dX6_recolour_72 rfl ?_
            refine r_iload_n (pc := 75) dX6_recolour_75 (i := 1) rfl rfl ?_
            refine r_iload_n (pc := 76) dX6_recolour_76 (i := 2) rfl rfl ?_
            refine r_iadd (pc := 77) (v := iv (x1 + x2)) dX6_recolour_77 (iv_add _ _) ?_
            refine r_iload (pc := 78) dX6_recolour_78 rfl ?_
            refine r_iadd (pc := 80) (v := iv ((x1 + x2) + v38_8)) dX6_recolour_80 (iv_add _ _) ?_
            refine t_lald (pc := 81) (t0 := 1) ht38 (rd_of hs_colours) dX6_recolour_81 rfl (by decide) (by omega) (fun w9 _ => ?_)
            refine r_ladd (pc := 82) (v := w8 + w9) dX6_recolour_82 rfl ?_
            refine t_callSJ (pc := 83) (as := [.long (w8 + w9)]) (st := [.long w38_6]) kX6_77 dX6_recolour_83 (t_X6_scramble (d := d - 1) (j0 := w8 + w9) (by omega)   ht38  ) rfl (by omega) (Nat.le_of_ble_eq_true rfl) rfl (fun hp10 y12 ht11 _ => ?_)
            refine r_ladd (pc := 86) (v := w38_6 + y12) dX6_recolour_86 rfl ?_
            refine r_lstore (pc := 87) (lv' := [(6, .long (w38_6 + y12)), (0, .ref ss), (1, .int (iv x1)), (2, .int (iv x2)), (3, .int (iv x3)), (4, .int (iv v3_4)), (5, .int (iv ((x2 + v3_4) * 16))), (8, .int (iv v38_8))]) dX6_recolour_87 (by decide) rfl ?_
            refine Rn.pick (lv' := [(0, .ref ss), (1, .int (iv x1)), (2, .int (iv x2)), (3, .int (iv x3)), (4, .int (iv v3_4)), (5, .int (iv ((x2 + v3_4) * 16))), (6, .long (w38_6 + y12)), (8, .int (iv v38_8))]) [1, 2, 3, 4, 5, 6, 0, 7] rfl ?_
            exact B89 _ ht11 (w38_6 + y12) trivial
      refine Rn.pick (lv' := [(0, .ref ss), (1, .int (iv x1)), (2, .int (iv x2)), (3, .int (iv x3)), (4, .int (iv v3_4)), (5, .int (iv ((x2 + v3_4) * 16))), (6, .long ((3 : Int64) * w1)), (8, .int (iv 0))]) [3, 4, 5, 6, 7, 2, 1, 0] rfl ?_
      exact B38 (Int.toNat (16 - 0)) _ ht3 0 ((3 : Int64) * w1) ⟨by omega, by omega⟩ (by omega)
  refine Rn.pick (lv' := [(0, .ref ss), (1, .int (iv x1)), (2, .int (iv x2)), (3, .int (iv x3)), (4, .int (iv 0))]) [1, 2, 3, 4, 0] rfl ?_
  exact B3 (Int.toNat (16 - 0)) _ ht 0 ⟨by omega, by omega⟩ (by omega)
set_option maxHeartbeats 4000000 in
set_option maxRecDepth 100000 in
theorem t_X6_firstLike {D : va_G} {cI cJ cZ cT : ClassId} {lo b L : Nat} {xs : Nat → Int32} {hp : MH} {n d : Nat} {Γ : TG} {ss : Nat} {so1 : Nat} {so2 : Nat} {x1 x3 x4 : Int} {j2 : Int64} (hd0 : 0 ≤ d) (hs : TySame Γ cI cJ cZ ss so1 so2) (ht : Tw Γ hp) (hx1 : 0 ≤ x1 ∧ x1 ≤ 512) (hx3 : 0 ≤ x3 ∧ x3 ≤ 65535) (hx4 : 0 ≤ x4 ∧ x4 ≤ 16) : Mt (gG D cI cJ cZ cT lo b L xs) mX6_firstLike d 0 0 [.ref ss, .int (iv x1), .long j2, .int (iv x3), .int (iv x4)] hp n (pR Γ n (-1) 15) := by
  obtain ⟨hs_O, hs_ties, hs_colours, hs_fresh, hs_numbering⟩ := id hs
  refine Mt.of rfl (Nat.le_of_ble_eq_true rfl) ?_
  refine Rn.pick (lv' := [(0, .ref ss), (1, .int (iv x1)), (2, .long j2), (4, .int (iv x3)), (5, .int (iv x4))]) [0, 1, 2, 3, 4] rfl ?_
  refine r_iconst (pc := 0) (v := iv 0) dX6_firstLike_0 (by decide) ?_
  refine r_istore (pc := 1) (lv' := [(6, .int (iv 0)), (0, .ref ss), (1, .int (iv x1)), (2, .long j2), (4, .int (iv x3)), (5, .int (iv x4))]) dX6_firstLike_1 (by decide) rfl ?_
  have B3 : ∀ k : Nat, ∀ hp3 : MH, Tw Γ hp3 → ∀  (v3_6 : Int), 0 ≤ v3_6 ∧ v3_6 ≤ 16 → 16 - v3_6 ≤ (k : Int) → Rn (gG D cI cJ cZ cT lo b L xs) mX6_firstLike d 3 [(0, .ref ss), (1, .int (iv x1)), (2, .long j2), (4, .int (iv x3)), (5, .int (iv x4)), (6, .int (iv v3_6))] [] hp3 n 0 0 (pR Γ n (-1) 15) := by
    refine lpS _ ?_
    intro k3 ih3 hp3 ht3 v3_6 hf3 hm3
    refine r_iload (pc := 3) dX6_firstLike_3 rfl ?_
    refine r_iload (pc := 5) dX6_firstLike_5 rfl ?_
    refine t_icmp_ge (pc := 7) (tgt := 46) dX6_firstLike_7 (by decide) (by omega) (by omega) (fun c7 => ?_) (fun c7 => ?_)
    · refine r_iconst (pc := 46) (v := iv (-1)) dX6_firstLike_46 (by decide) ?_
      exact r_iret (pc := 47) dX6_firstLike_47 rfl ⟨rfl, ht3, _, rfl, by omega, by omega⟩
    · refine r_iload (pc := 10) dX6_firstLike_10 rfl ?_
      refine r_iload (pc := 12) dX6_firstLike_12 rfl ?_
      obtain ⟨z1, hz1, bz1⟩ := shr_x x3 v3_6 (by omega) (by omega)
      refine r_ishr (pc := 14) (v := iv z1) dX6_firstLike_14 hz1 ?_
      refine r_iconst (pc := 15) (v := iv 1) dX6_firstLike_15 (by decide) ?_
      obtain ⟨z2, hz2, bz2⟩ := and_2 z1 1 (by omega) (by omega)
      refine r_iand (pc := 16) (v := iv z2) dX6_firstLike_16 hz2 ?_
      have B40 : ∀ hp40 : MH, Tw Γ hp40 → True → Rn (gG D cI cJ cZ cT lo b L xs) mX6_firstLike d 40 [(0, .ref ss), (1, .int (iv x1)), (2, .long j2), (4, .int (iv x3)), (5, .int (iv x4)), (6, .int (iv v3_6))] [] hp40 n 0 0 (pR Γ n (-1) 15) := by
        intro hp40 ht40 hf40
        refine r_iinc (pc := 40) (v := iv (v3_6 + 1)) (lv' := [(6, .int (iv (v3_6 + 1))), (0, .ref ss), (1, .int (iv x1)), (2, .long j2), (4, .int (iv x3)), (5, .int (iv x4))]) dX6_firstLike_40 rfl (iv_add _ _) (by decide) rfl ?_
        refine r_goto (pc := 43) (tgt := 3) dX6_firstLike_43 (by decide) ?_
        refine Rn.pick (lv' := [(0, .ref ss), (1, .int (iv x1)), (2, .long j2), (4, .int (iv x3)), (5, .int (iv x4)), (6, .int (iv (v3_6 + 1)))]) [1, 2, 3, 4, 5, 0] rfl ?_
        exact ih3 (Int.toNat (16 - (v3_6 + 1))) (by omega) _ ht40 (v3_6 + 1) ⟨by omega, by omega⟩ (by omega)
      refine t_if_ne (pc := 17) (tgt := 40) dX6_firstLike_17 (by decide) (by omega) (fun c17 => ?_) (fun c17 => ?_)
      · refine Rn.pick (lv' := [(0, .ref ss), (1, .int (iv x1)), (2, .long j2), (4, .int (iv x3)), (5, .int (iv x4)), (6, .int (iv v3_6))]) [0, 1, 2, 3, 4, 5] rfl ?_
        exact B40 _ ht3 trivial
      · refine r_aload_n (pc := 20) dX6_firstLike_20 (i := 0) rfl rfl ?_
        refine t_getE (pc := 21) (.ref (ss + 2)) ht3 hs_O fX6_15 dX6_firstLike_21 rfl ?_
        refine r_iload_n (pc := 24) dX6_firstLike_24 (i := 1) rfl rfl ?_
        refine r_bipush (pc := 25) (v := iv 16) dX6_firstLike_25 (by decide) ?_
        refine r_iadd (pc := 27) (v := iv (x1 + 16)) dX6_firstLike_27 (iv_add _ _) ?_
        refine r_iload (pc := 28) dX6_firstLike_28 rfl ?_
        refine r_iadd (pc := 30) (v := iv ((x1 + 16) + v3_6)) dX6_firstLike_30 (iv_add _ _) ?_
        refine t_lald (pc := 31) (t0 := 1) ht3 (rd_of hs_colours) dX6_firstLike_31 rfl (by decide) (by omega) (fun w3 _ => ?_)
        refine r_lload_n (pc := 32) dX6_firstLike_32 (i := 2) rfl rfl ?_
        refine r_lcmp (pc := 33) dX6_firstLike_33 ?_
        refine r_if_ne (pc := 34) (tgt := 40) dX6_firstLike_34 (by decide) (fun c34 => ?_) (fun c34 => ?_)
        · refine Rn.pick (lv' := [(0, .ref ss), (1, .int (iv x1)), (2, .long j2), (4, .int (iv x3)), (5, .int (iv x4)), (6, .int (iv v3_6))]) [0, 1, 2, 3, 4, 5] rfl ?_
          exact B40 _ ht3 trivial
        · refine r_iload (pc := 37) dX6_firstLike_37 rfl ?_
          exact r_iret (pc := 39) dX6_firstLike_39 rfl ⟨rfl, ht3, _, rfl, by omega, by omega⟩
  refine Rn.pick (lv' := [(0, .ref ss), (1, .int (iv x1)), (2, .long j2), (4, .int (iv x3)), (5, .int (iv x4)), (6, .int (iv 0))]) [1, 2, 3, 4, 5, 0] rfl ?_
  exact B3 (Int.toNat (16 - 0)) _ ht 0 ⟨by omega, by omega⟩ (by omega)
set_option maxHeartbeats 4000000 in
set_option maxRecDepth 100000 in
theorem t_X6_haveSameColours {D : va_G} {cI cJ cZ cT : ClassId} {lo b L : Nat} {xs : Nat → Int32} {hp : MH} {n d : Nat} {Γ : TG} {ss : Nat} {so1 : Nat} {so2 : Nat} {x1 x2 : Int} (hd0 : 1 ≤ d) (hs : TySame Γ cI cJ cZ ss so1 so2) (ht : Tw Γ hp) (hx1 : 0 ≤ x1 ∧ x1 ≤ 512) (hx2 : 0 ≤ x2 ∧ x2 ≤ 16) : Mt (gG D cI cJ cZ cT lo b L xs) mX6_haveSameColours d 0 0 [.ref ss, .int (iv x1), .int (iv x2)] hp n (pR Γ n 0 1) := by
  obtain ⟨hs_O, hs_ties, hs_colours, hs_fresh, hs_numbering⟩ := id hs
  refine Mt.of rfl (Nat.le_of_ble_eq_true rfl) ?_
  refine Rn.pick (lv' := [(0, .ref ss), (1, .int (iv x1)), (2, .int (iv x2))]) [0, 1, 2] rfl ?_
  refine r_iconst (pc := 0) (v := iv 0) dX6_haveSameColours_0 (by decide) ?_
  refine r_istore_n (pc := 1) (lv' := [(3, .int (iv 0)), (0, .ref ss), (1, .int (iv x1)), (2, .int (iv x2))]) dX6_haveSameColours_1 (i := 3) rfl (by decide) rfl ?_
  refine r_iconst (pc := 2) (v := iv 0) dX6_haveSameColours_2 (by decide) ?_
  refine r_istore (pc := 3) (lv' := [(4, .int (iv 0)), (3, .int (iv 0)), (0, .ref ss), (1, .int (iv x1)), (2, .int (iv x2))]) dX6_haveSameColours_3 (by decide) rfl ?_
  have B5 : ∀ k : Nat, ∀ hp5 : MH, Tw Γ hp5 → ∀  (v5_3 : Int) (v5_4 : Int), 0 ≤ v5_3 ∧ v5_3 ≤ 65535 ∧ 0 ≤ v5_4 ∧ v5_4 ≤ 16 → 16 - v5_4 ≤ (k : Int) → Rn (gG D cI cJ cZ cT lo b L xs) mX6_haveSameColours d 5 [(0, .ref ss), (1, .int (iv x1)), (2, .int (iv x2)), (3, .int (iv v5_3)), (4, .int (iv v5_4))] [] hp5 n 0 0 (pR Γ n 0 1) := by
    refine lpS _ ?_
    intro k5 ih5 hp5 ht5 v5_3 v5_4 hf5 hm5
    refine r_iload (pc := 5) dX6_haveSameColours_5 rfl ?_
    refine r_iload_n (pc := 7) dX6_haveSameColours_7 (i := 2) rfl rfl ?_
    refine t_icmp_ge (pc := 8) (tgt := 49) dX6_haveSameColours_8 (by decide) (by omega) (by omega) (fun c8 => ?_) (fun c8 => ?_)
    · refine r_iconst (pc := 49) (v := iv 1) dX6_haveSameColours_49 (by decide) ?_
      exact r_zret (pc := 50) dX6_haveSameColours_50 rfl (iv_nar (by omega)) ⟨rfl, ht5, _, rfl, by omega, by omega⟩
    · refine r_aload_n (pc := 11) dX6_haveSameColours_11 (i := 0) rfl rfl ?_
      refine r_iload_n (pc := 12) dX6_haveSameColours_12 (i := 1) rfl rfl ?_
      refine r_aload_n (pc := 13) dX6_haveSameColours_13 (i := 0) rfl rfl ?_
      refine t_getE (pc := 14) (.ref (ss + 2)) ht5 hs_O fX6_15 dX6_haveSameColours_14 rfl ?_
      refine r_iload_n (pc := 17) dX6_haveSameColours_17 (i := 1) rfl rfl ?_
      refine r_iload (pc := 18) dX6_haveSameColours_18 rfl ?_
      refine r_iadd (pc := 20) (v := iv (x1 + v5_4)) dX6_haveSameColours_20 (iv_add _ _) ?_
      refine t_lald (pc := 21) (t0 := 1) ht5 (rd_of hs_colours) dX6_haveSameColours_21 rfl (by decide) (by omega) (fun w1 _ => ?_)
      refine r_iload_n (pc := 22) dX6_haveSameColours_22 (i := 3) rfl rfl ?_
      refine r_iload_n (pc := 23) dX6_haveSameColours_23 (i := 2) rfl rfl ?_
      refine t_callVR (pc := 24) (as := [.int (iv x1), .long w1, .int (iv v5_3), .int (iv x2)]) (st := []) ht5 hs_O kX6_106 rfl dX6_haveSameColours_24 (t_X6_firstLike (d := d - 1) (x1 := x1) (j2 := w1) (x3 := v5_3) (x4 := x2) (by omega) hs  ht5 (by omega) (by omega) (by omega) ) rfl (by omega) (Nat.le_of_ble_eq_true rfl) rfl (fun hp2 y4 ht3 by4 => ?_)
      refine r_istore (pc := 27) (lv' := [(5, .int (iv y4)), (0, .ref ss), (1, .int (iv x1)), (2, .int (iv x2)), (3, .int (iv v5_3)), (4, .int (iv v5_4))]) dX6_haveSameColours_27 (by decide) rfl ?_
      refine r_iload (pc := 29) dX6_haveSameColours_29 rfl ?_
      refine t_if_ge (pc := 31) (tgt := 36) dX6_haveSameColours_31 (by decide) (by omega) (fun c31 => ?_) (fun c31 => ?_)
      · refine r_iload_n (pc := 36) dX6_haveSameColours_36 (i := 3) rfl rfl ?_
        refine r_iconst (pc := 37) (v := iv 1) dX6_haveSameColours_37 (by decide) ?_
        refine r_iload (pc := 38) dX6_haveSameColours_38 rfl ?_
        obtain ⟨z5, hz5, bz5⟩ := shl_1 0 15 y4 (by omega) (by omega) (by decide)
        refine r_ishl (pc := 40) (v := iv z5) dX6_haveSameColours_40 hz5 ?_
        obtain ⟨z6, hz6, bz6⟩ := or_2 16 v5_3 z5 (by omega) (by omega) (by decide)
        refine r_ior (pc := 41) (v := iv z6) dX6_haveSameColours_41 hz6 ?_
        refine r_istore_n (pc := 42) (lv' := [(3, .int (iv z6)), (5, .int (iv y4)), (0, .ref ss), (1, .int (iv x1)), (2, .int (iv x2)), (4, .int (iv v5_4))]) dX6_haveSameColours_42 (i := 3) rfl (by decide) rfl ?_
        refine r_iinc (pc := 43) (v := iv (v5_4 + 1)) (lv' := [(4, .int (iv (v5_4 + 1))), (3, .int (iv z6)), (5, .int (iv y4)), (0, .ref ss), (1, .int (iv x1)), (2, .int (iv x2))]) dX6_haveSameColours_43 rfl (iv_add _ _) (by decide) rfl ?_
        refine r_goto (pc := 46) (tgt := 5) dX6_haveSameColours_46 (by decide) ?_
        refine Rn.pick (lv' := [(0, .ref ss), (1, .int (iv x1)), (2, .int (iv x2)), (3, .int (iv z6)), (4, .int (iv (v5_4 + 1)))]) [3, 4, 5, 1, 0] rfl ?_
        exact ih5 (Int.toNat (16 - (v5_4 + 1))) (by omega) _ ht3 z6 (v5_4 + 1) ⟨by omega, by omega, by omega, by omega⟩ (by omega)
      · refine r_iconst (pc := 34) (v := iv 0) dX6_haveSameColours_34 (by decide) ?_
        exact r_zret (pc := 35) dX6_haveSameColours_35 rfl (iv_nar (by omega)) ⟨rfl, ht3, _, rfl, by omega, by omega⟩
  refine Rn.pick (lv' := [(0, .ref ss), (1, .int (iv x1)), (2, .int (iv x2)), (3, .int (iv 0)), (4, .int (iv 0))]) [2, 3, 4, 1, 0] rfl ?_
  exact B5 (Int.toNat (16 - 0)) _ ht 0 0 ⟨by omega, by omega, by omega, by omega⟩ (by omega)
set_option maxHeartbeats 4000000 in
set_option maxRecDepth 100000 in
theorem t_X6_refine {D : va_G} {cI cJ cZ cT : ClassId} {lo b L : Nat} {xs : Nat → Int32} {hp : MH} {n d : Nat} {Γ : TG} {ss : Nat} {ga : Nat} {gF : Nat} {gT : Nat} {gW : Nat} {gC : Nat} {gTl : Nat} {gHd : Nat} {gBy : Nat} {gOu : Nat} {gIn : Nat} {gJo : Nat} {gn : Nat} {gm : Nat} {gq : Nat} {gdr : Int} {ka : Nat} {kF : Nat} {kT : Nat} {kW : Nat} {kC : Nat} {kTl : Nat} {kHd : Nat} {kBy : Nat} {kOu : Nat} {kIn : Nat} {kJo : Nat} {kn : Nat} {km : Nat} {kq : Nat} {kdr : Int} {x1 : Int} (hd0 : 2 ≤ d) (hs : TySame Γ cI cJ cZ ss ga ka) (hg : TyG Γ cI cJ cZ ga gF gT gW gC gTl gHd gBy gOu gIn gJo gn gm gq gdr) (hk : TyG Γ cI cJ cZ ka kF kT kW kC kTl kHd kBy kOu kIn kJo kn km kq kdr) (ht : Tw Γ hp) (hx1 : 0 ≤ x1 ∧ x1 ≤ 16) : Mt (gG D cI cJ cZ cT lo b L xs) mX6_refine d 0 0 [.ref ss, .int (iv x1)] hp n (pR Γ n 0 1) := by
  obtain ⟨hs_O, hs_ties, hs_colours, hs_fresh, hs_numbering⟩ := id hs
  obtain ⟨hg_O, hg_from, hg_to, hg_weight, hg_cost, hg_tail, hg_head, hg_by, hg_out, hg_in, hg_joined, hg_b⟩ := id hg
  obtain ⟨hk_O, hk_from, hk_to, hk_weight, hk_cost, hk_tail, hk_head, hk_by, hk_out, hk_in, hk_joined, hk_b⟩ := id hk
  refine Mt.of rfl (Nat.le_of_ble_eq_true rfl) ?_
  refine Rn.pick (lv' := [(0, .ref ss), (1, .int (iv x1))]) [0, 1] rfl ?_
  refine r_aload_n (pc := 0) dX6_refine_0 (i := 0) rfl rfl ?_
  refine t_getE (pc := 1) (.ref ga) ht hs_O fX6_38 dX6_refine_1 rfl ?_
  refine t_getE (pc := 4) (.int (iv (gn : Int))) ht hg_O fX6_25 dX6_refine_4 rfl ?_
  refine r_istore_n (pc := 7) (lv' := [(2, .int (iv (gn : Int))), (0, .ref ss), (1, .int (iv x1))]) dX6_refine_7 (i := 2) rfl (by decide) rfl ?_
  refine r_iload_n (pc := 8) dX6_refine_8 (i := 1) rfl rfl ?_
  refine r_bipush (pc := 9) (v := iv 32) dX6_refine_9 (by decide) ?_
  refine r_imul (pc := 11) (v := iv (x1 * 32)) dX6_refine_11 (iv_mul _ _) ?_
  refine r_istore_n (pc := 12) (lv' := [(3, .int (iv (x1 * 32))), (2, .int (iv (gn : Int))), (0, .ref ss), (1, .int (iv x1))]) dX6_refine_12 (i := 3) rfl (by decide) rfl ?_
  refine r_iconst (pc := 13) (v := iv 0) dX6_refine_13 (by decide) ?_
  refine r_istore (pc := 14) (lv' := [(4, .int (iv 0)), (3, .int (iv (x1 * 32))), (2, .int (iv (gn : Int))), (0, .ref ss), (1, .int (iv x1))]) dX6_refine_14 (by decide) rfl ?_
  refine r_aload_n (pc := 16) dX6_refine_16 (i := 0) rfl rfl ?_
  refine r_iload_n (pc := 17) dX6_refine_17 (i := 3) rfl rfl ?_
  refine r_iload_n (pc := 18) dX6_refine_18 (i := 2) rfl rfl ?_
  refine t_callVR (pc := 19) (as := [.int (iv (x1 * 32)), .int (iv (gn : Int))]) (st := []) ht hs_O kX6_87 rfl dX6_refine_19 (t_X6_countColours (d := d - 1) (x1 := x1 * 32) (x2 := (gn : Int)) (by omega) hs  ht (by omega) (by omega) ) rfl (by omega) (Nat.le_of_ble_eq_true rfl) rfl (fun hp1 y3 ht2 by3 => ?_)
  refine r_istore (pc := 22) (lv' := [(5, .int (iv y3)), (4, .int (iv 0)), (3, .int (iv (x1 * 32))), (2, .int (iv (gn : Int))), (0, .ref ss), (1, .int (iv x1))]) dX6_refine_22 (by decide) rfl ?_
  refine r_iconst (pc := 24) (v := iv 0) dX6_refine_24 (by decide) ?_
  refine r_istore (pc := 25) (lv' := [(6, .int (iv 0)), (5, .int (iv y3)), (4, .int (iv 0)), (3, .int (iv (x1 * 32))), (2, .int (iv (gn : Int))), (0, .ref ss), (1, .int (iv x1))]) dX6_refine_25 (by decide) rfl ?_
  have B27 : ∀ k : Nat, ∀ hp27 : MH, Tw Γ hp27 → ∀  (v27_4 : Int) (v27_5 : Int) (v27_6 : Int), 0 ≤ v27_4 ∧ v27_4 ≤ 15 ∧ (-2147483648) ≤ v27_5 ∧ v27_5 ≤ 2147483647 ∧ 0 ≤ v27_6 ∧ v27_6 ≤ 16 → 16 - v27_6 ≤ (k : Int) → Rn (gG D cI cJ cZ cT lo b L xs) mX6_refine d 27 [(0, .ref ss), (2, .int (iv (gn : Int))), (3, .int (iv (x1 * 32))), (4, .int (iv v27_4)), (5, .int (iv v27_5)), (6, .int (iv v27_6))] [] hp27 n 0 0 (pR Γ n 0 1) := by
    refine lpS _ ?_
    intro k27 ih27 hp27 ht27 v27_4 v27_5 v27_6 hf27 hm27
    refine r_iload (pc := 27) dX6_refine_27 rfl ?_
    refine r_iload_n (pc := 29) dX6_refine_29 (i := 2) rfl rfl ?_
    have B94 : ∀ hp94 : MH, Tw Γ hp94 → True → Rn (gG D cI cJ cZ cT lo b L xs) mX6_refine d 94 [(0, .ref ss), (2, .int (iv (gn : Int))), (3, .int (iv (x1 * 32)))] [] hp94 n 0 0 (pR Γ n 0 1) := by
      intro hp94 ht94 hf94
      refine r_aload_n (pc := 94) dX6_refine_94 (i := 0) rfl rfl ?_
      refine r_iload_n (pc := 95) dX6_refine_95 (i := 3) rfl rfl ?_
      refine r_iload_n (pc := 96) dX6_refine_96 (i := 2) rfl rfl ?_
      refine t_callVR (pc := 97) (as := [.int (iv (x1 * 32)), .int (iv (gn : Int))]) (st := []) ht94 hs_O kX6_101 rfl dX6_refine_97 (t_X6_haveSameColours (d := d - 1) (x1 := x1 * 32) (x2 := (gn : Int)) (by omega) hs  ht94 (by omega) (by omega) ) rfl (by omega) (Nat.le_of_ble_eq_true rfl) rfl (fun hp4 y6 ht5 by6 => ?_)
      exact r_zret (pc := 100) dX6_refine_100 rfl (iv_nar (by omega)) ⟨rfl, ht5, _, rfl, by omega, by omega⟩
    refine t_icmp_ge (pc := 30) (tgt := 94) dX6_refine_30 (by decide) (by omega) (by omega) (fun c30 => ?_) (fun c30 => ?_)
    · refine Rn.pick (lv' := [(0, .ref ss), (2, .int (iv (gn : Int))), (3, .int (iv (x1 * 32)))]) [0, 1, 2] rfl ?_
      exact B94 _ ht27 trivial
    · refine r_iload (pc := 33) dX6_refine_33 rfl ?_
      refine r_iload (pc := 35) dX6_refine_35 rfl ?_
      refine t_icmp_le (pc := 37) (tgt := 94) dX6_refine_37 (by decide) (by omega) (by omega) (fun c37 => ?_) (fun c37 => ?_)
      · refine Rn.pick (lv' := [(0, .ref ss), (2, .int (iv (gn : Int))), (3, .int (iv (x1 * 32)))]) [0, 1, 2] rfl ?_
        exact B94 _ ht27 trivial
      · refine r_iload (pc := 40) dX6_refine_40 rfl ?_
        refine r_iload_n (pc := 42) dX6_refine_42 (i := 2) rfl rfl ?_
        refine t_icmp_ge (pc := 43) (tgt := 94) dX6_refine_43 (by decide) (by omega) (by omega) (fun c43 => ?_) (fun c43 => ?_)
        · refine Rn.pick (lv' := [(0, .ref ss), (2, .int (iv (gn : Int))), (3, .int (iv (x1 * 32)))]) [0, 1, 2] rfl ?_
          exact B94 _ ht27 trivial
        · refine r_aload_n (pc := 46) dX6_refine_46 (i := 0) rfl rfl ?_
          refine r_iload_n (pc := 47) dX6_refine_47 (i := 3) rfl rfl ?_
          refine r_iconst (pc := 48) (v := iv 0) dX6_refine_48 (by decide) ?_
          refine r_iload_n (pc := 49) dX6_refine_49 (i := 2) rfl rfl ?_
          refine t_callVV (pc := 50) (as := [.int (iv (x1 * 32)), .int (iv 0), .int (iv (gn : Int))]) (st := []) ht27 hs_O kX6_91 rfl dX6_refine_50 (t_X6_recolour (d := d - 1) (x1 := x1 * 32) (x2 := 0) (x3 := (gn : Int)) (by omega) hs  ht27 (by omega) (by omega) (by omega) ) rfl (by omega) (Nat.le_of_ble_eq_true rfl) rfl (fun hp7 ht8 => ?_)
          refine r_aload_n (pc := 53) dX6_refine_53 (i := 0) rfl rfl ?_
          refine r_iload_n (pc := 54) dX6_refine_54 (i := 3) rfl rfl ?_
          refine r_bipush (pc := 55) (v := iv 16) dX6_refine_55 (by decide) ?_
          refine r_iload_n (pc := 57) dX6_refine_57 (i := 2) rfl rfl ?_
          refine t_callVV (pc := 58) (as := [.int (iv (x1 * 32)), .int (iv 16), .int (iv (gn : Int))]) (st := []) ht8 hs_O kX6_91 rfl dX6_refine_58 (t_X6_recolour (d := d - 1) (x1 := x1 * 32) (x2 := 16) (x3 := (gn : Int)) (by omega) hs  ht8 (by omega) (by omega) (by omega) ) rfl (by omega) (Nat.le_of_ble_eq_true rfl) rfl (fun hp10 ht11 => ?_)
          refine r_aload_n (pc := 61) dX6_refine_61 (i := 0) rfl rfl ?_
          refine t_getE (pc := 62) (.ref (ss + 3)) ht11 hs_O fX6_18 dX6_refine_62 rfl ?_
          refine r_iconst (pc := 65) (v := iv 0) dX6_refine_65 (by decide) ?_
          refine r_aload_n (pc := 66) dX6_refine_66 (i := 0) rfl rfl ?_
          refine t_getE (pc := 67) (.ref (ss + 2)) ht11 hs_O fX6_15 dX6_refine_67 rfl ?_
          refine r_iload_n (pc := 70) dX6_refine_70 (i := 3) rfl rfl ?_
          refine r_bipush (pc := 71) (v := iv 32) dX6_refine_71 (by decide) ?_
          refine t_copyJ (pc := 73) (t0 := 1) ht11 (rd_of hs_fresh) hs_colours aX6_95 dX6_refine_73 rfl (by omega) (by omega) (Nat.le_of_ble_eq_true rfl) (fun hp13 ht14 => ?_)
          refine r_iload (pc := 76) dX6_refine_76 rfl ?_
          refine r_istore (pc := 78) (lv' := [(4, .int (iv v27_5)), (0, .ref ss), (2, .int (iv (gn : Int))), (3, .int (iv (x1 * 32))), (5, .int (iv v27_5)), (6, .int (iv v27_6))]) dX6_refine_78 (by decide) rfl ?_
          refine r_aload_n (pc := 80) dX6_refine_80 (i := 0) rfl rfl ?_
          refine r_iload_n (pc := 81) dX6_refine_81 (i := 3) rfl rfl ?_
          refine r_iload_n (pc := 82) dX6_refine_82 (i := 2) rfl rfl ?_
          refine t_callVR (pc := 83) (as := [.int (iv (x1 * 32)), .int (iv (gn : Int))]) (st := []) ht14 hs_O kX6_87 rfl dX6_refine_83 (t_X6_countColours (d := d - 1) (x1 := x1 * 32) (x2 := (gn : Int)) (by omega) hs  ht14 (by omega) (by omega) ) rfl (by omega) (Nat.le_of_ble_eq_true rfl) rfl (fun hp15 y17 ht16 by17 => ?_)
          refine r_istore (pc := 86) (lv' := [(5, .int (iv y17)), (4, .int (iv v27_5)), (0, .ref ss), (2, .int (iv (gn : Int))), (3, .int (iv (x1 * 32))), (6, .int (iv v27_6))]) dX6_refine_86 (by decide) rfl ?_
          refine r_iinc (pc := 88) (v := iv (v27_6 + 1)) (lv' := [(6, .int (iv (v27_6 + 1))), (5, .int (iv y17)), (4, .int (iv v27_5)), (0, .ref ss), (2, .int (iv (gn : Int))), (3, .int (iv (x1 * 32)))]) dX6_refine_88 rfl (iv_add _ _) (by decide) rfl ?_
          refine r_goto (pc := 91) (tgt := 27) dX6_refine_91 (by decide) ?_
          refine Rn.pick (lv' := [(0, .ref ss), (2, .int (iv (gn : Int))), (3, .int (iv (x1 * 32))), (4, .int (iv v27_5)), (5, .int (iv y17)), (6, .int (iv (v27_6 + 1)))]) [3, 4, 5, 2, 1, 0] rfl ?_
          exact ih27 (Int.toNat (16 - (v27_6 + 1))) (by omega) _ ht16 v27_5 y17 (v27_6 + 1) ⟨by omega, by omega, by omega, by omega, by omega, by omega⟩ (by omega)
  refine Rn.pick (lv' := [(0, .ref ss), (2, .int (iv (gn : Int))), (3, .int (iv (x1 * 32))), (4, .int (iv 0)), (5, .int (iv y3)), (6, .int (iv 0))]) [5, 4, 3, 2, 1, 0] rfl ?_
  exact B27 (Int.toNat (16 - 0)) _ ht2 0 y3 0 ⟨by omega, by omega, by omega, by omega, by omega, by omega⟩ (by omega)
set_option maxHeartbeats 4000000 in
set_option maxRecDepth 100000 in
theorem t_X6_markPair {D : va_G} {cI cJ cZ cT : ClassId} {lo b L : Nat} {xs : Nat → Int32} {hp : MH} {n d : Nat} {Γ : TG} {ss : Nat} {ga : Nat} {gF : Nat} {gT : Nat} {gW : Nat} {gC : Nat} {gTl : Nat} {gHd : Nat} {gBy : Nat} {gOu : Nat} {gIn : Nat} {gJo : Nat} {gn : Nat} {gm : Nat} {gq : Nat} {gdr : Int} {ka : Nat} {kF : Nat} {kT : Nat} {kW : Nat} {kC : Nat} {kTl : Nat} {kHd : Nat} {kBy : Nat} {kOu : Nat} {kIn : Nat} {kJo : Nat} {kn : Nat} {km : Nat} {kq : Nat} {kdr : Int} {x1 x2 x3 : Int} (hd0 : 3 ≤ d) (hs : TySame Γ cI cJ cZ ss ga ka) (hg : TyG Γ cI cJ cZ ga gF gT gW gC gTl gHd gBy gOu gIn gJo gn gm gq gdr) (hk : TyG Γ cI cJ cZ ka kF kT kW kC kTl kHd kBy kOu kIn kJo kn km kq kdr) (ht : Tw Γ hp) (hx1 : 0 ≤ x1 ∧ x1 ≤ 15) (hx2 : 0 ≤ x2 ∧ x2 ≤ 15) (hx3 : 0 ≤ x3 ∧ x3 ≤ 15) : Mt (gG D cI cJ cZ cT lo b L xs) mX6_markPair d 0 0 [.ref ss, .int (iv x1), .int (iv x2), .int (iv x3)] hp n (pR Γ n 0 1) := by
  obtain ⟨hs_O, hs_ties, hs_colours, hs_fresh, hs_numbering⟩ := id hs
  obtain ⟨hg_O, hg_from, hg_to, hg_weight, hg_cost, hg_tail, hg_head, hg_by, hg_out, hg_in, hg_joined, hg_b⟩ := id hg
  obtain ⟨hk_O, hk_from, hk_to, hk_weight, hk_cost, hk_tail, hk_head, hk_by, hk_out, hk_in, hk_joined, hk_b⟩ := id hk
  refine Mt.of rfl (Nat.le_of_ble_eq_true rfl) ?_
  refine Rn.pick (lv' := [(0, .ref ss), (1, .int (iv x1)), (2, .int (iv x2)), (3, .int (iv x3))]) [0, 1, 2, 3] rfl ?_
  refine r_iload_n (pc := 0) dX6_markPair_0 (i := 3) rfl rfl ?_
  refine r_bipush (pc := 1) (v := iv 32) dX6_markPair_1 (by decide) ?_
  refine r_imul (pc := 3) (v := iv (x3 * 32)) dX6_markPair_3 (iv_mul _ _) ?_
  refine r_istore (pc := 4) (lv' := [(4, .int (iv (x3 * 32))), (0, .ref ss), (1, .int (iv x1)), (2, .int (iv x2)), (3, .int (iv x3))]) dX6_markPair_4 (by decide) rfl ?_
  refine r_aload_n (pc := 6) dX6_markPair_6 (i := 0) rfl rfl ?_
  refine t_getE (pc := 7) (.ref (ss + 2)) ht hs_O fX6_15 dX6_markPair_7 rfl ?_
  refine r_iload (pc := 10) dX6_markPair_10 rfl ?_
  refine r_aload_n (pc := 12) dX6_markPair_12 (i := 0) rfl rfl ?_
  refine t_getE (pc := 13) (.ref (ss + 2)) ht hs_O fX6_15 dX6_markPair_13 rfl ?_
  refine r_iload (pc := 16) dX6_markPair_16 rfl ?_
  refine r_bipush (pc := 18) (v := iv 32) dX6_markPair_18 (by decide) ?_
  refine r_iadd (pc := 20) (v := iv ((x3 * 32) + 32)) dX6_markPair_20 (iv_add _ _) ?_
  refine r_bipush (pc := 21) (v := iv 32) dX6_markPair_21 (by decide) ?_
  refine t_copyJ (pc := 23) (t0 := 1) ht (rd_of hs_colours) hs_colours aX6_95 dX6_markPair_23 rfl (by omega) (by omega) (Nat.le_of_ble_eq_true rfl) (fun hp1 ht2 => ?_)
  refine r_aload_n (pc := 26) dX6_markPair_26 (i := 0) rfl rfl ?_
  refine t_getE (pc := 27) (.ref (ss + 2)) ht2 hs_O fX6_15 dX6_markPair_27 rfl ?_
  refine r_iload (pc := 30) dX6_markPair_30 rfl ?_
  refine r_iload_n (pc := 32) dX6_markPair_32 (i := 1) rfl rfl ?_
  refine r_iadd (pc := 33) (v := iv ((x3 * 32) + x1)) dX6_markPair_33 (iv_add _ _) ?_
  refine t_lald (pc := 34) (t0 := 1) ht2 (rd_of hs_colours) dX6_markPair_34 rfl (by decide) (by omega) (fun w3 _ => ?_)
  refine r_iload_n (pc := 35) dX6_markPair_35 (i := 1) rfl rfl ?_
  refine r_i2l (pc := 36) (v := (iv x1).toInt64) dX6_markPair_36 rfl ?_
  refine r_ladd (pc := 37) (v := w3 + ((iv x1).toInt64)) dX6_markPair_37 rfl ?_
  refine r_lconst (pc := 38) (v := 1) dX6_markPair_38 (by decide) ?_
  refine r_ladd (pc := 39) (v := (w3 + ((iv x1).toInt64)) + (1 : Int64)) dX6_markPair_39 rfl ?_
  refine t_callSJ (pc := 40) (as := [.long ((w3 + ((iv x1).toInt64)) + (1 : Int64))]) (st := []) kX6_77 dX6_markPair_40 (t_X6_scramble (d := d - 1) (j0 := (w3 + ((iv x1).toInt64)) + (1 : Int64)) (by omega)   ht2  ) rfl (by omega) (Nat.le_of_ble_eq_true rfl) rfl (fun hp4 y6 ht5 _ => ?_)
  refine r_lstore (pc := 43) (lv' := [(5, .long y6), (4, .int (iv (x3 * 32))), (0, .ref ss), (1, .int (iv x1)), (2, .int (iv x2)), (3, .int (iv x3))]) dX6_markPair_43 (by decide) rfl ?_
  refine r_aload_n (pc := 45) dX6_markPair_45 (i := 0) rfl rfl ?_
  refine t_getE (pc := 46) (.ref (ss + 2)) ht5 hs_O fX6_15 dX6_markPair_46 rfl ?_
  refine r_iload (pc := 49) dX6_markPair_49 rfl ?_
  refine r_bipush (pc := 51) (v := iv 32) dX6_markPair_51 (by decide) ?_
  refine r_iadd (pc := 53) (v := iv ((x3 * 32) + 32)) dX6_markPair_53 (iv_add _ _) ?_
  refine r_iload_n (pc := 54) dX6_markPair_54 (i := 1) rfl rfl ?_
  refine r_iadd (pc := 55) (v := iv (((x3 * 32) + 32) + x1)) dX6_markPair_55 (iv_add _ _) ?_
  refine r_lload (pc := 56) dX6_markPair_56 rfl ?_
  refine t_last (pc := 58) (t0 := 1) ht5 hs_colours dX6_markPair_58 rfl (by decide) (by omega) trivial (fun hp7 ht8 => ?_)
  refine r_aload_n (pc := 59) dX6_markPair_59 (i := 0) rfl rfl ?_
  refine t_getE (pc := 60) (.ref (ss + 2)) ht8 hs_O fX6_15 dX6_markPair_60 rfl ?_
  refine r_iload (pc := 63) dX6_markPair_63 rfl ?_
  refine r_bipush (pc := 65) (v := iv 32) dX6_markPair_65 (by decide) ?_
  refine r_iadd (pc := 67) (v := iv ((x3 * 32) + 32)) dX6_markPair_67 (iv_add _ _) ?_
  refine r_bipush (pc := 68) (v := iv 16) dX6_markPair_68 (by decide) ?_
  refine r_iadd (pc := 70) (v := iv (((x3 * 32) + 32) + 16)) dX6_markPair_70 (iv_add _ _) ?_
  refine r_iload_n (pc := 71) dX6_markPair_71 (i := 2) rfl rfl ?_
  refine r_iadd (pc := 72) (v := iv ((((x3 * 32) + 32) + 16) + x2)) dX6_markPair_72 (iv_add _ _) ?_
  refine r_lload (pc := 73) dX6_markPair_73 rfl ?_
  refine t_last (pc := 75) (t0 := 1) ht8 hs_colours dX6_markPair_75 rfl (by decide) (by omega) trivial (fun hp9 ht10 => ?_)
  refine r_aload_n (pc := 76) dX6_markPair_76 (i := 0) rfl rfl ?_
  refine r_iload_n (pc := 77) dX6_markPair_77 (i := 3) rfl rfl ?_
  refine r_iconst (pc := 78) (v := iv 1) dX6_markPair_78 (by decide) ?_
  refine r_iadd (pc := 79) (v := iv (x3 + 1)) dX6_markPair_79 (iv_add _ _) ?_
  refine t_callVR (pc := 80) (as := [.int (iv (x3 + 1))]) (st := []) ht10 hs_O kX6_59 rfl dX6_markPair_80 (t_X6_refine (d := d - 1) (x1 := x3 + 1) (by omega) hs hg hk  ht10 (by omega) ) rfl (by omega) (Nat.le_of_ble_eq_true rfl) rfl (fun hp11 y13 ht12 by13 => ?_)
  exact r_zret (pc := 83) dX6_markPair_83 rfl (iv_nar (by omega)) ⟨rfl, ht12, _, rfl, by omega, by omega⟩
set_option maxHeartbeats 4000000 in
set_option maxRecDepth 100000 in
theorem t_X6_sameArc {D : va_G} {cI cJ cZ cT : ClassId} {lo b L : Nat} {xs : Nat → Int32} {hp : MH} {n d : Nat} {Γ : TG} {ss : Nat} {ga : Nat} {gF : Nat} {gT : Nat} {gW : Nat} {gC : Nat} {gTl : Nat} {gHd : Nat} {gBy : Nat} {gOu : Nat} {gIn : Nat} {gJo : Nat} {gn : Nat} {gm : Nat} {gq : Nat} {gdr : Int} {ka : Nat} {kF : Nat} {kT : Nat} {kW : Nat} {kC : Nat} {kTl : Nat} {kHd : Nat} {kBy : Nat} {kOu : Nat} {kIn : Nat} {kJo : Nat} {kn : Nat} {km : Nat} {kq : Nat} {kdr : Int} {x1 : Int} {j2 : Int64} (hd0 : 0 ≤ d) (hs : TySame Γ cI cJ cZ ss ga ka) (hg : TyG Γ cI cJ cZ ga gF gT gW gC gTl gHd gBy gOu gIn gJo gn gm gq gdr) (hk : TyG Γ cI cJ cZ ka kF kT kW kC kTl kHd kBy kOu kIn kJo kn km kq kdr) (ht : Tw Γ hp) (hx1 : 0 ≤ x1 ∧ x1 ≤ 59) (hk1 : x1 < (gm : Int)) : Mt (gG D cI cJ cZ cT lo b L xs) mX6_sameArc d 0 0 [.ref ss, .int (iv x1), .long j2] hp n (pR Γ n (-1) 59) := by
  obtain ⟨hs_O, hs_ties, hs_colours, hs_fresh, hs_numbering⟩ := id hs
  obtain ⟨hg_O, hg_from, hg_to, hg_weight, hg_cost, hg_tail, hg_head, hg_by, hg_out, hg_in, hg_joined, hg_b⟩ := id hg
  obtain ⟨hk_O, hk_from, hk_to, hk_weight, hk_cost, hk_tail, hk_head, hk_by, hk_out, hk_in, hk_joined, hk_b⟩ := id hk
  refine Mt.of rfl (Nat.le_of_ble_eq_true rfl) ?_
  refine Rn.pick (lv' := [(0, .ref ss), (1, .int (iv x1)), (2, .long j2)]) [0, 1, 2] rfl ?_
  refine r_aload_n (pc := 0) dX6_sameArc_0 (i := 0) rfl rfl ?_
  refine t_getE (pc := 1) (.ref (ss + 4)) ht hs_O fX6_21 dX6_sameArc_1 rfl ?_
  refine r_aload_n (pc := 4) dX6_sameArc_4 (i := 0) rfl rfl ?_
  refine t_getE (pc := 5) (.ref ga) ht hs_O fX6_38 dX6_sameArc_5 rfl ?_
  refine t_getE (pc := 8) (.ref gF) ht hg_O fX6_81 dX6_sameArc_8 rfl ?_
  refine r_iload_n (pc := 11) dX6_sameArc_11 (i := 1) rfl rfl ?_
  refine t_ialdR (pc := 12) (t0 := 0) ht hg_from dX6_sameArc_12 rfl (by omega) (by omega) (fun y1 by1 => ?_)
  refine t_ialdR (pc := 13) (t0 := 0) ht (rd_of hs_numbering) dX6_sameArc_13 rfl (by decide) (by omega) (fun y2 by2 => ?_)
  refine r_istore (pc := 14) (lv' := [(4, .int (iv y2)), (0, .ref ss), (1, .int (iv x1)), (2, .long j2)]) dX6_sameArc_14 (by decide) rfl ?_
  refine r_aload_n (pc := 16) dX6_sameArc_16 (i := 0) rfl rfl ?_
  refine t_getE (pc := 17) (.ref (ss + 4)) ht hs_O fX6_21 dX6_sameArc_17 rfl ?_
  refine r_aload_n (pc := 20) dX6_sameArc_20 (i := 0) rfl rfl ?_
  refine t_getE (pc := 21) (.ref ga) ht hs_O fX6_38 dX6_sameArc_21 rfl ?_
  refine t_getE (pc := 24) (.ref gT) ht hg_O fX6_84 dX6_sameArc_24 rfl ?_
  refine r_iload_n (pc := 27) dX6_sameArc_27 (i := 1) rfl rfl ?_
  refine t_ialdR (pc := 28) (t0 := 0) ht hg_to dX6_sameArc_28 rfl (by omega) (by omega) (fun y3 by3 => ?_)
  refine t_ialdR (pc := 29) (t0 := 0) ht (rd_of hs_numbering) dX6_sameArc_29 rfl (by decide) (by omega) (fun y4 by4 => ?_)
  refine r_istore (pc := 30) (lv' := [(5, .int (iv y4)), (4, .int (iv y2)), (0, .ref ss), (1, .int (iv x1)), (2, .long j2)]) dX6_sameArc_30 (by decide) rfl ?_
  refine r_iconst (pc := 32) (v := iv 0) dX6_sameArc_32 (by decide) ?_
  refine r_istore (pc := 33) (lv' := [(6, .int (iv 0)), (5, .int (iv y4)), (4, .int (iv y2)), (0, .ref ss), (1, .int (iv x1)), (2, .long j2)]) dX6_sameArc_33 (by decide) rfl ?_
  have B35 : ∀ k : Nat, ∀ hp35 : MH, Tw Γ hp35 → ∀  (v35_6 : Int), 0 ≤ v35_6 ∧ v35_6 ≤ 60 → 60 - v35_6 ≤ (k : Int) → Rn (gG D cI cJ cZ cT lo b L xs) mX6_sameArc d 35 [(0, .ref ss), (1, .int (iv x1)), (2, .long j2), (4, .int (iv y2)), (5, .int (iv y4)), (6, .int (iv v35_6))] [] hp35 n 0 0 (pR Γ n (-1) 59) := by
    refine lpS _ ?_
    intro k35 ih35 hp35 ht35 v35_6 hf35 hm35
    refine r_iload (pc := 35) dX6_sameArc_35 rfl ?_
    refine r_aload_n (pc := 37) dX6_sameArc_37 (i := 0) rfl rfl ?_
    refine t_getE (pc := 38) (.ref ka) ht35 hs_O fX6_42 dX6_sameArc_38 rfl ?_
    refine t_getE (pc := 41) (.int (iv (km : Int))) ht35 hk_O fX6_35 dX6_sameArc_41 rfl ?_
    refine t_icmp_ge (pc := 44) (tgt := 217) dX6_sameArc_44 (by decide) (by omega) (by omega) (fun c44 => ?_) (fun c44 => ?_)
    · refine r_iconst (pc := 217) (v := iv (-1)) dX6_sameArc_217 (by decide) ?_
      exact r_iret (pc := 218) dX6_sameArc_218 rfl ⟨rfl, ht35, _, rfl, by omega, by omega⟩
    · refine r_aload_n (pc := 47) dX6_sameArc_47 (i := 0) rfl rfl ?_
      refine t_getE (pc := 48) (.ref ka) ht35 hs_O fX6_42 dX6_sameArc_48 rfl ?_
      refine t_getE (pc := 51) (.ref kF) ht35 hk_O fX6_81 dX6_sameArc_51 rfl ?_
      refine r_iload (pc := 54) dX6_sameArc_54 rfl ?_
      refine t_ialdR (pc := 56) (t0 := 0) ht35 hk_from dX6_sameArc_56 rfl (by omega) (by omega) (fun y5 by5 => ?_)
      refine r_iload (pc := 57) dX6_sameArc_57 rfl ?_
      have B82 : ∀ hp82 : MH, Tw Γ hp82 → ∀  (u82_0 : Int), 0 ≤ u82_0 ∧ u82_0 ≤ 1 → Rn (gG D cI cJ cZ cT lo b L xs) mX6_sameArc d 82 [(0, .ref ss), (1, .int (iv x1)), (2, .long j2), (4, .int (iv y2)), (5, .int (iv y4)), (6, .int (iv v35_6))] [.int (iv u82_0)] hp82 n 0 0 (pR Γ n (-1) 59) := by
        intro hp82 ht82 u82_0 hf82
        refine r_istore (pc := 82) (lv' := [(7, .int (iv u82_0)), (0, .ref ss), (1, .int (iv x1)), (2, .long j2), (4, .int (iv y2)), (5, .int (iv y4)), (6, .int (iv v35_6))]) dX6_sameArc_82 (by decide) rfl ?_
        refine r_aload_n (pc := 84) dX6_sameArc_84 (i := 0) rfl rfl ?_
        refine t_getE (pc := 85) (.ref ka) ht82 hs_O fX6_42 dX6_sameArc_85 rfl ?_
        refine t_getE (pc := 88) (.int (iv kdr)) ht82 hk_O fX6_31 dX6_sameArc_88 rfl ?_
        have B129 : ∀ hp129 : MH, Tw Γ hp129 → ∀  (u129_0 : Int), 0 ≤ u129_0 ∧ u129_0 ≤ 1 → Rn (gG D cI cJ cZ cT lo b L xs) mX6_sameArc d 129 [(0, .ref ss), (1, .int (iv x1)), (2, .long j2), (4, .int (iv y2)), (5, .int (iv y4)), (6, .int (iv v35_6)), (7, .int (iv u82_0))] [.int (iv u129_0)] hp129 n 0 0 (pR Γ n (-1) 59) := by
          intro hp129 ht129 u129_0 hf129
          refine r_istore (pc := 129) (lv' := [(8, .int (iv u129_0)), (0, .ref ss), (1, .int (iv x1)), (2, .long j2), (4, .int (iv y2)), (5, .int (iv y4)), (6, .int (iv v35_6)), (7, .int (iv u82_0))]) dX6_sameArc_129 (by decide) rfl ?_
          refine r_aload_n (pc := 131) dX6_sameArc_131 (i := 0) rfl rfl ?_
          refine t_getE (pc := 132) (.ref ka) ht129 hs_O fX6_42 dX6_sameArc_132 rfl ?_
          refine t_getE (pc := 135) (.ref kW) ht129 hk_O fX6_69 dX6_sameArc_135 rfl ?_
          refine r_iload (pc := 138) dX6_sameArc_138 rfl ?_
          refine t_ialdR (pc := 140) (t0 := 0) ht129 hk_weight dX6_sameArc_140 rfl (by omega) (by omega) (fun y6 by6 => ?_)
          refine r_aload_n (pc := 141) dX6_sameArc_141 (i := 0) rfl rfl ?_
          refine t_getE (pc := 142) (.ref ga) ht129 hs_O fX6_38 dX6_sameArc_142 rfl ?_
          refine t_getE (pc := 145) (.ref gW) ht129 hg_O fX6_69 dX6_sameArc_145 rfl ?_
          refine r_iload_n (pc := 148) dX6_sameArc_148 (i := 1) rfl rfl ?_
          refine t_ialdR (pc := 149) (t0 := 0) ht129 hg_weight dX6_sameArc_149 rfl (by omega) (by omega) (fun y7 by7 => ?_)
          have B180 : ∀ hp180 : MH, Tw Γ hp180 → ∀  (u180_0 : Int), 0 ≤ u180_0 ∧ u180_0 ≤ 1 → Rn (gG D cI cJ cZ cT lo b L xs) mX6_sameArc d 180 [(0, .ref ss), (1, .int (iv x1)), (2, .long j2), (4, .int (iv y2)), (5, .int (iv y4)), (6, .int (iv v35_6)), (7, .int (iv u82_0)), (8, .int (iv u129_0))] [.int (iv u180_0)] hp180 n 0 0 (pR Γ n (-1) 59) := by
            intro hp180 ht180 u180_0 hf180
            refine r_istore (pc := 180) (lv' := [(9, .int (iv u180_0)), (0, .ref ss), (1, .int (iv x1)), (2, .long j2), (4, .int (iv y2)), (5, .int (iv y4)), (6, .int (iv v35_6)), (7, .int (iv u82_0)), (8, .int (iv u129_0))]) dX6_sameArc_180 (by decide) rfl ?_
            refine r_lload_n (pc := 182) dX6_sameArc_182 (i := 2) rfl rfl ?_
            refine r_iload (pc := 183) dX6_sameArc_183 rfl ?_
            refine r_lshr (pc := 185) dX6_sameArc_185 ?_
            refine r_lconst (pc := 186) (v := 1) dX6_sameArc_186 (by decide) ?_
            refine r_land (pc := 187) (v := (j2 >>> ((iv v35_6).toInt64 &&& 63)) &&& (1 : Int64)) dX6_sameArc_187 rfl ?_
            refine r_lconst (pc := 188) (v := 0) dX6_sameArc_188 (by decide) ?_
            refine r_lcmp (pc := 189) dX6_sameArc_189 ?_
            have B211 : ∀ hp211 : MH, Tw Γ hp211 → True → Rn (gG D cI cJ cZ cT lo b L xs) mX6_sameArc d 211 [(0, .ref ss), (1, .int (iv x1)), (2, .long j2), (4, .int (iv y2)), (5, .int (iv y4)), (6, .int (iv v35_6))] [] hp211 n 0 0 (pR Γ n (-1) 59) := by
              intro hp211 ht211 hf211
              refine r_iinc (pc := 211) (v := iv (v35_6 + 1)) (lv' := [(6, .int (iv (v35_6 + 1))), (0, .ref ss), (1, .int (iv x1)), (2, .long j2), (4, .int (iv y2)), (5, .int (iv y4))]) dX6_sameArc_211 rfl (iv_add _ _) (by decide) rfl ?_
              refine r_goto (pc := 214) (tgt := 35) dX6_sameArc_214 (by decide) ?_
              refine Rn.pick (lv' := [(0, .ref ss), (1, .int (iv x1)), (2, .long j2), (4, .int (iv y2)), (5, .int (iv y4)), (6, .int (iv (v35_6 + 1)))]) [1, 2, 3, 4, 5, 0] rfl ?_
              exact ih35 (Int.toNat (60 - (v35_6 + 1))) (by omega) _ ht211 (v35_6 + 1) ⟨by omega, by omega⟩ (by omega)
            refine r_if_ne (pc := 190) (tgt := 211) dX6_sameArc_190 (by decide) (fun c190 => ?_) (fun c190 => ?_)
            · refine Rn.pick (lv' := [(0, .ref ss), (1, .int (iv x1)), (2, .long j2), (4, .int (iv y2)), (5, .int (iv y4)), (6, .int (iv v35_6))]) [1, 2, 3, 4, 5, 6] rfl ?_
              exact B211 _ ht180 trivial
            · refine r_iload (pc := 193) dX6_sameArc_193 rfl ?_
              refine t_if_eq (pc := 195) (tgt := 211) dX6_sameArc_195 (by decide) (by omega) (fun c195 => ?_) (fun c195 => ?_)
              · refine Rn.pick (lv' := [(0, .ref ss), (1, .int (iv x1)), (2, .long j2), (4, .int (iv y2)), (5, .int (iv y4)), (6, .int (iv v35_6))]) [1, 2, 3, 4, 5, 6] rfl ?_
                exact B211 _ ht180 trivial
              · refine r_iload (pc := 198) dX6_sameArc_198 rfl ?_
                have B208 : ∀ hp208 : MH, Tw Γ hp208 → True → Rn (gG D cI cJ cZ cT lo b L xs) mX6_sameArc d 208 [(6, .int (iv v35_6))] [] hp208 n 0 0 (pR Γ n (-1) 59) := by
                  intro hp208 ht208 hf208
                  refine r_iload (pc := 208) dX6_sameArc_208 rfl ?_
                  exact r_iret (pc := 210) dX6_sameArc_210 rfl ⟨rfl, ht208, _, rfl, by omega, by omega⟩
                refine t_if_ne (pc := 200) (tgt := 208) dX6_sameArc_200 (by decide) (by omega) (fun c200 => ?_) (fun c200 => ?_)
                · refine Rn.pick (lv' := [(6, .int (iv v35_6))]) [6] rfl ?_
                  exact B208 _ ht180 trivial
                · refine r_iload (pc := 203) dX6_sameArc_203 rfl ?_
                  refine t_if_eq (pc := 205) (tgt := 211) dX6_sameArc_205 (by decide) (by omega) (fun c205 => ?_) (fun c205 => ?_)
                  · refine Rn.pick (lv' := [(0, .ref ss), (1, .int (iv x1)), (2, .long j2), (4, .int (iv y2)), (5, .int (iv y4)), (6, .int (iv v35_6))]) [1, 2, 3, 4, 5, 6] rfl ?_
                    exact B211 _ ht180 trivial
                  · refine Rn.pick (lv' := [(6, .int (iv v35_6))]) [6] rfl ?_
                    exact B208 _ ht180 trivial
          have B179 : ∀ hp179 : MH, Tw Γ hp179 → True → Rn (gG D cI cJ cZ cT lo b L xs) mX6_sameArc d 179 [(0, .ref ss), (1, .int (iv x1)), (2, .long j2), (4, .int (iv y2)), (5, .int (iv y4)), (6, .int (iv v35_6)), (7, .int (iv u82_0)), (8, .int (iv u129_0))] [] hp179 n 0 0 (pR Γ n (-1) 59) := by
            intro hp179 ht179 hf179
            refine r_iconst (pc := 179) (v := iv 0) dX6_sameArc_179 (by decide) ?_
            refine Rn.pick (lv' := [(0, .ref ss), (1, .int (iv x1)), (2, .long j2), (4, .int (iv y2)), (5, .int (iv y4)), (6, .int (iv v35_6)), (7, .int (iv u82_0)), (8, .int (iv u129_0))]) [0, 1, 2, 3, 4, 5, 6, 7] rfl ?_
            exact B180 _ ht179 0 ⟨by omega, by omega⟩
          refine t_icmp_ne (pc := 150) (tgt := 179) dX6_sameArc_150 (by decide) (by omega) (by omega) (fun c150 => ?_) (fun c150 => ?_)
          · refine Rn.pick (lv' := [(0, .ref ss), (1, .int (iv x1)), (2, .long j2), (4, .int (iv y2)), (5, .int (iv y4)), (6, .int (iv v35_6)), (7, .int (iv u82_0)), (8, .int (iv u129_0))]) [1, 2, 3, 4, 5, 6, 7, 0] rfl ?_
            exact B179 _ ht129 trivial
          · refine r_aload_n (pc := 153) dX6_sameArc_153 (i := 0) rfl rfl ?_
            refine t_getE (pc := 154) (.ref ka) ht129 hs_O fX6_42 dX6_sameArc_154 rfl ?_
            refine t_getE (pc := 157) (.ref kC) ht129 hk_O fX6_74 dX6_sameArc_157 rfl ?_
            refine r_iload (pc := 160) dX6_sameArc_160 rfl ?_
            refine t_ialdR (pc := 162) (t0 := 0) ht129 hk_cost dX6_sameArc_162 rfl (by omega) (by omega) (fun y8 by8 => ?_)
            refine r_aload_n (pc := 163) dX6_sameArc_163 (i := 0) rfl rfl ?_
            refine t_getE (pc := 164) (.ref ga) ht129 hs_O fX6_38 dX6_sameArc_164 rfl ?_
            refine t_getE (pc := 167) (.ref gC) ht129 hg_O fX6_74 dX6_sameArc_167 rfl ?_
            refine r_iload_n (pc := 170) dX6_sameArc_170 (i := 1) rfl rfl ?_
            refine t_ialdR (pc := 171) (t0 := 0) ht129 hg_cost dX6_sameArc_171 rfl (by omega) (by omega) (fun y9 by9 => ?_)
            refine t_icmp_ne (pc := 172) (tgt := 179) dX6_sameArc_172 (by decide) (by omega) (by omega) (fun c172 => ?_) (fun c172 => ?_)
            · refine Rn.pick (lv' := [(0, .ref ss), (1, .int (iv x1)), (2, .long j2), (4, .int (iv y2)), (5, .int (iv y4)), (6, .int (iv v35_6)), (7, .int (iv u82_0)), (8, .int (iv u129_0))]) [1, 2, 3, 4, 5, 6, 7, 0] rfl ?_
              exact B179 _ ht129 trivial
            · refine r_iconst (pc := 175) (v := iv 1) dX6_sameArc_175 (by decide) ?_
              refine r_goto (pc := 176) (tgt := 180) dX6_sameArc_176 (by decide) ?_
              refine Rn.pick (lv' := [(0, .ref ss), (1, .int (iv x1)), (2, .long j2), (4, .int (iv y2)), (5, .int (iv y4)), (6, .int (iv v35_6)), (7, .int (iv u82_0)), (8, .int (iv u129_0))]) [1, 2, 3, 4, 5, 6, 7, 0] rfl ?_
              exact B180 _ ht129 1 ⟨by omega, by omega⟩
        have B128 : ∀ hp128 : MH, Tw Γ hp128 → True → Rn (gG D cI cJ cZ cT lo b L xs) mX6_sameArc d 128 [(0, .ref ss), (1, .int (iv x1)), (2, .long j2), (4, .int (iv y2)), (5, .int (iv y4)), (6, .int (iv v35_6)), (7, .int (iv u82_0))] [] hp128 n 0 0 (pR Γ n (-1) 59) := by
          intro hp128 ht128 hf128
          refine r_iconst (pc := 128) (v := iv 0) dX6_sameArc_128 (by decide) ?_
          refine Rn.pick (lv' := [(0, .ref ss), (1, .int (iv x1)), (2, .long j2), (4, .int (iv y2)), (5, .int (iv y4)), (6, .int (iv v35_6)), (7, .int (iv u82_0))]) [0, 1, 2, 3, 4, 5, 6] rfl ?_
          exact B129 _ ht128 0 ⟨by omega, by omega⟩
        refine t_if_ne (pc := 91) (tgt := 128) dX6_sameArc_91 (by decide) (by omega) (fun c91 => ?_) (fun c91 => ?_)
        · refine Rn.pick (lv' := [(0, .ref ss), (1, .int (iv x1)), (2, .long j2), (4, .int (iv y2)), (5, .int (iv y4)), (6, .int (iv v35_6)), (7, .int (iv u82_0))]) [1, 2, 3, 4, 5, 6, 0] rfl ?_
          exact B128 _ ht82 trivial
        · refine r_aload_n (pc := 94) dX6_sameArc_94 (i := 0) rfl rfl ?_
          refine t_getE (pc := 95) (.ref ka) ht82 hs_O fX6_42 dX6_sameArc_95 rfl ?_
          refine t_getE (pc := 98) (.ref kF) ht82 hk_O fX6_81 dX6_sameArc_98 rfl ?_
          refine r_iload (pc := 101) dX6_sameArc_101 rfl ?_
          refine t_ialdR (pc := 103) (t0 := 0) ht82 hk_from dX6_sameArc_103 rfl (by omega) (by omega) (fun y10 by10 => ?_)
          refine r_iload (pc := 104) dX6_sameArc_104 rfl ?_
          refine t_icmp_ne (pc := 106) (tgt := 128) dX6_sameArc_106 (by decide) (by omega) (by omega) (fun c106 => ?_) (fun c106 => ?_)
          · refine Rn.pick (lv' := [(0, .ref ss), (1, .int (iv x1)), (2, .long j2), (4, .int (iv y2)), (5, .int (iv y4)), (6, .int (iv v35_6)), (7, .int (iv u82_0))]) [1, 2, 3, 4, 5, 6, 0] rfl ?_
            exact B128 _ ht82 trivial
          · refine r_aload_n (pc := 109) dX6_sameArc_109 (i := 0) rfl rfl ?_
            refine t_getE (pc := 110) (.ref ka) ht82 hs_O fX6_42 dX6_sameArc_110 rfl ?_
            refine t_getE (pc := 113) (.ref kT) ht82 hk_O fX6_84 dX6_sameArc_113 rfl ?_
            refine r_iload (pc := 116) dX6_sameArc_116 rfl ?_
            refine t_ialdR (pc := 118) (t0 := 0) ht82 hk_to dX6_sameArc_118 rfl (by omega) (by omega) (fun y11 by11 => ?_)
            refine r_iload (pc := 119) dX6_sameArc_119 rfl ?_
            refine t_icmp_ne (pc := 121) (tgt := 128) dX6_sameArc_121 (by decide) (by omega) (by omega) (fun c121 => ?_) (fun c121 => ?_)
            · refine Rn.pick (lv' := [(0, .ref ss), (1, .int (iv x1)), (2, .long j2), (4, .int (iv y2)), (5, .int (iv y4)), (6, .int (iv v35_6)), (7, .int (iv u82_0))]) [1, 2, 3, 4, 5, 6, 0] rfl ?_
              exact B128 _ ht82 trivial
            · refine r_iconst (pc := 124) (v := iv 1) dX6_sameArc_124 (by decide) ?_
              refine r_goto (pc := 125) (tgt := 129) dX6_sameArc_125 (by decide) ?_
              refine Rn.pick (lv' := [(0, .ref ss), (1, .int (iv x1)), (2, .long j2), (4, .int (iv y2)), (5, .int (iv y4)), (6, .int (iv v35_6)), (7, .int (iv u82_0))]) [1, 2, 3, 4, 5, 6, 0] rfl ?_
              exact B129 _ ht82 1 ⟨by omega, by omega⟩
      have B81 : ∀ hp81 : MH, Tw Γ hp81 → True → Rn (gG D cI cJ cZ cT lo b L xs) mX6_sameArc d 81 [(0, .ref ss), (1, .int (iv x1)), (2, .long j2), (4, .int (iv y2)), (5, .int (iv y4)), (6, .int (iv v35_6))] [] hp81 n 0 0 (pR Γ n (-1) 59) := by
        intro hp81 ht81 hf81
        refine r_iconst (pc := 81) (v := iv 0) dX6_sameArc_81 (by decide) ?_
        refine Rn.pick (lv' := [(0, .ref ss), (1, .int (iv x1)), (2, .long j2), (4, .int (iv y2)), (5, .int (iv y4)), (6, .int (iv v35_6))]) [0, 1, 2, 3, 4, 5] rfl ?_
        exact B82 _ ht81 0 ⟨by omega, by omega⟩
      refine t_icmp_ne (pc := 59) (tgt := 81) dX6_sameArc_59 (by decide) (by omega) (by omega) (fun c59 => ?_) (fun c59 => ?_)
      · refine Rn.pick (lv' := [(0, .ref ss), (1, .int (iv x1)), (2, .long j2), (4, .int (iv y2)), (5, .int (iv y4)), (6, .int (iv v35_6))]) [0, 1, 2, 3, 4, 5] rfl ?_
        exact B81 _ ht35 trivial
      · refine r_aload_n (pc := 62) dX6_sameArc_62 (i := 0) rfl rfl ?_
        refine t_getE (pc := 63) (.ref ka) ht35 hs_O fX6_42 dX6_sameArc_63 rfl ?_
        refine t_getE (pc := 66) (.ref kT) ht35 hk_O fX6_84 dX6_sameArc_66 rfl ?_
        refine r_iload (pc := 69) dX6_sameArc_69 rfl ?_
        refine t_ialdR (pc := 71) (t0 := 0) ht35 hk_to dX6_sameArc_71 rfl (by omega) (by omega) (fun y12 by12 => ?_)
        refine r_iload (pc := 72) dX6_sameArc_72 rfl ?_
        refine t_icmp_ne (pc := 74) (tgt := 81) dX6_sameArc_74 (by decide) (by omega) (by omega) (fun c74 => ?_) (fun c74 => ?_)
        · refine Rn.pick (lv' := [(0, .ref ss), (1, .int (iv x1)), (2, .long j2), (4, .int (iv y2)), (5, .int (iv y4)), (6, .int (iv v35_6))]) [0, 1, 2, 3, 4, 5] rfl ?_
          exact B81 _ ht35 trivial
        · refine r_iconst (pc := 77) (v := iv 1) dX6_sameArc_77 (by decide) ?_
          refine r_goto (pc := 78) (tgt := 82) dX6_sameArc_78 (by decide) ?_
          refine Rn.pick (lv' := [(0, .ref ss), (1, .int (iv x1)), (2, .long j2), (4, .int (iv y2)), (5, .int (iv y4)), (6, .int (iv v35_6))]) [0, 1, 2, 3, 4, 5] rfl ?_
          exact B82 _ ht35 1 ⟨by omega, by omega⟩
  refine Rn.pick (lv' := [(0, .ref ss), (1, .int (iv x1)), (2, .long j2), (4, .int (iv y2)), (5, .int (iv y4)), (6, .int (iv 0))]) [3, 4, 5, 2, 1, 0] rfl ?_
  exact B35 (Int.toNat (60 - 0)) _ ht 0 ⟨by omega, by omega⟩ (by omega)
set_option maxHeartbeats 4000000 in
set_option maxRecDepth 100000 in
theorem t_X6_haveSameArcs {D : va_G} {cI cJ cZ cT : ClassId} {lo b L : Nat} {xs : Nat → Int32} {hp : MH} {n d : Nat} {Γ : TG} {ss : Nat} {ga : Nat} {gF : Nat} {gT : Nat} {gW : Nat} {gC : Nat} {gTl : Nat} {gHd : Nat} {gBy : Nat} {gOu : Nat} {gIn : Nat} {gJo : Nat} {gn : Nat} {gm : Nat} {gq : Nat} {gdr : Int} {ka : Nat} {kF : Nat} {kT : Nat} {kW : Nat} {kC : Nat} {kTl : Nat} {kHd : Nat} {kBy : Nat} {kOu : Nat} {kIn : Nat} {kJo : Nat} {kn : Nat} {km : Nat} {kq : Nat} {kdr : Int} (hd0 : 1 ≤ d) (hs : TySame Γ cI cJ cZ ss ga ka) (hg : TyG Γ cI cJ cZ ga gF gT gW gC gTl gHd gBy gOu gIn gJo gn gm gq gdr) (hk : TyG Γ cI cJ cZ ka kF kT kW kC kTl kHd kBy kOu kIn kJo kn km kq kdr) (ht : Tw Γ hp)  : Mt (gG D cI cJ cZ cT lo b L xs) mX6_haveSameArcs d 0 0 [.ref ss] hp n (pR Γ n 0 1) := by
  obtain ⟨hs_O, hs_ties, hs_colours, hs_fresh, hs_numbering⟩ := id hs
  obtain ⟨hg_O, hg_from, hg_to, hg_weight, hg_cost, hg_tail, hg_head, hg_by, hg_out, hg_in, hg_joined, hg_b⟩ := id hg
  obtain ⟨hk_O, hk_from, hk_to, hk_weight, hk_cost, hk_tail, hk_head, hk_by, hk_out, hk_in, hk_joined, hk_b⟩ := id hk
  refine Mt.of rfl (Nat.le_of_ble_eq_true rfl) ?_
  refine Rn.pick (lv' := [(0, .ref ss)]) [0] rfl ?_
  refine r_iconst (pc := 0) (v := iv 0) dX6_haveSameArcs_0 (by decide) ?_
  refine r_istore_n (pc := 1) (lv' := [(1, .int (iv 0)), (0, .ref ss)]) dX6_haveSameArcs_1 (i := 1) rfl (by decide) rfl ?_
  refine r_iconst (pc := 2) (v := iv 0) dX6_haveSameArcs_2 (by decide) ?_
  refine r_istore_n (pc := 3) (lv' := [(2, .int (iv 0)), (1, .int (iv 0)), (0, .ref ss)]) dX6_haveSameArcs_3 (i := 2) rfl (by decide) rfl ?_
  have B4 : ∀ k : Nat, ∀ hp4 : MH, Tw Γ hp4 → ∀  (v4_1 : Int) (v4_2 : Int), 0 ≤ v4_1 ∧ v4_1 ≤ 65535 ∧ 0 ≤ v4_2 ∧ v4_2 ≤ 16 → 16 - v4_2 ≤ (k : Int) → Rn (gG D cI cJ cZ cT lo b L xs) mX6_haveSameArcs d 4 [(0, .ref ss), (1, .int (iv v4_1)), (2, .int (iv v4_2))] [] hp4 n 0 0 (pR Γ n 0 1) := by
    refine lpS _ ?_
    intro k4 ih4 hp4 ht4 v4_1 v4_2 hf4 hm4
    refine r_iload_n (pc := 4) dX6_haveSameArcs_4 (i := 2) rfl rfl ?_
    refine r_aload_n (pc := 5) dX6_haveSameArcs_5 (i := 0) rfl rfl ?_
    refine t_getE (pc := 6) (.ref ga) ht4 hs_O fX6_38 dX6_haveSameArcs_6 rfl ?_
    refine t_getE (pc := 9) (.int (iv (gn : Int))) ht4 hg_O fX6_25 dX6_haveSameArcs_9 rfl ?_
    refine t_icmp_ge (pc := 12) (tgt := 32) dX6_haveSameArcs_12 (by decide) (by omega) (by omega) (fun c12 => ?_) (fun c12 => ?_)
    · refine r_iload_n (pc := 32) dX6_haveSameArcs_32 (i := 1) rfl rfl ?_
      refine r_aload_n (pc := 33) dX6_haveSameArcs_33 (i := 0) rfl rfl ?_
      refine t_getE (pc := 34) (.ref ga) ht4 hs_O fX6_38 dX6_haveSameArcs_34 rfl ?_
      refine t_callVR (pc := 37) (as := []) (st := [.int (iv v4_1)]) ht4 hg_O kX6_118 rfl dX6_haveSameArcs_37 (t_X3_allNodes (d := d - 1)  (by omega) hg  ht4  ) rfl (by omega) (Nat.le_of_ble_eq_true rfl) rfl (fun hp1 y3 ht2 by3 => ?_)
      refine t_icmp_eq (pc := 40) (tgt := 45) dX6_haveSameArcs_40 (by decide) (by omega) (by omega) (fun c40 => ?_) (fun c40 => ?_)
      · refine r_lconst (pc := 45) (v := 0) dX6_haveSameArcs_45 (by decide) ?_
        refine r_lstore_n (pc := 46) (lv' := [(2, .long (0 : Int64)), (0, .ref ss), (1, .int (iv v4_1))]) dX6_haveSameArcs_46 (i := 2) rfl (by decide) rfl ?_
        refine r_iconst (pc := 47) (v := iv 0) dX6_haveSameArcs_47 (by decide) ?_
        refine r_istore (pc := 48) (lv' := [(4, .int (iv 0)), (2, .long (0 : Int64)), (0, .ref ss), (1, .int (iv v4_1))]) dX6_haveSameArcs_48 (by decide) rfl ?_
        have B50 : ∀ k : Nat, ∀ hp50 : MH, Tw Γ hp50 → ∀  (v50_4 : Int) (w50_2 : Int64), 0 ≤ v50_4 ∧ v50_4 ≤ 60 → 60 - v50_4 ≤ (k : Int) → Rn (gG D cI cJ cZ cT lo b L xs) mX6_haveSameArcs d 50 [(0, .ref ss), (2, .long w50_2), (4, .int (iv v50_4))] [] hp50 n 0 0 (pR Γ n 0 1) := by
          refine lpS _ ?_
          intro k50 ih50 hp50 ht50 v50_4 w50_2 hf50 hm50
          refine r_iload (pc := 50) dX6_haveSameArcs_50 rfl ?_
          refine r_aload_n (pc := 52) dX6_haveSameArcs_52 (i := 0) rfl rfl ?_
          refine t_getE (pc := 53) (.ref ga) ht50 hs_O fX6_38 dX6_haveSameArcs_53 rfl ?_
          refine t_getE (pc := 56) (.int (iv (gm : Int))) ht50 hg_O fX6_35 dX6_haveSameArcs_56 rfl ?_
          refine t_icmp_ge (pc := 59) (tgt := 91) dX6_haveSameArcs_59 (by decide) (by omega) (by omega) (fun c59 => ?_) (fun c59 => ?_)
          · refine r_iconst (pc := 91) (v := iv 1) dX6_haveSameArcs_91 (by decide) ?_
            exact r_zret (pc := 92) dX6_haveSameArcs_92 rfl (iv_nar (by omega)) ⟨rfl, ht50, _, rfl, by omega, by omega⟩
          · refine r_aload_n (pc := 62) dX6_haveSameArcs_62 (i := 0) rfl rfl ?_
            refine r_iload (pc := 63) dX6_haveSameArcs_63 rfl ?_
            refine r_lload_n (pc := 65) dX6_haveSameArcs_65 (i := 2) rfl rfl ?_
            refine t_callVR (pc := 66) (as := [.int (iv v50_4), .long w50_2]) (st := []) ht50 hs_O kX6_122 rfl dX6_haveSameArcs_66 (t_X6_sameArc (d := d - 1) (x1 := v50_4) (j2 := w50_2) (by omega) hs hg hk  ht50 (by omega) (by omega)) rfl (by omega) (Nat.le_of_ble_eq_true rfl) rfl (fun hp4 y6 ht5 by6 => ?_)
            refine r_istore (pc := 69) (lv' := [(5, .int (iv y6)), (0, .ref ss), (2, .long w50_2), (4, .int (iv v50_4))]) dX6_haveSameArcs_69 (by decide) rfl ?_
            refine r_iload (pc := 71) dX6_haveSameArcs_71 rfl ?_
            refine t_if_ge (pc := 73) (tgt := 78) dX6_haveSameArcs_73 (by decide) (by omega) (fun c73 => ?_) (fun c73 => ?_)
            · refine r_lload_n (pc := 78) dX6_haveSameArcs_78 (i := 2) rfl rfl ?_
              refine r_lconst (pc := 79) (v := 1) dX6_haveSameArcs_79 (by decide) ?_
              refine r_iload (pc := 80) dX6_haveSameArcs_80 rfl ?_
              refine r_lshl (pc := 82) dX6_haveSameArcs_82 ?_
              refine r_lor (pc := 83) (v := w50_2 ||| ((1 : Int64) <<< ((iv y6).toInt64 &&& 63))) dX6_haveSameArcs_83 rfl ?_
              refine r_lstore_n (pc := 84) (lv' := [(2, .long (w50_2 ||| ((1 : Int64) <<< ((iv y6).toInt64 &&& 63)))), (5, .int (iv y6)), (0, .ref ss), (4, .int (iv v50_4))]) dX6_haveSameArcs_84 (i := 2) rfl (by decide) rfl ?_
              refine r_iinc (pc := 85) (v := iv (v50_4 + 1)) (lv' := [(4, .int (iv (v50_4 + 1))), (2, .long (w50_2 ||| ((1 : Int64) <<< ((iv y6).toInt64 &&& 63)))), (5, .int (iv y6)), (0, .ref ss)]) dX6_haveSameArcs_85 rfl (iv_add _ _) (by decide) rfl ?_
              refine r_goto (pc := 88) (tgt := 50) dX6_haveSameArcs_88 (by decide) ?_
              refine Rn.pick (lv' := [(0, .ref ss), (2, .long (w50_2 ||| ((1 : Int64) <<< ((iv y6).toInt64 &&& 63)))), (4, .int (iv (v50_4 + 1)))]) [3, 1, 0] rfl ?_
              exact ih50 (Int.toNat (60 - (v50_4 + 1))) (by omega) _ ht5 (v50_4 + 1) (w50_2 ||| ((1 : Int64) <<< ((iv y6).toInt64 &&& 63))) ⟨by omega, by omega⟩ (by omega)
            · refine r_iconst (pc := 76) (v := iv 0) dX6_haveSameArcs_76 (by decide) ?_
              exact r_zret (pc := 77) dX6_haveSameArcs_77 rfl (iv_nar (by omega)) ⟨rfl, ht5, _, rfl, by omega, by omega⟩
        refine Rn.pick (lv' := [(0, .ref ss), (2, .long (0 : Int64)), (4, .int (iv 0))]) [2, 1, 0] rfl ?_
        exact B50 (Int.toNat (60 - 0)) _ ht2 0 (0 : Int64) ⟨by omega, by omega⟩ (by omega)
      · refine r_iconst (pc := 43) (v := iv 0) dX6_haveSameArcs_43 (by decide) ?_
        exact r_zret (pc := 44) dX6_haveSameArcs_44 rfl (iv_nar (by omega)) ⟨rfl, ht2, _, rfl, by omega, by omega⟩
    · refine r_iload_n (pc := 15) dX6_haveSameArcs_15 (i := 1) rfl rfl ?_
      refine r_iconst (pc := 16) (v := iv 1) dX6_haveSameArcs_16 (by decide) ?_
      refine r_aload_n (pc := 17) dX6_haveSameArcs_17 (i := 0) rfl rfl ?_
      refine t_getE (pc := 18) (.ref (ss + 4)) ht4 hs_O fX6_21 dX6_haveSameArcs_18 rfl ?_
      refine r_iload_n (pc := 21) dX6_haveSameArcs_21 (i := 2) rfl rfl ?_
      refine t_ialdR (pc := 22) (t0 := 0) ht4 (rd_of hs_numbering) dX6_haveSameArcs_22 rfl (by decide) (by omega) (fun y7 by7 => ?_)
      obtain ⟨z8, hz8, bz8⟩ := shl_1 0 15 y7 (by omega) (by omega) (by decide)
      refine r_ishl (pc := 23) (v := iv z8) dX6_haveSameArcs_23 hz8 ?_
      obtain ⟨z9, hz9, bz9⟩ := or_2 16 v4_1 z8 (by omega) (by omega) (by decide)
      refine r_ior (pc := 24) (v := iv z9) dX6_haveSameArcs_24 hz9 ?_
      refine r_istore_n (pc := 25) (lv' := [(1, .int (iv z9)), (0, .ref ss), (2, .int (iv v4_2))]) dX6_haveSameArcs_25 (i := 1) rfl (by decide) rfl ?_
      refine r_iinc (pc := 26) (v := iv (v4_2 + 1)) (lv' := [(2, .int (iv (v4_2 + 1))), (1, .int (iv z9)), (0, .ref ss)]) dX6_haveSameArcs_26 rfl (iv_add _ _) (by decide) rfl ?_
      refine r_goto (pc := 29) (tgt := 4) dX6_haveSameArcs_29 (by decide) ?_
      refine Rn.pick (lv' := [(0, .ref ss), (1, .int (iv z9)), (2, .int (iv (v4_2 + 1)))]) [2, 1, 0] rfl ?_
      exact ih4 (Int.toNat (16 - (v4_2 + 1))) (by omega) _ ht4 z9 (v4_2 + 1) ⟨by omega, by omega, by omega, by omega⟩ (by omega)
  refine Rn.pick (lv' := [(0, .ref ss), (1, .int (iv 0)), (2, .int (iv 0))]) [2, 1, 0] rfl ?_
  exact B4 (Int.toNat (16 - 0)) _ ht 0 0 ⟨by omega, by omega, by omega, by omega⟩ (by omega)
set_option maxHeartbeats 4000000 in
set_option maxRecDepth 100000 in
theorem t_X6_canNumber {D : va_G} {cI cJ cZ cT : ClassId} {lo b L : Nat} {xs : Nat → Int32} (k : Nat) : ∀ (hp : MH) (n d : Nat) (Γ : TG) (ss : Nat) (ga : Nat) (gF : Nat) (gT : Nat) (gW : Nat) (gC : Nat) (gTl : Nat) (gHd : Nat) (gBy : Nat) (gOu : Nat) (gIn : Nat) (gJo : Nat) (gn : Nat) (gm : Nat) (gq : Nat) (gdr : Int) (ka : Nat) (kF : Nat) (kT : Nat) (kW : Nat) (kC : Nat) (kTl : Nat) (kHd : Nat) (kBy : Nat) (kOu : Nat) (kIn : Nat) (kJo : Nat) (kn : Nat) (km : Nat) (kq : Nat) (kdr : Int) (x1 x2 : Int) (hd0 : k + 4 ≤ d) (hs : TySame Γ cI cJ cZ ss ga ka) (hg : TyG Γ cI cJ cZ ga gF gT gW gC gTl gHd gBy gOu gIn gJo gn gm gq gdr) (hk : TyG Γ cI cJ cZ ka kF kT kW kC kTl kHd kBy kOu kIn kJo kn km kq kdr) (ht : Tw Γ hp) (hx1 : 0 ≤ x1 ∧ x1 ≤ 16) (hx2 : 0 ≤ x2 ∧ x2 ≤ 16) (hk9 : 16 - x1 ≤ (k : Int)), Mt (gG D cI cJ cZ cT lo b L xs) mX6_canNumber d 0 0 [.ref ss, .int (iv x1), .int (iv x2)] hp n (pR Γ n 0 1) := by
  revert k
  refine lpS _ ?_
  intro k ih hp n d Γ ss ga gF gT gW gC gTl gHd gBy gOu gIn gJo gn gm gq gdr ka kF kT kW kC kTl kHd kBy kOu kIn kJo kn km kq kdr x1 x2 hd0 hs hg hk ht hx1 hx2 hk9
  obtain ⟨hs_O, hs_ties, hs_colours, hs_fresh, hs_numbering⟩ := id hs
  obtain ⟨hg_O, hg_from, hg_to, hg_weight, hg_cost, hg_tail, hg_head, hg_by, hg_out, hg_in, hg_joined, hg_b⟩ := id hg
  obtain ⟨hk_O, hk_from, hk_to, hk_weight, hk_cost, hk_tail, hk_head, hk_by, hk_out, hk_in, hk_joined, hk_b⟩ := id hk
  refine Mt.of rfl (Nat.le_of_ble_eq_true rfl) ?_
  refine Rn.pick (lv' := [(0, .ref ss), (1, .int (iv x1)), (2, .int (iv x2))]) [0, 1, 2] rfl ?_
  refine r_aload_n (pc := 0) dX6_canNumber_0 (i := 0) rfl rfl ?_
  refine t_getE (pc := 1) (.ref ga) ht hs_O fX6_38 dX6_canNumber_1 rfl ?_
  refine t_getE (pc := 4) (.int (iv (gn : Int))) ht hg_O fX6_25 dX6_canNumber_4 rfl ?_
  refine r_istore_n (pc := 7) (lv' := [(3, .int (iv (gn : Int))), (0, .ref ss), (1, .int (iv x1)), (2, .int (iv x2))]) dX6_canNumber_7 (i := 3) rfl (by decide) rfl ?_
  refine r_iload_n (pc := 8) dX6_canNumber_8 (i := 1) rfl rfl ?_
  refine r_iload_n (pc := 9) dX6_canNumber_9 (i := 3) rfl rfl ?_
  refine t_icmp_lt (pc := 10) (tgt := 18) dX6_canNumber_10 (by decide) (by omega) (by omega) (fun c10 => ?_) (fun c10 => ?_)
  · refine r_iload_n (pc := 18) dX6_canNumber_18 (i := 2) rfl rfl ?_
    refine r_bipush (pc := 19) (v := iv 32) dX6_canNumber_19 (by decide) ?_
    refine r_imul (pc := 21) (v := iv (x2 * 32)) dX6_canNumber_21 (iv_mul _ _) ?_
    refine r_istore (pc := 22) (lv' := [(4, .int (iv (x2 * 32))), (3, .int (iv (gn : Int))), (0, .ref ss), (1, .int (iv x1)), (2, .int (iv x2))]) dX6_canNumber_22 (by decide) rfl ?_
    refine r_aload_n (pc := 24) dX6_canNumber_24 (i := 0) rfl rfl ?_
    refine t_getE (pc := 25) (.ref (ss + 2)) ht hs_O fX6_15 dX6_canNumber_25 rfl ?_
    refine r_iload (pc := 28) dX6_canNumber_28 rfl ?_
    refine r_iload_n (pc := 30) dX6_canNumber_30 (i := 1) rfl rfl ?_
    refine r_iadd (pc := 31) (v := iv ((x2 * 32) + x1)) dX6_canNumber_31 (iv_add _ _) ?_
    refine t_lald (pc := 32) (t0 := 1) ht (rd_of hs_colours) dX6_canNumber_32 rfl (by decide) (by omega) (fun w1 _ => ?_)
    refine r_lstore (pc := 33) (lv' := [(5, .long w1), (4, .int (iv (x2 * 32))), (3, .int (iv (gn : Int))), (0, .ref ss), (1, .int (iv x1)), (2, .int (iv x2))]) dX6_canNumber_33 (by decide) rfl ?_
    refine r_iconst (pc := 35) (v := iv 0) dX6_canNumber_35 (by decide) ?_
    refine r_istore (pc := 36) (lv' := [(7, .int (iv 0)), (5, .long w1), (4, .int (iv (x2 * 32))), (3, .int (iv (gn : Int))), (0, .ref ss), (1, .int (iv x1)), (2, .int (iv x2))]) dX6_canNumber_36 (by decide) rfl ?_
    refine r_iconst (pc := 38) (v := iv 0) dX6_canNumber_38 (by decide) ?_
    refine r_istore (pc := 39) (lv' := [(8, .int (iv 0)), (7, .int (iv 0)), (5, .long w1), (4, .int (iv (x2 * 32))), (3, .int (iv (gn : Int))), (0, .ref ss), (1, .int (iv x1)), (2, .int (iv x2))]) dX6_canNumber_39 (by decide) rfl ?_
    have B41 : ∀ k : Nat, ∀ hp41 : MH, Tw Γ hp41 → ∀  (v41_7 : Int) (v41_8 : Int), 0 ≤ v41_7 ∧ v41_7 ≤ 65535 ∧ 0 ≤ v41_8 ∧ v41_8 ≤ 16 → 16 - v41_8 ≤ (k : Int) → Rn (gG D cI cJ cZ cT lo b L xs) mX6_canNumber d 41 [(0, .ref ss), (1, .int (iv x1)), (2, .int (iv x2)), (3, .int (iv (gn : Int))), (4, .int (iv (x2 * 32))), (5, .long w1), (7, .int (iv v41_7)), (8, .int (iv v41_8))] [] hp41 n 0 0 (pR Γ n 0 1) := by
      refine lpS _ ?_
      intro k41 ih41 hp41 ht41 v41_7 v41_8 hf41 hm41
      refine r_iload (pc := 41) dX6_canNumber_41 rfl ?_
      refine r_iload_n (pc := 43) dX6_canNumber_43 (i := 3) rfl rfl ?_
      refine t_icmp_ge (pc := 44) (tgt := 164) dX6_canNumber_44 (by decide) (by omega) (by omega) (fun c44 => ?_) (fun c44 => ?_)
      · refine r_iconst (pc := 164) (v := iv 0) dX6_canNumber_164 (by decide) ?_
        exact r_zret (pc := 165) dX6_canNumber_165 rfl (iv_nar (by omega)) ⟨rfl, ht41, _, rfl, by omega, by omega⟩
      · refine r_aload_n (pc := 47) dX6_canNumber_47 (i := 0) rfl rfl ?_
        refine r_iload (pc := 48) dX6_canNumber_48 rfl ?_
        refine r_lload (pc := 50) dX6_canNumber_50 rfl ?_
        refine r_iload (pc := 52) dX6_canNumber_52 rfl ?_
        refine r_iload_n (pc := 54) dX6_canNumber_54 (i := 3) rfl rfl ?_
        refine t_callVR (pc := 55) (as := [.int (iv (x2 * 32)), .long w1, .int (iv v41_7), .int (iv (gn : Int))]) (st := []) ht41 hs_O kX6_106 rfl dX6_canNumber_55 (t_X6_firstLike (d := d - 1) (x1 := x2 * 32) (j2 := w1) (x3 := v41_7) (x4 := (gn : Int)) (by omega) hs  ht41 (by omega) (by omega) (by omega) ) rfl (by omega) (Nat.le_of_ble_eq_true rfl) rfl (fun hp2 y4 ht3 by4 => ?_)
        refine r_istore (pc := 58) (lv' := [(9, .int (iv y4)), (0, .ref ss), (1, .int (iv x1)), (2, .int (iv x2)), (3, .int (iv (gn : Int))), (4, .int (iv (x2 * 32))), (5, .long w1), (7, .int (iv v41_7)), (8, .int (iv v41_8))]) dX6_canNumber_58 (by decide) rfl ?_
        refine r_iload (pc := 60) dX6_canNumber_60 rfl ?_
        refine t_if_ge (pc := 62) (tgt := 67) dX6_canNumber_62 (by decide) (by omega) (fun c62 => ?_) (fun c62 => ?_)
        · refine r_iload (pc := 67) dX6_canNumber_67 rfl ?_
          have B93 : ∀ hp93 : MH, Tw Γ hp93 → ∀  (u93_0 : Int), 0 ≤ u93_0 ∧ u93_0 ≤ 1 → Rn (gG D cI cJ cZ cT lo b L xs) mX6_canNumber d 93 [(0, .ref ss), (1, .int (iv x1)), (2, .int (iv x2)), (3, .int (iv (gn : Int))), (4, .int (iv (x2 * 32))), (5, .long w1), (7, .int (iv v41_7)), (8, .int (iv v41_8)), (9, .int (iv y4))] [.int (iv u93_0)] hp93 n 0 0 (pR Γ n 0 1) := by
            intro hp93 ht93 u93_0 hf93
            refine r_istore (pc := 93) (lv' := [(10, .int (iv u93_0)), (0, .ref ss), (1, .int (iv x1)), (2, .int (iv x2)), (3, .int (iv (gn : Int))), (4, .int (iv (x2 * 32))), (5, .long w1), (7, .int (iv v41_7)), (8, .int (iv v41_8)), (9, .int (iv y4))]) dX6_canNumber_93 (by decide) rfl ?_
            refine r_iload (pc := 95) dX6_canNumber_95 rfl ?_
            refine r_iconst (pc := 97) (v := iv 1) dX6_canNumber_97 (by decide) ?_
            refine r_iload (pc := 98) dX6_canNumber_98 rfl ?_
            obtain ⟨z5, hz5, bz5⟩ := shl_1 0 15 y4 (by omega) (by omega) (by decide)
            refine r_ishl (pc := 100) (v := iv z5) dX6_canNumber_100 hz5 ?_
            obtain ⟨z6, hz6, bz6⟩ := or_2 16 v41_7 z5 (by omega) (by omega) (by decide)
            refine r_ior (pc := 101) (v := iv z6) dX6_canNumber_101 hz6 ?_
            refine r_istore (pc := 102) (lv' := [(7, .int (iv z6)), (10, .int (iv u93_0)), (0, .ref ss), (1, .int (iv x1)), (2, .int (iv x2)), (3, .int (iv (gn : Int))), (4, .int (iv (x2 * 32))), (5, .long w1), (8, .int (iv v41_8)), (9, .int (iv y4))]) dX6_canNumber_102 (by decide) rfl ?_
            refine r_aload_n (pc := 104) dX6_canNumber_104 (i := 0) rfl rfl ?_
            refine t_getE (pc := 105) (.ref (ss + 4)) ht93 hs_O fX6_21 dX6_canNumber_105 rfl ?_
            refine r_iload_n (pc := 108) dX6_canNumber_108 (i := 1) rfl rfl ?_
            refine r_iload (pc := 109) dX6_canNumber_109 rfl ?_
            refine t_iastR (pc := 111) (t0 := 0) ht93 hs_numbering dX6_canNumber_111 rfl (by decide) (by decide) (by omega) (by omega) (fun hp7 ht8 => ?_)
            refine r_iload (pc := 112) dX6_canNumber_112 rfl ?_
            refine t_if_eq (pc := 114) (tgt := 126) dX6_canNumber_114 (by decide) (by omega) (fun c114 => ?_) (fun c114 => ?_)
            · refine r_iload_n (pc := 126) dX6_canNumber_126 (i := 2) rfl rfl ?_
              refine r_bipush (pc := 127) (v := iv 16) dX6_canNumber_127 (by decide) ?_
              have B158 : ∀ hp158 : MH, Tw Γ hp158 → True → Rn (gG D cI cJ cZ cT lo b L xs) mX6_canNumber d 158 [(0, .ref ss), (1, .int (iv x1)), (2, .int (iv x2)), (3, .int (iv (gn : Int))), (4, .int (iv (x2 * 32))), (5, .long w1), (7, .int (iv z6)), (8, .int (iv v41_8))] [] hp158 n 0 0 (pR Γ n 0 1) := by
                intro hp158 ht158 hf158
                refine r_iinc (pc := 158) (v := iv (v41_8 + 1)) (lv' := [(8, .int (iv (v41_8 + 1))), (0, .ref ss), (1, .int (iv x1)), (2, .int (iv x2)), (3, .int (iv (gn : Int))), (4, .int (iv (x2 * 32))), (5, .long w1), (7, .int (iv z6))]) dX6_canNumber_158 rfl (iv_add _ _) (by decide) rfl ?_
                refine r_goto (pc := 161) (tgt := 41) dX6_canNumber_161 (by decide) ?_
                refine Rn.pick (lv' := [(0, .ref ss), (1, .int (iv x1)), (2, .int (iv x2)), (3, .int (iv (gn : Int))), (4, .int (iv (x2 * 32))), (5, .long w1), (7, .int (iv z6)), (8, .int (iv (v41_8 + 1)))]) [1, 2, 3, 4, 5, 6, 7, 0] rfl ?_
                exact ih41 (Int.toNat (16 - (v41_8 + 1))) (by omega) _ ht158 z6 (v41_8 + 1) ⟨by omega, by omega, by omega, by omega⟩ (by omega)
              refine t_icmp_ge (pc := 129) (tgt := 158) dX6_canNumber_129 (by decide) (by omega) (by omega) (fun c129 => ?_) (fun c129 => ?_)
              · refine Rn.pick (lv' := [(0, .ref ss), (1, .int (iv x1)), (2, .int (iv x2)), (3, .int (iv (gn : Int))), (4, .int (iv (x2 * 32))), (5, .long w1), (7, .int (iv z6)), (8, .int (iv v41_8))]) [2, 3, 4, 5, 6, 7, 0, 8] rfl ?_
                exact B158 _ ht8 trivial
              · refine r_aload_n (pc := 132) dX6_canNumber_132 (i := 0) rfl rfl ?_
                refine r_iload_n (pc := 133) dX6_canNumber_133 (i := 1) rfl rfl ?_
                refine r_iload (pc := 134) dX6_canNumber_134 rfl ?_
                refine r_iload_n (pc := 136) dX6_canNumber_136 (i := 2) rfl rfl ?_
                refine t_callVR (pc := 137) (as := [.int (iv x1), .int (iv y4), .int (iv x2)]) (st := []) ht8 hs_O kX6_114 rfl dX6_canNumber_137 (t_X6_markPair (d := d - 1) (x1 := x1) (x2 := y4) (x3 := x2) (by omega) hs hg hk  ht8 (by omega) (by omega) (by omega) ) rfl (by omega) (Nat.le_of_ble_eq_true rfl) rfl (fun hp9 y11 ht10 by11 => ?_)
                refine t_if_eq (pc := 140) (tgt := 158) dX6_canNumber_140 (by decide) (by omega) (fun c140 => ?_) (fun c140 => ?_)
                · refine Rn.pick (lv' := [(0, .ref ss), (1, .int (iv x1)), (2, .int (iv x2)), (3, .int (iv (gn : Int))), (4, .int (iv (x2 * 32))), (5, .long w1), (7, .int (iv z6)), (8, .int (iv v41_8))]) [2, 3, 4, 5, 6, 7, 0, 8] rfl ?_
                  exact B158 _ ht10 trivial
                · refine r_aload_n (pc := 143) dX6_canNumber_143 (i := 0) rfl rfl ?_
                  refine r_iload_n (pc := 144) dX6_canNumber_144 (i := 1) rfl rfl ?_
                  refine r_iconst (pc := 145) (v := iv 1) dX6_canNumber_145 (by decide) ?_
                  refine r_iadd (pc := 146) (v := iv (x1 + 1)) dX6_canNumber_146 (iv_add _ _) ?_
                  refine r_iload_n (pc := 147) dX6_canNumber_147 (i := 2) rfl rfl ?_
                  refine r_iconst (pc := 148) (v := iv 1) dX6_canNumber_148 (by decide) ?_
                  refine r_iadd (pc := 149) (v := iv (x2 + 1)) dX6_canNumber_149 (iv_add _ _) ?_
                  refine t_callVR (pc := 150) (as := [.int (iv (x1 + 1)), .int (iv (x2 + 1))]) (st := []) ht10 hs_O kX6_63 rfl dX6_canNumber_150 (ih (Int.toNat (16 - (x1 + 1))) (by omega) _ _ (d - 1) Γ _ _ _ _ _ _ _ _ _ _ _ _ _ _ _ _ _ _ _ _ _ _ _ _ _ _ _ _ _ _ _ _ _ (by omega) hs hg hk  ht10 (by omega) (by omega)  (by omega)) rfl (by omega) (Nat.le_of_ble_eq_true rfl) rfl (fun hp12 y14 ht13 by14 => ?_)
                  refine t_if_eq (pc := 153) (tgt := 158) dX6_canNumber_153 (by decide) (by omega) (fun c153 => ?_) (fun c153 => ?_)
                  · refine Rn.pick (lv' := [(0, .ref ss), (1, .int (iv x1)), (2, .int (iv x2)), (3, .int (iv (gn : Int))), (4, .int (iv (x2 * 32))), (5, .long w1), (7, .int (iv z6)), (8, .int (iv v41_8))]) [2, 3, 4, 5, 6, 7, 0, 8] rfl ?_
                    exact B158 _ ht13 trivial
                  · refine r_iconst (pc := 156) (v := iv 1) dX6_canNumber_156 (by decide) ?_
                    exact r_zret (pc := 157) dX6_canNumber_157 rfl (iv_nar (by omega)) ⟨rfl, ht13, _, rfl, by omega, by omega⟩
            · refine r_aload_n (pc := 117) dX6_canNumber_117 (i := 0) rfl rfl ?_
              refine r_iload_n (pc := 118) dX6_canNumber_118 (i := 1) rfl rfl ?_
              refine r_iconst (pc := 119) (v := iv 1) dX6_canNumber_119 (by decide) ?_
              refine r_iadd (pc := 120) (v := iv (x1 + 1)) dX6_canNumber_120 (iv_add _ _) ?_
              refine r_iload_n (pc := 121) dX6_canNumber_121 (i := 2) rfl rfl ?_
              refine t_callVR (pc := 122) (as := [.int (iv (x1 + 1)), .int (iv x2)]) (st := []) ht8 hs_O kX6_63 rfl dX6_canNumber_122 (ih (Int.toNat (16 - (x1 + 1))) (by omega) _ _ (d - 1) Γ _ _ _ _ _ _ _ _ _ _ _ _ _ _ _ _ _ _ _ _ _ _ _ _ _ _ _ _ _ _ _ _ _ (by omega) hs hg hk  ht8 (by omega) (by omega)  (by omega)) rfl (by omega) (Nat.le_of_ble_eq_true rfl) rfl (fun hp15 y17 ht16 by17 => ?_)
              exact r_zret (pc := 125) dX6_canNumber_125 rfl (iv_nar (by omega)) ⟨rfl, ht16, _, rfl, by omega, by omega⟩
          have B92 : ∀ hp92 : MH, Tw Γ hp92 → True → Rn (gG D cI cJ cZ cT lo b L xs) mX6_canNumber d 92 [(0, .ref ss), (1, .int (iv x1)), (2, .int (iv x2)), (3, .int (iv (gn : Int))), (4, .int (iv (x2 * 32))), (5, .long w1), (7, .int (iv v41_7)), (8, .int (iv v41_8)), (9, .int (iv y4))] [] hp92 n 0 0 (pR Γ n 0 1) := by
            intro hp92 ht92 hf92
            refine r_iconst (pc := 92) (v := iv 0) dX6_canNumber_92 (by decide) ?_
            refine Rn.pick (lv' := [(0, .ref ss), (1, .int (iv x1)), (2, .int (iv x2)), (3, .int (iv (gn : Int))), (4, .int (iv (x2 * 32))), (5, .long w1), (7, .int (iv v41_7)), (8, .int (iv v41_8)), (9, .int (iv y4))]) [0, 1, 2, 3, 4, 5, 6, 7, 8] rfl ?_
            exact B93 _ ht92 0 ⟨by omega, by omega⟩
          refine t_if_ne (pc := 69) (tgt := 92) dX6_canNumber_69 (by decide) (by omega) (fun c69 => ?_) (fun c69 => ?_)
          · refine Rn.pick (lv' := [(0, .ref ss), (1, .int (iv x1)), (2, .int (iv x2)), (3, .int (iv (gn : Int))), (4, .int (iv (x2 * 32))), (5, .long w1), (7, .int (iv v41_7)), (8, .int (iv v41_8)), (9, .int (iv y4))]) [1, 2, 3, 4, 5, 6, 7, 8, 0] rfl ?_
            exact B92 _ ht3 trivial
          · refine r_aload_n (pc := 72) dX6_canNumber_72 (i := 0) rfl rfl ?_
            refine r_iload (pc := 73) dX6_canNumber_73 rfl ?_
            refine r_lload (pc := 75) dX6_canNumber_75 rfl ?_
            refine r_iconst (pc := 77) (v := iv 1) dX6_canNumber_77 (by decide) ?_
            refine r_iload (pc := 78) dX6_canNumber_78 rfl ?_
            obtain ⟨z18, hz18, bz18⟩ := shl_1 0 15 y4 (by omega) (by omega) (by decide)
            refine r_ishl (pc := 80) (v := iv z18) dX6_canNumber_80 hz18 ?_
            refine r_iload_n (pc := 81) dX6_canNumber_81 (i := 3) rfl rfl ?_
            refine t_callVR (pc := 82) (as := [.int (iv (x2 * 32)), .long w1, .int (iv z18), .int (iv (gn : Int))]) (st := []) ht3 hs_O kX6_106 rfl dX6_canNumber_82 (t_X6_firstLike (d := d - 1) (x1 := x2 * 32) (j2 := w1) (x3 := z18) (x4 := (gn : Int)) (by omega) hs  ht3 (by omega) (by omega) (by omega) ) rfl (by omega) (Nat.le_of_ble_eq_true rfl) rfl (fun hp19 y21 ht20 by21 => ?_)
            refine t_if_ge (pc := 85) (tgt := 92) dX6_canNumber_85 (by decide) (by omega) (fun c85 => ?_) (fun c85 => ?_)
            · refine Rn.pick (lv' := [(0, .ref ss), (1, .int (iv x1)), (2, .int (iv x2)), (3, .int (iv (gn : Int))), (4, .int (iv (x2 * 32))), (5, .long w1), (7, .int (iv v41_7)), (8, .int (iv v41_8)), (9, .int (iv y4))]) [1, 2, 3, 4, 5, 6, 7, 8, 0] rfl ?_
              exact B92 _ ht20 trivial
            · refine r_iconst (pc := 88) (v := iv 1) dX6_canNumber_88 (by decide) ?_
              refine r_goto (pc := 89) (tgt := 93) dX6_canNumber_89 (by decide) ?_
              refine Rn.pick (lv' := [(0, .ref ss), (1, .int (iv x1)), (2, .int (iv x2)), (3, .int (iv (gn : Int))), (4, .int (iv (x2 * 32))), (5, .long w1), (7, .int (iv v41_7)), (8, .int (iv v41_8)), (9, .int (iv y4))]) [1, 2, 3, 4, 5, 6, 7, 8, 0] rfl ?_
              exact B93 _ ht20 1 ⟨by omega, by omega⟩
        · refine r_iconst (pc := 65) (v := iv 0) dX6_canNumber_65 (by decide) ?_
          exact r_zret (pc := 66) dX6_canNumber_66 rfl (iv_nar (by omega)) ⟨rfl, ht3, _, rfl, by omega, by omega⟩
    refine Rn.pick (lv' := [(0, .ref ss), (1, .int (iv x1)), (2, .int (iv x2)), (3, .int (iv (gn : Int))), (4, .int (iv (x2 * 32))), (5, .long w1), (7, .int (iv 0)), (8, .int (iv 0))]) [5, 6, 7, 4, 3, 2, 1, 0] rfl ?_
    exact B41 (Int.toNat (16 - 0)) _ ht 0 0 ⟨by omega, by omega, by omega, by omega⟩ (by omega)
  · refine r_aload_n (pc := 13) dX6_canNumber_13 (i := 0) rfl rfl ?_
    refine t_callVR (pc := 14) (as := []) (st := []) ht hs_O kX6_110 rfl dX6_canNumber_14 (t_X6_haveSameArcs (d := d - 1)  (by omega) hs hg hk  ht  ) rfl (by omega) (Nat.le_of_ble_eq_true rfl) rfl (fun hp22 y24 ht23 by24 => ?_)
    exact r_zret (pc := 17) dX6_canNumber_17 rfl (iv_nar (by omega)) ⟨rfl, ht23, _, rfl, by omega, by omega⟩
