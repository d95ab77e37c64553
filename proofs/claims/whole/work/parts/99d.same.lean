def TySame (Γ : TG) (cI cJ cZ : ClassId) (s : Nat) : Prop := rd Γ s (tO 6 [fE (.ref (s + 1)), fE (.ref (s + 2)), fE (.ref (s + 3)), fE (.ref (s + 4))]) ∧ Γ (s + 1) = some (tJ cJ 512 anyJ) ∧ Γ (s + 2) = some (tJ cJ 544 anyJ) ∧ Γ (s + 3) = some (tJ cJ 32 anyJ) ∧ Γ (s + 4) = some (tI cI 16 (rg 0 15))
theorem TySame.ext {Γ Γ1 : TG} {cI cJ cZ : ClassId} {s : Nat} (hE : Ext Γ Γ1) (h : TySame Γ cI cJ cZ s) : TySame Γ1 cI cJ cZ s := ⟨rd_ext hE h.1, hE _ _ h.2.1, hE _ _ h.2.2.1, hE _ _ h.2.2.2.1, hE _ _ h.2.2.2.2⟩
set_option maxHeartbeats 4000000 in
set_option maxRecDepth 100000 in
theorem t_X6_scramble {D : va_G} {cI cJ cZ cT : ClassId} {lo b L : Nat} {xs : Nat → Int32} {hp : MH} {n d : Nat} {Γ : TG}  {j0 : Int64} (hd0 : 0 ≤ d)  (ht : Tw Γ hp)  : Mt (gG D cI cJ cZ cT lo b L xs) mX6_scramble d 0 0 [.long j0] hp n (pJ Γ n yes64) := by
  refine Mt.of rfl (Nat.le_of_ble_eq_true rfl) ?_
  refine Rn.pick (lv' := [(0, .long j0)]) [0] rfl ?_
  refine r_lload_n (pc := 0) dX6_scramble_0 (i := 0) rfl rfl ?_
  refine r_lload_n (pc := 1) dX6_scramble_1 (i := 0) rfl rfl ?_
  refine r_bipush (pc := 2) (v := iv 31) dX6_scramble_2 (by decide) ?_
  refine r_lushr (pc := 4) dX6_scramble_4 ?_
  refine r_lxor (pc := 5) (v := j0 ^^^ ((j0.toUInt64 >>> ((iv 31).toInt64.toUInt64 &&& Int64.toUInt64 63)).toInt64)) dX6_scramble_5 rfl ?_
  refine r_ldc2 (pc := 6) (v := (-7046029254386353131)) dX6_scramble_6 kX6_60 ?_
  refine r_lmul (pc := 9) (v := (j0 ^^^ ((j0.toUInt64 >>> ((iv 31).toInt64.toUInt64 &&& Int64.toUInt64 63)).toInt64)) * ((-7046029254386353131) : Int64)) dX6_scramble_9 rfl ?_
  refine r_lstore_n (pc := 10) (lv' := [(2, .long ((j0 ^^^ ((j0.toUInt64 >>> ((iv 31).toInt64.toUInt64 &&& Int64.toUInt64 63)).toInt64)) * ((-7046029254386353131) : Int64))), (0, .long j0)]) dX6_scramble_10 (i := 2) rfl (by decide) rfl ?_
  refine r_lload_n (pc := 11) dX6_scramble_11 (i := 2) rfl rfl ?_
  refine r_lload_n (pc := 12) dX6_scramble_12 (i := 2) rfl rfl ?_
  refine r_bipush (pc := 13) (v := iv 29) dX6_scramble_13 (by decide) ?_
  refine r_lushr (pc := 15) dX6_scramble_15 ?_
  refine r_lxor (pc := 16) (v := ((j0 ^^^ ((j0.toUInt64 >>> ((iv 31).toInt64.toUInt64 &&& Int64.toUInt64 63)).toInt64)) * ((-7046029254386353131) : Int64)) ^^^ ((((j0 ^^^ ((j0.toUInt64 >>> ((iv 31).toInt64.toUInt64 &&& Int64.toUInt64 63)).toInt64)) * ((-7046029254386353131) : Int64)).toUInt64 >>> ((iv 29).toInt64.toUInt64 &&& Int64.toUInt64 63)).toInt64)) dX6_scramble_16 rfl ?_
  refine r_ldc2 (pc := 17) (v := (-7046029254386353131)) dX6_scramble_17 kX6_60 ?_
  refine r_lmul (pc := 20) (v := (((j0 ^^^ ((j0.toUInt64 >>> ((iv 31).toInt64.toUInt64 &&& Int64.toUInt64 63)).toInt64)) * ((-7046029254386353131) : Int64)) ^^^ ((((j0 ^^^ ((j0.toUInt64 >>> ((iv 31).toInt64.toUInt64 &&& Int64.toUInt64 63)).toInt64)) * ((-7046029254386353131) : Int64)).toUInt64 >>> ((iv 29).toInt64.toUInt64 &&& Int64.toUInt64 63)).toInt64)) * ((-7046029254386353131) : Int64)) dX6_scramble_20 rfl ?_
  refine r_lstore_n (pc := 21) (lv' := [(2, .long ((((j0 ^^^ ((j0.toUInt64 >>> ((iv 31).toInt64.toUInt64 &&& Int64.toUInt64 63)).toInt64)) * ((-7046029254386353131) : Int64)) ^^^ ((((j0 ^^^ ((j0.toUInt64 >>> ((iv 31).toInt64.toUInt64 &&& Int64.toUInt64 63)).toInt64)) * ((-7046029254386353131) : Int64)).toUInt64 >>> ((iv 29).toInt64.toUInt64 &&& Int64.toUInt64 63)).toInt64)) * ((-7046029254386353131) : Int64))), (0, .long j0)]) dX6_scramble_21 (i := 2) rfl (by decide) rfl ?_
  refine r_lload_n (pc := 22) dX6_scramble_22 (i := 2) rfl rfl ?_
  refine r_lload_n (pc := 23) dX6_scramble_23 (i := 2) rfl rfl ?_
  refine r_bipush (pc := 24) (v := iv 32) dX6_scramble_24 (by decide) ?_
  refine r_lushr (pc := 26) dX6_scramble_26 ?_
  refine r_lxor (pc := 27) (v := ((((j0 ^^^ ((j0.toUInt64 >>> ((iv 31).toInt64.toUInt64 &&& Int64.toUInt64 63)).toInt64)) * ((-7046029254386353131) : Int64)) ^^^ ((((j0 ^^^ ((j0.toUInt64 >>> ((iv 31).toInt64.toUInt64 &&& Int64.toUInt64 63)).toInt64)) * ((-7046029254386353131) : Int64)).toUInt64 >>> ((iv 29).toInt64.toUInt64 &&& Int64.toUInt64 63)).toInt64)) * ((-7046029254386353131) : Int64)) ^^^ ((((((j0 ^^^ ((j0.toUInt64 >>> ((iv 31).toInt64.toUInt64 &&& Int64.toUInt64 63)).toInt64)) * ((-7046029254386353131) : Int64)) ^^^ ((((j0 ^^^ ((j0.toUInt64 >>> ((iv 31).toInt64.toUInt64 &&& Int64.toUInt64 63)).toInt64)) * ((-7046029254386353131) : Int64)).toUInt64 >>> ((iv 29).toInt64.toUInt64 &&& Int64.toUInt64 63)).toInt64)) * ((-7046029254386353131) : Int64)).toUInt64 >>> ((iv 32).toInt64.toUInt64 &&& Int64.toUInt64 63)).toInt64)) dX6_scramble_27 rfl ?_
  exact r_lret (pc := 28) dX6_scramble_28 rfl ⟨rfl, ht, _, rfl, trivial⟩
set_option maxHeartbeats 4000000 in
set_option maxRecDepth 100000 in
theorem t_X6_newNumber {D : va_G} {cI cJ cZ cT : ClassId} {lo b L : Nat} {xs : Nat → Int32} {hp : MH} {n d : Nat} {Γ : TG} {ss : Nat} {x1 : Int} (hd0 : 0 ≤ d) (hs : TySame Γ cI cJ cZ ss) (ht : Tw Γ hp) (hx1 : 0 ≤ x1 ∧ x1 ≤ 15) : Mt (gG D cI cJ cZ cT lo b L xs) mX6_newNumber d 0 0 [.ref ss, .int (iv x1)] hp n (pR Γ n 0 15) := by
  obtain ⟨hs_O, hs_ties, hs_colours, hs_fresh, hs_numbering⟩ := id hs
  refine Mt.of rfl (Nat.le_of_ble_eq_true rfl) ?_
  refine Rn.pick (lv' := [(0, .ref ss), (1, .int (iv x1))]) [0, 1] rfl ?_
  refine r_aload_n (pc := 0) dX6_newNumber_0 (i := 0) rfl rfl ?_
  refine t_getE (pc := 1) (.ref (ss + 4)) ht hs_O fX6_21 dX6_newNumber_1 rfl ?_
  refine r_iload_n (pc := 4) dX6_newNumber_4 (i := 1) rfl rfl ?_
  refine t_ialdR (pc := 5) (t0 := 0) ht (rd_of hs_numbering) dX6_newNumber_5 rfl (by decide) (by omega) (fun y1 by1 => ?_)
  exact r_iret (pc := 6) dX6_newNumber_6 rfl ⟨rfl, ht, _, rfl, by omega, by omega⟩
set_option maxHeartbeats 4000000 in
set_option maxRecDepth 100000 in
theorem t_X6_fillTies {D : va_G} {cI cJ cZ cT : ClassId} {lo b L : Nat} {xs : Nat → Int32} {hp : MH} {n d : Nat} {Γ : TG} {ss : Nat} {ga : Nat} {gF : Nat} {gT : Nat} {gW : Nat} {gC : Nat} {gTl : Nat} {gHd : Nat} {gBy : Nat} {gOu : Nat} {gIn : Nat} {gJo : Nat} {gn : Nat} {gm : Nat} {gq : Nat} {gdr : Int} {x2 : Int} (hd0 : 1 ≤ d) (hs : TySame Γ cI cJ cZ ss) (hg : TyG Γ cI cJ cZ ga gF gT gW gC gTl gHd gBy gOu gIn gJo gn gm gq gdr) (ht : Tw Γ hp) (hx2 : 0 ≤ x2 ∧ x2 ≤ 256) : Mt (gG D cI cJ cZ cT lo b L xs) mX6_fillTies d 0 0 [.ref ss, .ref ga, .int (iv x2)] hp n (pV Γ n) := by
  obtain ⟨hs_O, hs_ties, hs_colours, hs_fresh, hs_numbering⟩ := id hs
  obtain ⟨hg_O, hg_from, hg_to, hg_weight, hg_cost, hg_tail, hg_head, hg_by, hg_out, hg_in, hg_joined, hg_b⟩ := id hg
  refine Mt.of rfl (Nat.le_of_ble_eq_true rfl) ?_
  refine Rn.pick (lv' := [(0, .ref ss), (1, .ref ga), (2, .int (iv x2))]) [0, 1, 2] rfl ?_
  refine r_iconst (pc := 0) (v := iv 0) dX6_fillTies_0 (by decide) ?_
  refine r_istore_n (pc := 1) (lv' := [(3, .int (iv 0)), (0, .ref ss), (1, .ref ga), (2, .int (iv x2))]) dX6_fillTies_1 (i := 3) rfl (by decide) rfl ?_
  have B2 : ∀ k : Nat, ∀ hp2 : MH, Tw Γ hp2 → ∀  (v2_3 : Int), 0 ≤ v2_3 ∧ v2_3 ≤ 60 → 60 - v2_3 ≤ (k : Int) → Rn (gG D cI cJ cZ cT lo b L xs) mX6_fillTies d 2 [(0, .ref ss), (1, .ref ga), (2, .int (iv x2)), (3, .int (iv v2_3))] [] hp2 n 0 0 (pV Γ n) := by
    refine lpS _ ?_
    intro k2 ih2 hp2 ht2 v2_3 hf2 hm2
    refine r_iload_n (pc := 2) dX6_fillTies_2 (i := 3) rfl rfl ?_
    refine r_aload_n (pc := 3) dX6_fillTies_3 (i := 1) rfl rfl ?_
    refine t_getE (pc := 4) (.int (iv (gm : Int))) ht2 hg_O fX6_35 dX6_fillTies_4 rfl ?_
    refine t_icmp_ge (pc := 7) (tgt := 128) dX6_fillTies_7 (by decide) (by omega) (by omega) (fun c7 => ?_) (fun c7 => ?_)
    · exact r_vret (pc := 128) dX6_fillTies_128 rfl ⟨rfl, ht2, rfl⟩
    · refine r_aload_n (pc := 10) dX6_fillTies_10 (i := 1) rfl rfl ?_
      refine t_getE (pc := 11) (.ref gW) ht2 hg_O fX6_62 dX6_fillTies_11 rfl ?_
      refine r_iload_n (pc := 14) dX6_fillTies_14 (i := 3) rfl rfl ?_
      refine t_ialdR (pc := 15) (t0 := 0) ht2 hg_weight dX6_fillTies_15 rfl (by omega) (by omega) (fun y1 by1 => ?_)
      refine r_i2l (pc := 16) (v := (iv y1).toInt64) dX6_fillTies_16 rfl ?_
      refine r_ldc2 (pc := 17) (v := 4096) dX6_fillTies_17 kX6_65 ?_
      refine r_lmul (pc := 20) (v := ((iv y1).toInt64) * (4096 : Int64)) dX6_fillTies_20 rfl ?_
      refine r_aload_n (pc := 21) dX6_fillTies_21 (i := 1) rfl rfl ?_
      refine t_getE (pc := 22) (.ref gC) ht2 hg_O fX6_67 dX6_fillTies_22 rfl ?_
      refine r_iload_n (pc := 25) dX6_fillTies_25 (i := 3) rfl rfl ?_
      refine t_ialdR (pc := 26) (t0 := 0) ht2 hg_cost dX6_fillTies_26 rfl (by omega) (by omega) (fun y2 by2 => ?_)
      refine r_i2l (pc := 27) (v := (iv y2).toInt64) dX6_fillTies_27 rfl ?_
      refine r_ladd (pc := 28) (v := (((iv y1).toInt64) * (4096 : Int64)) + ((iv y2).toInt64)) dX6_fillTies_28 rfl ?_
      refine r_lconst (pc := 29) (v := 1) dX6_fillTies_29 (by decide) ?_
      refine r_ladd (pc := 30) (v := ((((iv y1).toInt64) * (4096 : Int64)) + ((iv y2).toInt64)) + (1 : Int64)) dX6_fillTies_30 rfl ?_
      refine t_callSJ (pc := 31) (as := [.long (((((iv y1).toInt64) * (4096 : Int64)) + ((iv y2).toInt64)) + (1 : Int64))]) (st := []) kX6_70 dX6_fillTies_31 (t_X6_scramble (d := d - 1) (j0 := ((((iv y1).toInt64) * (4096 : Int64)) + ((iv y2).toInt64)) + (1 : Int64)) (by omega)   ht2  ) rfl (by omega) (Nat.le_of_ble_eq_true rfl) rfl (fun hp3 y5 ht4 _ => ?_)
      refine r_lstore (pc := 34) (lv' := [(4, .long y5), (0, .ref ss), (1, .ref ga), (2, .int (iv x2)), (3, .int (iv v2_3))]) dX6_fillTies_34 (by decide) rfl ?_
      refine r_iload_n (pc := 36) dX6_fillTies_36 (i := 2) rfl rfl ?_
      refine r_aload_n (pc := 37) dX6_fillTies_37 (i := 1) rfl rfl ?_
      refine t_getE (pc := 38) (.ref gF) ht4 hg_O fX6_74 dX6_fillTies_38 rfl ?_
      refine r_iload_n (pc := 41) dX6_fillTies_41 (i := 3) rfl rfl ?_
      refine t_ialdR (pc := 42) (t0 := 0) ht4 hg_from dX6_fillTies_42 rfl (by omega) (by omega) (fun y6 by6 => ?_)
      refine r_bipush (pc := 43) (v := iv 16) dX6_fillTies_43 (by decide) ?_
      refine r_imul (pc := 45) (v := iv (y6 * 16)) dX6_fillTies_45 (iv_mul _ _) ?_
      refine r_iadd (pc := 46) (v := iv (x2 + (y6 * 16))) dX6_fillTies_46 (iv_add _ _) ?_
      refine r_aload_n (pc := 47) dX6_fillTies_47 (i := 1) rfl rfl ?_
      refine t_getE (pc := 48) (.ref gT) ht4 hg_O fX6_77 dX6_fillTies_48 rfl ?_
      refine r_iload_n (pc := 51) dX6_fillTies_51 (i := 3) rfl rfl ?_
      refine t_ialdR (pc := 52) (t0 := 0) ht4 hg_to dX6_fillTies_52 rfl (by omega) (by omega) (fun y7 by7 => ?_)
      refine r_iadd (pc := 53) (v := iv ((x2 + (y6 * 16)) + y7)) dX6_fillTies_53 (iv_add _ _) ?_
      refine r_istore (pc := 54) (lv' := [(6, .int (iv ((x2 + (y6 * 16)) + y7))), (4, .long y5), (0, .ref ss), (1, .ref ga), (2, .int (iv x2)), (3, .int (iv v2_3))]) dX6_fillTies_54 (by decide) rfl ?_
      refine r_iload_n (pc := 56) dX6_fillTies_56 (i := 2) rfl rfl ?_
      refine r_aload_n (pc := 57) dX6_fillTies_57 (i := 1) rfl rfl ?_
      refine t_getE (pc := 58) (.ref gT) ht4 hg_O fX6_77 dX6_fillTies_58 rfl ?_
      refine r_iload_n (pc := 61) dX6_fillTies_61 (i := 3) rfl rfl ?_
      refine t_ialdR (pc := 62) (t0 := 0) ht4 hg_to dX6_fillTies_62 rfl (by omega) (by omega) (fun y8 by8 => ?_)
      refine r_bipush (pc := 63) (v := iv 16) dX6_fillTies_63 (by decide) ?_
      refine r_imul (pc := 65) (v := iv (y8 * 16)) dX6_fillTies_65 (iv_mul _ _) ?_
      refine r_iadd (pc := 66) (v := iv (x2 + (y8 * 16))) dX6_fillTies_66 (iv_add _ _) ?_
      refine r_aload_n (pc := 67) dX6_fillTies_67 (i := 1) rfl rfl ?_
      refine t_getE (pc := 68) (.ref gF) ht4 hg_O fX6_74 dX6_fillTies_68 rfl ?_
      refine r_iload_n (pc := 71) dX6_fillTies_71 (i := 3) rfl rfl ?_
      refine t_ialdR (pc := 72) (t0 := 0) ht4 hg_from dX6_fillTies_72 rfl (by omega) (by omega) (fun y9 by9 => ?_)
      refine r_iadd (pc := 73) (v := iv ((x2 + (y8 * 16)) + y9)) dX6_fillTies_73 (iv_add _ _) ?_
      refine r_istore (pc := 74) (lv' := [(7, .int (iv ((x2 + (y8 * 16)) + y9))), (6, .int (iv ((x2 + (y6 * 16)) + y7))), (4, .long y5), (0, .ref ss), (1, .ref ga), (2, .int (iv x2)), (3, .int (iv v2_3))]) dX6_fillTies_74 (by decide) rfl ?_
      refine r_aload_n (pc := 76) dX6_fillTies_76 (i := 0) rfl rfl ?_
      refine t_getE (pc := 77) (.ref (ss + 1)) ht4 hs_O fX6_9 dX6_fillTies_77 rfl ?_
      refine r_iload (pc := 80) dX6_fillTies_80 rfl ?_
      refine r_dup2_11 (pc := 82) dX6_fillTies_82 rfl rfl ?_
      refine t_lald (pc := 83) (t0 := 1) ht4 (rd_of hs_ties) dX6_fillTies_83 rfl (by decide) (by omega) (fun w10 _ => ?_)
      refine r_lload (pc := 84) dX6_fillTies_84 rfl ?_
      refine r_ladd (pc := 86) (v := w10 + y5) dX6_fillTies_86 rfl ?_
      refine t_last (pc := 87) (t0 := 1) ht4 hs_ties dX6_fillTies_87 rfl (by decide) (by omega) trivial (fun hp11 ht12 => ?_)
      refine r_iload (pc := 88) dX6_fillTies_88 rfl ?_
      refine r_iload (pc := 90) dX6_fillTies_90 rfl ?_
      have B122 : ∀ hp122 : MH, Tw Γ hp122 → True → Rn (gG D cI cJ cZ cT lo b L xs) mX6_fillTies d 122 [(0, .ref ss), (1, .ref ga), (2, .int (iv x2)), (3, .int (iv v2_3))] [] hp122 n 0 0 (pV Γ n) := by
        intro hp122 ht122 hf122
        refine r_iinc (pc := 122) (v := iv (v2_3 + 1)) (lv' := [(3, .int (iv (v2_3 + 1))), (0, .ref ss), (1, .ref ga), (2, .int (iv x2))]) dX6_fillTies_122 rfl (iv_add _ _) (by decide) rfl ?_
        refine r_goto (pc := 125) (tgt := 2) dX6_fillTies_125 (by decide) ?_
        refine Rn.pick (lv' := [(0, .ref ss), (1, .ref ga), (2, .int (iv x2)), (3, .int (iv (v2_3 + 1)))]) [1, 2, 3, 0] rfl ?_
        exact ih2 (Int.toNat (60 - (v2_3 + 1))) (by omega) _ ht122 (v2_3 + 1) ⟨by omega, by omega⟩ (by omega)
      refine t_icmp_eq (pc := 92) (tgt := 122) dX6_fillTies_92 (by decide) (by omega) (by omega) (fun c92 => ?_) (fun c92 => ?_)
      · refine Rn.pick (lv' := [(0, .ref ss), (1, .ref ga), (2, .int (iv x2)), (3, .int (iv v2_3))]) [3, 4, 5, 6] rfl ?_
        exact B122 _ ht12 trivial
      · refine r_aload_n (pc := 95) dX6_fillTies_95 (i := 0) rfl rfl ?_
        refine t_getE (pc := 96) (.ref (ss + 1)) ht12 hs_O fX6_9 dX6_fillTies_96 rfl ?_
        refine r_iload (pc := 99) dX6_fillTies_99 rfl ?_
        refine r_dup2_11 (pc := 101) dX6_fillTies_101 rfl rfl ?_
        refine t_lald (pc := 102) (t0 := 1) ht12 (rd_of hs_ties) dX6_fillTies_102 rfl (by decide) (by omega) (fun w13 _ => ?_)
        refine r_aload_n (pc := 103) dX6_fillTies_103 (i := 1) rfl rfl ?_
        refine t_getE (pc := 104) (.int (iv gdr)) ht12 hg_O fX6_31 dX6_fillTies_104 rfl ?_
        have B120 : ∀ hp120 : MH, Tw Γ hp120 → ∀  (x120_3 : Int64), True → Rn (gG D cI cJ cZ cT lo b L xs) mX6_fillTies d 120 [(0, .ref ss), (1, .ref ga), (2, .int (iv x2)), (3, .int (iv v2_3))] [.long x120_3, .long w13, .int (iv ((x2 + (y8 * 16)) + y9)), .ref (ss + 1)] hp120 n 0 0 (pV Γ n) := by
          intro hp120 ht120 x120_3 hf120
          refine r_ladd (pc := 120) (v := w13 + x120_3) dX6_fillTies_120 rfl ?_
          refine t_last (pc := 121) (t0 := 1) ht120 hs_ties dX6_fillTies_121 rfl (by decide) (by omega) trivial (fun hp14 ht15 => ?_)
          refine Rn.pick (lv' := [(0, .ref ss), (1, .ref ga), (2, .int (iv x2)), (3, .int (iv v2_3))]) [0, 1, 2, 3] rfl ?_
          exact B122 _ ht15 trivial
        refine t_if_eq (pc := 107) (tgt := 118) dX6_fillTies_107 (by decide) (by omega) (fun c107 => ?_) (fun c107 => ?_)
        · refine r_lload (pc := 118) dX6_fillTies_118 rfl ?_
          refine Rn.pick (lv' := [(0, .ref ss), (1, .ref ga), (2, .int (iv x2)), (3, .int (iv v2_3))]) [3, 4, 5, 6] rfl ?_
          exact B120 _ ht12 y5 trivial
        · refine r_lload (pc := 110) dX6_fillTies_110 rfl ?_
          refine t_callSJ (pc := 112) (as := [.long y5]) (st := [.long w13, .int (iv ((x2 + (y8 * 16)) + y9)), .ref (ss + 1)]) kX6_70 dX6_fillTies_112 (t_X6_scramble (d := d - 1) (j0 := y5) (by omega)   ht12  ) rfl (by omega) (Nat.le_of_ble_eq_true rfl) rfl (fun hp16 y18 ht17 _ => ?_)
          refine r_goto (pc := 115) (tgt := 120) dX6_fillTies_115 (by decide) ?_
          refine Rn.pick (lv' := [(0, .ref ss), (1, .ref ga), (2, .int (iv x2)), (3, .int (iv v2_3))]) [3, 4, 5, 6] rfl ?_
          exact B120 _ ht17 y18 trivial
  refine Rn.pick (lv' := [(0, .ref ss), (1, .ref ga), (2, .int (iv x2)), (3, .int (iv 0))]) [1, 2, 3, 0] rfl ?_
  exact B2 (Int.toNat (60 - 0)) _ ht 0 ⟨by omega, by omega⟩ (by omega)
set_option maxHeartbeats 4000000 in
set_option maxRecDepth 100000 in
theorem t_X6_startColours {D : va_G} {cI cJ cZ cT : ClassId} {lo b L : Nat} {xs : Nat → Int32} {hp : MH} {n d : Nat} {Γ : TG} {ss : Nat} {x1 : Int} (hd0 : 1 ≤ d) (hs : TySame Γ cI cJ cZ ss) (ht : Tw Γ hp) (hx1 : 0 ≤ x1 ∧ x1 ≤ 16) : Mt (gG D cI cJ cZ cT lo b L xs) mX6_startColours d 0 0 [.ref ss, .int (iv x1)] hp n (pV Γ n) := by
  obtain ⟨hs_O, hs_ties, hs_colours, hs_fresh, hs_numbering⟩ := id hs
  refine Mt.of rfl (Nat.le_of_ble_eq_true rfl) ?_
  refine Rn.pick (lv' := [(0, .ref ss), (1, .int (iv x1))]) [0, 1] rfl ?_
  refine r_iconst (pc := 0) (v := iv 0) dX6_startColours_0 (by decide) ?_
  refine r_istore_n (pc := 1) (lv' := [(2, .int (iv 0)), (0, .ref ss), (1, .int (iv x1))]) dX6_startColours_1 (i := 2) rfl (by decide) rfl ?_
  have B2 : ∀ k : Nat, ∀ hp2 : MH, Tw Γ hp2 → ∀  (v2_2 : Int), 0 ≤ v2_2 ∧ v2_2 ≤ 16 → 16 - v2_2 ≤ (k : Int) → Rn (gG D cI cJ cZ cT lo b L xs) mX6_startColours d 2 [(0, .ref ss), (1, .int (iv x1)), (2, .int (iv v2_2))] [] hp2 n 0 0 (pV Γ n) := by
    refine lpS _ ?_
    intro k2 ih2 hp2 ht2 v2_2 hf2 hm2
    refine r_iload_n (pc := 2) dX6_startColours_2 (i := 2) rfl rfl ?_
    refine r_iload_n (pc := 3) dX6_startColours_3 (i := 1) rfl rfl ?_
    refine t_icmp_ge (pc := 4) (tgt := 57) dX6_startColours_4 (by decide) (by omega) (by omega) (fun c4 => ?_) (fun c4 => ?_)
    · exact r_vret (pc := 57) dX6_startColours_57 rfl ⟨rfl, ht2, rfl⟩
    · refine r_iload_n (pc := 7) dX6_startColours_7 (i := 2) rfl rfl ?_
      refine r_bipush (pc := 8) (v := iv 16) dX6_startColours_8 (by decide) ?_
      refine r_imul (pc := 10) (v := iv (v2_2 * 16)) dX6_startColours_10 (iv_mul _ _) ?_
      refine r_iload_n (pc := 11) dX6_startColours_11 (i := 2) rfl rfl ?_
      refine r_iadd (pc := 12) (v := iv ((v2_2 * 16) + v2_2)) dX6_startColours_12 (iv_add _ _) ?_
      refine r_istore_n (pc := 13) (lv' := [(3, .int (iv ((v2_2 * 16) + v2_2))), (0, .ref ss), (1, .int (iv x1)), (2, .int (iv v2_2))]) dX6_startColours_13 (i := 3) rfl (by decide) rfl ?_
      refine r_aload_n (pc := 14) dX6_startColours_14 (i := 0) rfl rfl ?_
      refine t_getE (pc := 15) (.ref (ss + 2)) ht2 hs_O fX6_15 dX6_startColours_15 rfl ?_
      refine r_iload_n (pc := 18) dX6_startColours_18 (i := 2) rfl rfl ?_
      refine r_aload_n (pc := 19) dX6_startColours_19 (i := 0) rfl rfl ?_
      refine t_getE (pc := 20) (.ref (ss + 1)) ht2 hs_O fX6_9 dX6_startColours_20 rfl ?_
      refine r_iload_n (pc := 23) dX6_startColours_23 (i := 3) rfl rfl ?_
      refine t_lald (pc := 24) (t0 := 1) ht2 (rd_of hs_ties) dX6_startColours_24 rfl (by decide) (by omega) (fun w1 _ => ?_)
      refine t_callSJ (pc := 25) (as := [.long w1]) (st := [.int (iv v2_2), .ref (ss + 2)]) kX6_70 dX6_startColours_25 (t_X6_scramble (d := d - 1) (j0 := w1) (by omega)   ht2  ) rfl (by omega) (Nat.le_of_ble_eq_true rfl) rfl (fun hp2 y4 ht3 _ => ?_)
      refine t_last (pc := 28) (t0 := 1) ht3 hs_colours dX6_startColours_28 rfl (by decide) (by omega) trivial (fun hp5 ht6 => ?_)
      refine r_aload_n (pc := 29) dX6_startColours_29 (i := 0) rfl rfl ?_
      refine t_getE (pc := 30) (.ref (ss + 2)) ht6 hs_O fX6_15 dX6_startColours_30 rfl ?_
      refine r_bipush (pc := 33) (v := iv 16) dX6_startColours_33 (by decide) ?_
      refine r_iload_n (pc := 35) dX6_startColours_35 (i := 2) rfl rfl ?_
      refine r_iadd (pc := 36) (v := iv (16 + v2_2)) dX6_startColours_36 (iv_add _ _) ?_
      refine r_aload_n (pc := 37) dX6_startColours_37 (i := 0) rfl rfl ?_
      refine t_getE (pc := 38) (.ref (ss + 1)) ht6 hs_O fX6_9 dX6_startColours_38 rfl ?_
      refine r_sipush (pc := 41) (v := iv 256) dX6_startColours_41 (by decide) ?_
      refine r_iload_n (pc := 44) dX6_startColours_44 (i := 3) rfl rfl ?_
      refine r_iadd (pc := 45) (v := iv (256 + ((v2_2 * 16) + v2_2))) dX6_startColours_45 (iv_add _ _) ?_
      refine t_lald (pc := 46) (t0 := 1) ht6 (rd_of hs_ties) dX6_startColours_46 rfl (by decide) (by omega) (fun w7 _ => ?_)
      refine t_callSJ (pc := 47) (as := [.long w7]) (st := [.int (iv (16 + v2_2)), .ref (ss + 2)]) kX6_70 dX6_startColours_47 (t_X6_scramble (d := d - 1) (j0 := w7) (by omega)   ht6  ) rfl (by omega) (Nat.le_of_ble_eq_true rfl) rfl (fun hp8 y10 ht9 _ => ?_)
      refine t_last (pc := 50) (t0 := 1) ht9 hs_colours dX6_startColours_50 rfl (by decide) (by omega) trivial (fun hp11 ht12 => ?_)
      refine r_iinc (pc := 51) (v := iv (v2_2 + 1)) (lv' := [(2, .int (iv (v2_2 + 1))), (3, .int (iv ((v2_2 * 16) + v2_2))), (0, .ref ss), (1, .int (iv x1))]) dX6_startColours_51 rfl (iv_add _ _) (by decide) rfl ?_
      refine r_goto (pc := 54) (tgt := 2) dX6_startColours_54 (by decide) ?_
      refine Rn.pick (lv' := [(0, .ref ss), (1, .int (iv x1)), (2, .int (iv (v2_2 + 1)))]) [2, 3, 0] rfl ?_
      exact ih2 (Int.toNat (16 - (v2_2 + 1))) (by omega) _ ht12 (v2_2 + 1) ⟨by omega, by omega⟩ (by omega)
  refine Rn.pick (lv' := [(0, .ref ss), (1, .int (iv x1)), (2, .int (iv 0))]) [1, 2, 0] rfl ?_
  exact B2 (Int.toNat (16 - 0)) _ ht 0 ⟨by omega, by omega⟩ (by omega)
set_option maxHeartbeats 4000000 in
set_option maxRecDepth 100000 in
theorem t_X6_countColours {D : va_G} {cI cJ cZ cT : ClassId} {lo b L : Nat} {xs : Nat → Int32} {hp : MH} {n d : Nat} {Γ : TG} {ss : Nat} {x1 x2 : Int} (hd0 : 0 ≤ d) (hs : TySame Γ cI cJ cZ ss) (ht : Tw Γ hp) (hx1 : 0 ≤ x1 ∧ x1 ≤ 512) (hx2 : 0 ≤ x2 ∧ x2 ≤ 16) : Mt (gG D cI cJ cZ cT lo b L xs) mX6_countColours d 0 0 [.ref ss, .int (iv x1), .int (iv x2)] hp n (pR Γ n (-2147483648) 2147483647) := by
  obtain ⟨hs_O, hs_ties, hs_colours, hs_fresh, hs_numbering⟩ := id hs
  refine Mt.of rfl (Nat.le_of_ble_eq_true rfl) ?_
  refine Rn.pick (lv' := [(0, .ref ss), (1, .int (iv x1)), (2, .int (iv x2))]) [0, 1, 2] rfl ?_
  refine r_iconst (pc := 0) (v := iv 0) dX6_countColours_0 (by decide) ?_
  refine r_istore_n (pc := 1) (lv' := [(3, .int (iv 0)), (0, .ref ss), (1, .int (iv x1)), (2, .int (iv x2))]) dX6_countColours_1 (i := 3) rfl (by decide) rfl ?_
  refine r_iconst (pc := 2) (v := iv 0) dX6_countColours_2 (by decide) ?_
  refine r_istore (pc := 3) (lv' := [(4, .int (iv 0)), (3, .int (iv 0)), (0, .ref ss), (1, .int (iv x1)), (2, .int (iv x2))]) dX6_countColours_3 (by decide) rfl ?_
  have B5 : ∀ k : Nat, ∀ hp5 : MH, Tw Γ hp5 → ∀  (v5_3 : Int) (v5_4 : Int), (-2147483648) ≤ v5_3 ∧ v5_3 ≤ 2147483647 ∧ 0 ≤ v5_4 ∧ v5_4 ≤ 16 → 16 - v5_4 ≤ (k : Int) → Rn (gG D cI cJ cZ cT lo b L xs) mX6_countColours d 5 [(0, .ref ss), (1, .int (iv x1)), (2, .int (iv x2)), (3, .int (iv v5_3)), (4, .int (iv v5_4))] [] hp5 n 0 0 (pR Γ n (-2147483648) 2147483647) := by
    refine lpS _ ?_
    intro k5 ih5 hp5 ht5 v5_3 v5_4 hf5 hm5
    refine r_iload (pc := 5) dX6_countColours_5 rfl ?_
    refine r_iload_n (pc := 7) dX6_countColours_7 (i := 2) rfl rfl ?_
    refine t_icmp_ge (pc := 8) (tgt := 83) dX6_countColours_8 (by decide) (by omega) (by omega) (fun c8 => ?_) (fun c8 => ?_)
    · refine r_iload_n (pc := 83) dX6_countColours_83 (i := 3) rfl rfl ?_
      exact r_iret (pc := 84) dX6_countColours_84 rfl ⟨rfl, ht5, _, rfl, by omega, by omega⟩
    · refine r_iconst (pc := 11) (v := iv 1) dX6_countColours_11 (by decide) ?_
      refine r_istore (pc := 12) (lv' := [(5, .int (iv 1)), (0, .ref ss), (1, .int (iv x1)), (2, .int (iv x2)), (3, .int (iv v5_3)), (4, .int (iv v5_4))]) dX6_countColours_12 (by decide) rfl ?_
      refine r_iconst (pc := 14) (v := iv 0) dX6_countColours_14 (by decide) ?_
      refine r_istore (pc := 15) (lv' := [(6, .int (iv 0)), (5, .int (iv 1)), (0, .ref ss), (1, .int (iv x1)), (2, .int (iv x2)), (3, .int (iv v5_3)), (4, .int (iv v5_4))]) dX6_countColours_15 (by decide) rfl ?_
      have B17 : ∀ k : Nat, ∀ hp17 : MH, Tw Γ hp17 → ∀  (v17_5 : Int) (v17_6 : Int), 0 ≤ v17_5 ∧ v17_5 ≤ 1 ∧ 0 ≤ v17_6 ∧ v17_6 ≤ 15 → 15 - v17_6 ≤ (k : Int) → Rn (gG D cI cJ cZ cT lo b L xs) mX6_countColours d 17 [(0, .ref ss), (1, .int (iv x1)), (2, .int (iv x2)), (3, .int (iv v5_3)), (4, .int (iv v5_4)), (5, .int (iv v17_5)), (6, .int (iv v17_6))] [] hp17 n 0 0 (pR Γ n (-2147483648) 2147483647) := by
        refine lpS _ ?_
        intro k17 ih17 hp17 ht17 v17_5 v17_6 hf17 hm17
        refine r_iload (pc := 17) dX6_countColours_17 rfl ?_
        refine r_iload (pc := 19) dX6_countColours_19 rfl ?_
        have B64 : ∀ hp64 : MH, Tw Γ hp64 → True → Rn (gG D cI cJ cZ cT lo b L xs) mX6_countColours d 64 [(0, .ref ss), (1, .int (iv x1)), (2, .int (iv x2)), (3, .int (iv v5_3)), (4, .int (iv v5_4)), (5, .int (iv v17_5))] [] hp64 n 0 0 (pR Γ n (-2147483648) 2147483647) := by
          intro hp64 ht64 hf64
          refine r_iload_n (pc := 64) dX6_countColours_64 (i := 3) rfl rfl ?_
          refine r_iload (pc := 65) dX6_countColours_65 rfl ?_
          have B75 : ∀ hp75 : MH, Tw Γ hp75 → ∀  (u75_1 : Int), 0 ≤ u75_1 ∧ u75_1 ≤ 1 → Rn (gG D cI cJ cZ cT lo b L xs) mX6_countColours d 75 [(0, .ref ss), (1, .int (iv x1)), (2, .int (iv x2)), (4, .int (iv v5_4))] [.int (iv u75_1), .int (iv v5_3)] hp75 n 0 0 (pR Γ n (-2147483648) 2147483647) := by
            intro hp75 ht75 u75_1 hf75
            obtain ⟨z1, hz1, bz1⟩ := any_i (iv v5_3 + iv u75_1)
            refine r_iadd (pc := 75) (v := iv z1) dX6_countColours_75 hz1 ?_
            refine r_istore_n (pc := 76) (lv' := [(3, .int (iv z1)), (0, .ref ss), (1, .int (iv x1)), (2, .int (iv x2)), (4, .int (iv v5_4))]) dX6_countColours_76 (i := 3) rfl (by decide) rfl ?_
            refine r_iinc (pc := 77) (v := iv (v5_4 + 1)) (lv' := [(4, .int (iv (v5_4 + 1))), (3, .int (iv z1)), (0, .ref ss), (1, .int (iv x1)), (2, .int (iv x2))]) dX6_countColours_77 rfl (iv_add _ _) (by decide) rfl ?_
            refine r_goto (pc := 80) (tgt := 5) dX6_countColours_80 (by decide) ?_
            refine Rn.pick (lv' := [(0, .ref ss), (1, .int (iv x1)), (2, .int (iv x2)), (3, .int (iv z1)), (4, .int (iv (v5_4 + 1)))]) [2, 3, 4, 1, 0] rfl ?_
            exact ih5 (Int.toNat (16 - (v5_4 + 1))) (by omega) _ ht75 z1 (v5_4 + 1) ⟨by omega, by omega, by omega, by omega⟩ (by omega)
          refine t_if_eq (pc := 67) (tgt := 74) dX6_countColours_67 (by decide) (by omega) (fun c67 => ?_) (fun c67 => ?_)
          · refine r_iconst (pc := 74) (v := iv 0) dX6_countColours_74 (by decide) ?_
            refine Rn.pick (lv' := [(0, .ref ss), (1, .int (iv x1)), (2, .int (iv x2)), (4, .int (iv v5_4))]) [0, 1, 2, 4] rfl ?_
            exact B75 _ ht64 0 ⟨by omega, by omega⟩
          · refine r_iconst (pc := 70) (v := iv 1) dX6_countColours_70 (by decide) ?_
            refine r_goto (pc := 71) (tgt := 75) dX6_countColours_71 (by decide) ?_
            refine Rn.pick (lv' := [(0, .ref ss), (1, .int (iv x1)), (2, .int (iv x2)), (4, .int (iv v5_4))]) [0, 1, 2, 4] rfl ?_
            exact B75 _ ht64 1 ⟨by omega, by omega⟩
        refine t_icmp_ge (pc := 21) (tgt := 64) dX6_countColours_21 (by decide) (by omega) (by omega) (fun c21 => ?_) (fun c21 => ?_)
        · refine Rn.pick (lv' := [(0, .ref ss), (1, .int (iv x1)), (2, .int (iv x2)), (3, .int (iv v5_3)), (4, .int (iv v5_4)), (5, .int (iv v17_5))]) [0, 1, 2, 3, 4, 5] rfl ?_
          exact B64 _ ht17 trivial
        · refine r_iload (pc := 24) dX6_countColours_24 rfl ?_
          refine t_if_eq (pc := 26) (tgt := 64) dX6_countColours_26 (by decide) (by omega) (fun c26 => ?_) (fun c26 => ?_)
          · refine Rn.pick (lv' := [(0, .ref ss), (1, .int (iv x1)), (2, .int (iv x2)), (3, .int (iv v5_3)), (4, .int (iv v5_4)), (5, .int (iv v17_5))]) [0, 1, 2, 3, 4, 5] rfl ?_
            exact B64 _ ht17 trivial
          · refine r_aload_n (pc := 29) dX6_countColours_29 (i := 0) rfl rfl ?_
            refine t_getE (pc := 30) (.ref (ss + 2)) ht17 hs_O fX6_15 dX6_countColours_30 rfl ?_
            refine r_iload_n (pc := 33) dX6_countColours_33 (i := 1) rfl rfl ?_
            refine r_iload (pc := 34) dX6_countColours_34 rfl ?_
            refine r_iadd (pc := 36) (v := iv (x1 + v17_6)) dX6_countColours_36 (iv_add _ _) ?_
            refine t_lald (pc := 37) (t0 := 1) ht17 (rd_of hs_colours) dX6_countColours_37 rfl (by decide) (by omega) (fun w2 _ => ?_)
            refine r_aload_n (pc := 38) dX6_countColours_38 (i := 0) rfl rfl ?_
            refine t_getE (pc := 39) (.ref (ss + 2)) ht17 hs_O fX6_15 dX6_countColours_39 rfl ?_
            refine r_iload_n (pc := 42) dX6_countColours_42 (i := 1) rfl rfl ?_
            refine r_iload (pc := 43) dX6_countColours_43 rfl ?_
            refine r_iadd (pc := 45) (v := iv (x1 + v5_4)) dX6_countColours_45 (iv_add _ _) ?_
            refine t_lald (pc := 46) (t0 := 1) ht17 (rd_of hs_colours) dX6_countColours_46 rfl (by decide) (by omega) (fun w3 _ => ?_)
            refine r_lcmp (pc := 47) dX6_countColours_47 ?_
            have B56 : ∀ hp56 : MH, Tw Γ hp56 → ∀  (u56_0 : Int), 0 ≤ u56_0 ∧ u56_0 ≤ 1 → Rn (gG D cI cJ cZ cT lo b L xs) mX6_countColours d 56 [(0, .ref ss), (1, .int (iv x1)), (2, .int (iv x2)), (3, .int (iv v5_3)), (4, .int (iv v5_4)), (6, .int (iv v17_6))] [.int (iv u56_0)] hp56 n 0 0 (pR Γ n (-2147483648) 2147483647) := by
              intro hp56 ht56 u56_0 hf56
              refine r_istore (pc := 56) (lv' := [(5, .int (iv u56_0)), (0, .ref ss), (1, .int (iv x1)), (2, .int (iv x2)), (3, .int (iv v5_3)), (4, .int (iv v5_4)), (6, .int (iv v17_6))]) dX6_countColours_56 (by decide) rfl ?_
              refine r_iinc (pc := 58) (v := iv (v17_6 + 1)) (lv' := [(6, .int (iv (v17_6 + 1))), (5, .int (iv u56_0)), (0, .ref ss), (1, .int (iv x1)), (2, .int (iv x2)), (3, .int (iv v5_3)), (4, .int (iv v5_4))]) dX6_countColours_58 rfl (iv_add _ _) (by decide) rfl ?_
              refine r_goto (pc := 61) (tgt := 17) dX6_countColours_61 (by decide) ?_
              refine Rn.pick (lv' := [(0, .ref ss), (1, .int (iv x1)), (2, .int (iv x2)), (3, .int (iv v5_3)), (4, .int (iv v5_4)), (5, .int (iv u56_0)), (6, .int (iv (v17_6 + 1)))]) [2, 3, 4, 5, 6, 1, 0] rfl ?_
              exact ih17 (Int.toNat (15 - (v17_6 + 1))) (by omega) _ ht56 u56_0 (v17_6 + 1) ⟨by omega, by omega, by omega, by omega⟩ (by omega)
            refine r_if_eq (pc := 48) (tgt := 55) dX6_countColours_48 (by decide) (fun c48 => ?_) (fun c48 => ?_)
            · refine r_iconst (pc := 55) (v := iv 0) dX6_countColours_55 (by decide) ?_
              refine Rn.pick (lv' := [(0, .ref ss), (1, .int (iv x1)), (2, .int (iv x2)), (3, .int (iv v5_3)), (4, .int (iv v5_4)), (6, .int (iv v17_6))]) [0, 1, 2, 3, 4, 6] rfl ?_
              exact B56 _ ht17 0 ⟨by omega, by omega⟩
            · refine r_iconst (pc := 51) (v := iv 1) dX6_countColours_51 (by decide) ?_
              refine r_goto (pc := 52) (tgt := 56) dX6_countColours_52 (by decide) ?_
              refine Rn.pick (lv' := [(0, .ref ss), (1, .int (iv x1)), (2, .int (iv x2)), (3, .int (iv v5_3)), (4, .int (iv v5_4)), (6, .int (iv v17_6))]) [0, 1, 2, 3, 4, 6] rfl ?_
              exact B56 _ ht17 1 ⟨by omega, by omega⟩
      refine Rn.pick (lv' := [(0, .ref ss), (1, .int (iv x1)), (2, .int (iv x2)), (3, .int (iv v5_3)), (4, .int (iv v5_4)), (5, .int (iv 1)), (6, .int (iv 0))]) [2, 3, 4, 5, 6, 1, 0] rfl ?_
      exact B17 (Int.toNat (15 - 0)) _ ht5 1 0 ⟨by omega, by omega, by omega, by omega⟩ (by omega)
  refine Rn.pick (lv' := [(0, .ref ss), (1, .int (iv x1)), (2, .int (iv x2)), (3, .int (iv 0)), (4, .int (iv 0))]) [2, 3, 4, 1, 0] rfl ?_
  exact B5 (Int.toNat (16 - 0)) _ ht 0 0 ⟨by omega, by omega, by omega, by omega⟩ (by omega)
set_option maxHeartbeats 4000000 in
set_option maxRecDepth 100000 in
theorem t_X6_recolour {D : va_G} {cI cJ cZ cT : ClassId} {lo b L : Nat} {xs : Nat → Int32} {hp : MH} {n d : Nat} {Γ : TG} {ss : Nat} {x1 x2 x3 : Int} (hd0 : 1 ≤ d) (hs : TySame Γ cI cJ cZ ss) (ht : Tw Γ hp) (hx1 : 0 ≤ x1 ∧ x1 ≤ 512) (hx2 : 0 ≤ x2 ∧ x2 ≤ 16) (hx3 : 0 ≤ x3 ∧ x3 ≤ 16) : Mt (gG D cI cJ cZ cT lo b L xs) mX6_recolour d 0 0 [.ref ss, .int (iv x1), .int (iv x2), .int (iv x3)] hp n (pV Γ n) := by
  obtain ⟨hs_O, hs_ties, hs_colours, hs_fresh, hs_numbering⟩ := id hs
  refine Mt.of rfl (Nat.le_of_ble_eq_true rfl) ?_
  refine Rn.pick (lv' := [(0, .ref ss), (1, .int (iv x1)), (2, .int (iv x2)), (3, .int (iv x3))]) [0, 1, 2, 3] rfl ?_
  refine r_iconst (pc := 0) (v := iv 0) dX6_recolour_0 (by decide) ?_
  refine r_istore (pc := 1) (lv' := [(4, .int (iv 0)), (0, .ref ss), (1, .int (iv x1)), (2, .int (iv x2)), (3, .int (iv x3))]) dX6_recolour_1 (by decide) rfl ?_
  have B3 : ∀ k : Nat, ∀ hp3 : MH, Tw Γ hp3 → ∀  (v3_4 : Int), 0 ≤ v3_4 ∧ v3_4 ≤ 16 → 16 - v3_4 ≤ (k : Int) → Rn (gG D cI cJ cZ cT lo b L xs) mX6_recolour d 3 [(0, .ref ss), (1, .int (iv x1)), (2, .int (iv x2)), (3, .int (iv x3)), (4, .int (iv v3_4))] [] hp3 n 0 0 (pV Γ n) := by
    refine lpS _ ?_
    intro k3 ih3 hp3 ht3 v3_4 hf3 hm3
    refine r_iload (pc := 3) dX6_recolour_3 rfl ?_
    refine r_iload_n (pc := 5) dX6_recolour_5 (i := 3) rfl rfl ?_
    refine t_icmp_ge (pc := 6) (tgt := 115) dX6_recolour_6 (by decide) (by omega) (by omega) (fun c6 => ?_) (fun c6 => ?_)
    · exact r_vret (pc := 115) dX6_recolour_115 rfl ⟨rfl, ht3, rfl⟩
    · refine r_iload_n (pc := 9) dX6_recolour_9 (i := 2) rfl rfl ?_
      refine r_iload (pc := 10) dX6_recolour_10 rfl ?_
      refine r_iadd (pc := 12) (v := iv (x2 + v3_4)) dX6_recolour_12 (iv_add _ _) ?_
      refine r_bipush (pc := 13) (v := iv 16) dX6_recolour_13 (by decide) ?_
      refine r_imul (pc := 15) (v := iv ((x2 + v3_4) * 16)) dX6_recolour_15 (iv_mul _ _) ?_
      refine r_istore (pc := 16) (lv' := [(5, .int (iv ((x2 + v3_4) * 16))), (0, .ref ss), (1, .int (iv x1)), (2, .int (iv x2)), (3, .int (iv x3)), (4, .int (iv v3_4))]) dX6_recolour_16 (by decide) rfl ?_
      refine r_ldc2 (pc := 18) (v := 3) dX6_recolour_18 kX6_97 ?_
      refine r_aload_n (pc := 21) dX6_recolour_21 (i := 0) rfl rfl ?_
      refine t_getE (pc := 22) (.ref (ss + 2)) ht3 hs_O fX6_15 dX6_recolour_22 rfl ?_
      refine r_iload_n (pc := 25) dX6_recolour_25 (i := 1) rfl rfl ?_
      refine r_iload_n (pc := 26) dX6_recolour_26 (i := 2) rfl rfl ?_
      refine r_iadd (pc := 27) (v := iv (x1 + x2)) dX6_recolour_27 (iv_add _ _) ?_
      refine r_iload (pc := 28) dX6_recolour_28 rfl ?_
      refine r_iadd (pc := 30) (v := iv ((x1 + x2) + v3_4)) dX6_recolour_30 (iv_add _ _) ?_
      refine t_lald (pc := 31) (t0 := 1) ht3 (rd_of hs_colours) dX6_recolour_31 rfl (by decide) (by omega) (fun w1 _ => ?_)
      refine r_lmul (pc := 32) (v := (3 : Int64) * w1) dX6_recolour_32 rfl ?_
      refine r_lstore (pc := 33) (lv' := [(6, .long ((3 : Int64) * w1)), (5, .int (iv ((x2 + v3_4) * 16))), (0, .ref ss), (1, .int (iv x1)), (2, .int (iv x2)), (3, .int (iv x3)), (4, .int (iv v3_4))]) dX6_recolour_33 (by decide) rfl ?_
      refine r_iconst (pc := 35) (v := iv 0) dX6_recolour_35 (by decide) ?_
      refine r_istore (pc := 36) (lv' := [(8, .int (iv 0)), (6, .long ((3 : Int64) * w1)), (5, .int (iv ((x2 + v3_4) * 16))), (0, .ref ss), (1, .int (iv x1)), (2, .int (iv x2)), (3, .int (iv x3)), (4, .int (iv v3_4))]) dX6_recolour_36 (by decide) rfl ?_
      have B38 : ∀ k : Nat, ∀ hp38 : MH, Tw Γ hp38 → ∀  (v38_8 : Int) (w38_6 : Int64), 0 ≤ v38_8 ∧ v38_8 ≤ 16 → 16 - v38_8 ≤ (k : Int) → Rn (gG D cI cJ cZ cT lo b L xs) mX6_recolour d 38 [(0, .ref ss), (1, .int (iv x1)), (2, .int (iv x2)), (3, .int (iv x3)), (4, .int (iv v3_4)), (5, .int (iv ((x2 + v3_4) * 16))), (6, .long w38_6), (8, .int (iv v38_8))] [] hp38 n 0 0 (pV Γ n) := by
        refine lpS _ ?_
        intro k38 ih38 hp38 ht38 v38_8 w38_6 hf38 hm38
        refine r_iload (pc := 38) dX6_recolour_38 rfl ?_
        refine r_iload_n (pc := 40) dX6_recolour_40 (i := 3) rfl rfl ?_
        refine t_icmp_ge (pc := 41) (tgt := 95) dX6_recolour_41 (by decide) (by omega) (by omega) (fun c41 => ?_) (fun c41 => ?_)
        · refine r_aload_n (pc := 95) dX6_recolour_95 (i := 0) rfl rfl ?_
          refine t_getE (pc := 96) (.ref (ss + 3)) ht38 hs_O fX6_18 dX6_recolour_96 rfl ?_
          refine r_iload_n (pc := 99) dX6_recolour_99 (i := 2) rfl rfl ?_
          refine r_iload (pc := 100) dX6_recolour_100 rfl ?_
          refine r_iadd (pc := 102) (v := iv (x2 + v3_4)) dX6_recolour_102 (iv_add _ _) ?_
          refine r_lload (pc := 103) dX6_recolour_103 rfl ?_
          refine t_callSJ (pc := 105) (as := [.long w38_6]) (st := [.int (iv (x2 + v3_4)), .ref (ss + 3)]) kX6_70 dX6_recolour_105 (t_X6_scramble (d := d - 1) (j0 := w38_6) (by omega)   ht38  ) rfl (by omega) (Nat.le_of_ble_eq_true rfl) rfl (fun hp2 y4 ht3 _ => ?_)
          refine t_last (pc := 108) (t0 := 1) ht3 hs_fresh dX6_recolour_108 rfl (by decide) (by omega) trivial (fun hp5 ht6 => ?_)
          refine r_iinc (pc := 109) (v := iv (v3_4 + 1)) (lv' := [(4, .int (iv (v3_4 + 1))), (0, .ref ss), (1, .int (iv x1)), (2, .int (iv x2)), (3, .int (iv x3)), (5, .int (iv ((x2 + v3_4) * 16))), (6, .long w38_6), (8, .int (iv v38_8))]) dX6_recolour_109 rfl (iv_add _ _) (by decide) rfl ?_
          refine r_goto (pc := 112) (tgt := 3) dX6_recolour_112 (by decide) ?_
          refine Rn.pick (lv' := [(0, .ref ss), (1, .int (iv x1)), (2, .int (iv x2)), (3, .int (iv x3)), (4, .int (iv (v3_4 + 1)))]) [1, 2, 3, 4, 0] rfl ?_
          exact ih3 (Int.toNat (16 - (v3_4 + 1))) (by omega) _ ht6 (v3_4 + 1) ⟨by omega, by omega⟩ (by omega)
        · refine r_aload_n (pc := 44) dX6_recolour_44 (i := 0) rfl rfl ?_
          refine t_getE (pc := 45) (.ref (ss + 1)) ht38 hs_O fX6_9 dX6_recolour_45 rfl ?_
          refine r_iload (pc := 48) dX6_recolour_48 rfl ?_
          refine r_iload (pc := 50) dX6_recolour_50 rfl ?_
          refine r_iadd (pc := 52) (v := iv (((x2 + v3_4) * 16) + v38_8)) dX6_recolour_52 (iv_add _ _) ?_
          refine t_lald (pc := 53) (t0 := 1) ht38 (rd_of hs_ties) dX6_recolour_53 rfl (by decide) (by omega) (fun w7 _ => ?_)
          refine r_lconst (pc := 54) (v := 0) dX6_recolour_54 (by decide) ?_
          refine r_lcmp (pc := 55) dX6_recolour_55 ?_
          have B89 : ∀ hp89 : MH, Tw Γ hp89 → ∀  (w89_6 : Int64), True → Rn (gG D cI cJ cZ cT lo b L xs) mX6_recolour d 89 [(0, .ref ss), (1, .int (iv x1)), (2, .int (iv x2)), (3, .int (iv x3)), (4, .int (iv v3_4)), (5, .int (iv ((x2 + v3_4) * 16))), (6, .long w89_6), (8, .int (iv v38_8))] [] hp89 n 0 0 (pV Γ n) := by
            intro hp89 ht89 w89_6 hf89
            refine r_iinc (pc := 89) (v := iv (v38_8 + 1)) (lv' := [(8, .int (iv (v38_8 + 1))), (0, .ref ss), (1, .int (iv x1)), (2, .int (iv x2)), (3, .int (iv x3)), (4, .int (iv v3_4)), (5, .int (iv ((x2 + v3_4) * 16))), (6, .long w89_6)]) dX6_recolour_89 rfl (iv_add _ _) (by decide) rfl ?_
            refine r_goto (pc := 92) (tgt := 38) dX6_recolour_92 (by decide) ?_
            refine Rn.pick (lv' := [(0, .ref ss), (1, .int (iv x1)), (2, .int (iv x2)), (3, .int (iv x3)), (4, .int (iv v3_4)), (5, .int (iv ((x2 + v3_4) * 16))), (6, .long w89_6), (8, .int (iv (v38_8 + 1)))]) [1, 2, 3, 4, 5, 6, 7, 0] rfl ?_
            exact ih38 (Int.toNat (16 - (v38_8 + 1))) (by omega) _ ht89 (v38_8 + 1) w89_6 ⟨by omega, by omega⟩ (by omega)
          refine r_if_eq (pc := 56) (tgt := 89) dX6_recolour_56 (by decide) (fun c56 => ?_) (fun c56 => ?_)
          · refine Rn.pick (lv' := [(0, .ref ss), (1, .int (iv x1)), (2, .int (iv x2)), (3, .int (iv x3)), (4, .int (iv v3_4)), (5, .int (iv ((x2 + v3_4) * 16))), (6, .long w38_6), (8, .int (iv v38_8))]) [0, 1, 2, 3, 4, 5, 6, 7] rfl ?_
            exact B89 _ ht38 w38_6 trivial
          · refine r_lload (pc := 59) dX6_recolour_59 rfl ?_
            refine r_aload_n (pc := 61) dX6_recolour_61 (i := 0) rfl rfl ?_
            refine t_getE (pc := 62) (.ref (ss + 1)) ht38 hs_O fX6_9 dX6_recolour_62 rfl ?_
            refine r_iload (pc := 65) dX6_recolour_65 rfl ?_
            refine r_iload (pc := 67) dX6_recolour_67 rfl ?_
            refine r_iadd (pc := 69) (v := iv (((x2 + v3_4) * 16) + v38_8)) dX6_recolour_69 (iv_add _ _) ?_
            refine t_lald (pc := 70) (t0 := 1) ht38 (rd_of hs_ties) dX6_recolour_70 rfl (by decide) (by omega) (fun w8 _ => ?_)
            refine r_aload_n (pc := 71) dX6_recolour_71 (i := 0) rfl rfl ?_
            refine t_getE (pc := 72) (.ref (ss + 2)) ht38 hs_O fX6_15 dX6_recolour_72 rfl ?_
            refine r_iload_n (pc := 75) dX6_recolour_75 (i := 1) rfl rfl ?_
            refine r_iload_n (pc := 76) dX6_recolour_76 (i := 2) rfl rfl ?_
            refine r_iadd (pc := 77) (v := iv (x1 + x2)) dX6_recolour_77 (iv_add _ _) ?_
            refine r_iload (pc := 78) dX6_recolour_78 rfl ?_
            refine r_iadd (pc := 80) (v := iv ((x1 + x2) + v38_8)) dX6_recolour_80 (iv_add _ _) ?_
            refine t_lald (pc := 81) (t0 := 1) ht38 (rd_of hs_colours) dX6_recolour_81 rfl (by decide) (by omega) (fun w9 _ => ?_)
            refine r_ladd (pc := 82) (v := w8 + w9) dX6_recolour_82 rfl ?_
            refine t_callSJ (pc := 83) (as := [.long (w8 + w9)]) (st := [.long w38_6]) kX6_70 dX6_recolour_83 (t_X6_scramble (d := d - 1) (j0 := w8 + w9) (by omega)   ht38  ) rfl (by omega) (Nat.le_of_ble_eq_true rfl) rfl (fun hp10 y12 ht11 _ => ?_)
            refine r_ladd (pc := 86) (v := w38_6 + y12) dX6_recolour_86 rfl ?_
            refine r_lstore (pc := 87) (lv' := [(6, .long (w38_6 + y12)), (0, .ref ss), (1, .int (iv x1)), (2, .int (iv x2)), (3, .int (iv x3)), (4, .int (iv v3_4)), (5, .int (iv ((x2 + v3_4) * 16))), (8, .int (iv v38_8))]) dX6_recolour_87 (by decide) rfl ?_
            refine Rn.pick (lv' := [(0, .ref ss), (1, .int (iv x1)), (2, .int (iv x2)), (3, .int (iv x3)), (4, .int (iv v3_4)), (5, .int (iv ((x2 + v3_4) * 16))), (6, .long (w38_6 + y12)), (8, .int (iv v38_8))]) [1, 2, 3, 4, 5, 6, 0, 7] rfl ?_
            exact B89 _ ht11 (w38_6 + y12) trivial
      refine Rn.pick (lv' := [(0, .ref ss), (1, .int (iv x1)), (2, .int (iv x2)), (3, .int (iv x3)), (4, .int (iv v3_4)), (5, .int (iv ((x2 + v3_4) * 16))), (6, .long ((3 : Int64) * w1)), (8, .int (iv 0))]) [3, 4, 5, 6, 7, 2, 1, 0] rfl ?_
      exact B38 (Int.toNat (16 - 0)) _ ht3 0 ((3 : Int64) * w1) ⟨by omega, by omega⟩ (by omega)
  refine Rn.pick (lv' := [(0, .ref ss), (1, .int (iv x1)), (2, .int (iv x2)), (3, .int (iv x3)), (4, .int (iv 0))]) [1, 2, 3, 4, 0] rfl ?_
  exact B3 (Int.toNat (16 - 0)) _ ht 0 ⟨by omega, by omega⟩ (by omega)
set_option maxHeartbeats 4000000 in
set_option maxRecDepth 100000 in
theorem t_X6_firstLike {D : va_G} {cI cJ cZ cT : ClassId} {lo b L : Nat} {xs : Nat → Int32} {hp : MH} {n d : Nat} {Γ : TG} {ss : Nat} {x1 x3 x4 : Int} {j2 : Int64} (hd0 : 0 ≤ d) (hs : TySame Γ cI cJ cZ ss) (ht : Tw Γ hp) (hx1 : 0 ≤ x1 ∧ x1 ≤ 512) (hx3 : 0 ≤ x3 ∧ x3 ≤ 65535) (hx4 : 0 ≤ x4 ∧ x4 ≤ 16) : Mt (gG D cI cJ cZ cT lo b L xs) mX6_firstLike d 0 0 [.ref ss, .int (iv x1), .long j2, .int (iv x3), .int (iv x4)] hp n (pR Γ n (-1) 15) := by
  obtain ⟨hs_O, hs_ties, hs_colours, hs_fresh, hs_numbering⟩ := id hs
  refine Mt.of rfl (Nat.le_of_ble_eq_true rfl) ?_
  refine Rn.pick (lv' := [(0, .ref ss), (1, .int (iv x1)), (2, .long j2), (4, .int (iv x3)), (5, .int (iv x4))]) [0, 1, 2, 3, 4] rfl ?_
  refine r_iconst (pc := 0) (v := iv 0) dX6_firstLike_0 (by decide) ?_
  refine r_istore (pc := 1) (lv' := [(6, .int (iv 0)), (0, .ref ss), (1, .int (iv x1)), (2, .long j2), (4, .int (iv x3)), (5, .int (iv x4))]) dX6_firstLike_1 (by decide) rfl ?_
  have B3 : ∀ k : Nat, ∀ hp3 : MH, Tw Γ hp3 → ∀  (v3_6 : Int), 0 ≤ v3_6 ∧ v3_6 ≤ 16 → 16 - v3_6 ≤ (k : Int) → Rn (gG D cI cJ cZ cT lo b L xs) mX6_firstLike d 3 [(0, .ref ss), (1, .int (iv x1)), (2, .long j2), (4, .int (iv x3)), (5, .int (iv x4)), (6, .int (iv v3_6))] [] hp3 n 0 0 (pR Γ n (-1) 15) := by
    refine lpS _ ?_
    intro k3 ih3 hp3 ht3 v3_6 hf3 hm3
    refine r_iload (pc := 3) dX6_firstLike_3 rfl ?_
    refine r_iload (pc := 5) dX6_firstLike_5 rfl ?_
    refine t_icmp_ge (pc := 7) (tgt := 46) dX6_firstLike_7 (by decide) (by omega) (by omega) (fun c7 => ?_) (fun c7 => ?_)
    · refine r_iconst (pc := 46) (v := iv (-1)) dX6_firstLike_46 (by decide) ?_
      exact r_iret (pc := 47) dX6_firstLike_47 rfl ⟨rfl, ht3, _, rfl, by omega, by omega⟩
    · refine r_iload (pc := 10) dX6_firstLike_10 rfl ?_
      refine r_iload (pc := 12) dX6_firstLike_12 rfl ?_
      obtain ⟨z1, hz1, bz1⟩ := shr_x x3 v3_6 (by omega) (by omega)
      refine r_ishr (pc := 14) (v := iv z1) dX6_firstLike_14 hz1 ?_
      refine r_iconst (pc := 15) (v := iv 1) dX6_firstLike_15 (by decide) ?_
      obtain ⟨z2, hz2, bz2⟩ := and_2 z1 1 (by omega) (by omega)
      refine r_iand (pc := 16) (v := iv z2) dX6_firstLike_16 hz2 ?_
      have B40 : ∀ hp40 : MH, Tw Γ hp40 → True → Rn (gG D cI cJ cZ cT lo b L xs) mX6_firstLike d 40 [(0, .ref ss), (1, .int (iv x1)), (2, .long j2), (4, .int (iv x3)), (5, .int (iv x4)), (6, .int (iv v3_6))] [] hp40 n 0 0 (pR Γ n (-1) 15) := by
        intro hp40 ht40 hf40
        refine r_iinc (pc := 40) (v := iv (v3_6 + 1)) (lv' := [(6, .int (iv (v3_6 + 1))), (0, .ref ss), (1, .int (iv x1)), (2, .long j2), (4, .int (iv x3)), (5, .int (iv x4))]) dX6_firstLike_40 rfl (iv_add _ _) (by decide) rfl ?_
        refine r_goto (pc := 43) (tgt := 3) dX6_firstLike_43 (by decide) ?_
        refine Rn.pick (lv' := [(0, .ref ss), (1, .int (iv x1)), (2, .long j2), (4, .int (iv x3)), (5, .int (iv x4)), (6, .int (iv (v3_6 + 1)))]) [1, 2, 3, 4, 5, 0] rfl ?_
        exact ih3 (Int.toNat (16 - (v3_6 + 1))) (by omega) _ ht40 (v3_6 + 1) ⟨by omega, by omega⟩ (by omega)
      refine t_if_ne (pc := 17) (tgt := 40) dX6_firstLike_17 (by decide) (by omega) (fun c17 => ?_) (fun c17 => ?_)
      · refine Rn.pick (lv' := [(0, .ref ss), (1, .int (iv x1)), (2, .long j2), (4, .int (iv x3)), (5, .int (iv x4)), (6, .int (iv v3_6))]) [0, 1, 2, 3, 4, 5] rfl ?_
        exact B40 _ ht3 trivial
      · refine r_aload_n (pc := 20) dX6_firstLike_20 (i := 0) rfl rfl ?_
        refine t_getE (pc := 21) (.ref (ss + 2)) ht3 hs_O fX6_15 dX6_firstLike_21 rfl ?_
        refine r_iload_n (pc := 24) dX6_firstLike_24 (i := 1) rfl rfl ?_
        refine r_bipush (pc := 25) (v := iv 16) dX6_firstLike_25 (by decide) ?_
        refine r_iadd (pc := 27) (v := iv (x1 + 16)) dX6_firstLike_27 (iv_add _ _) ?_
        refine r_iload (pc := 28) dX6_firstLike_28 rfl ?_
        refine r_iadd (pc := 30) (v := iv ((x1 + 16) + v3_6)) dX6_firstLike_30 (iv_add _ _) ?_
        refine t_lald (pc := 31) (t0 := 1) ht3 (rd_of hs_colours) dX6_firstLike_31 rfl (by decide) (by omega) (fun w3 _ => ?_)
        refine r_lload_n (pc := 32) dX6_firstLike_32 (i := 2) rfl rfl ?_
        refine r_lcmp (pc := 33) dX6_firstLike_33 ?_
        refine r_if_ne (pc := 34) (tgt := 40) dX6_firstLike_34 (by decide) (fun c34 => ?_) (fun c34 => ?_)
        · refine Rn.pick (lv' := [(0, .ref ss), (1, .int (iv x1)), (2, .long j2), (4, .int (iv x3)), (5, .int (iv x4)), (6, .int (iv v3_6))]) [0, 1, 2, 3, 4, 5] rfl ?_
          exact B40 _ ht3 trivial
        · refine r_iload (pc := 37) dX6_firstLike_37 rfl ?_
          exact r_iret (pc := 39) dX6_firstLike_39 rfl ⟨rfl, ht3, _, rfl, by omega, by omega⟩
  refine Rn.pick (lv' := [(0, .ref ss), (1, .int (iv x1)), (2, .long j2), (4, .int (iv x3)), (5, .int (iv x4)), (6, .int (iv 0))]) [1, 2, 3, 4, 5, 0] rfl ?_
  exact B3 (Int.toNat (16 - 0)) _ ht 0 ⟨by omega, by omega⟩ (by omega)
set_option maxHeartbeats 4000000 in
set_option maxRecDepth 100000 in
theorem t_X6_haveSameColours {D : va_G} {cI cJ cZ cT : ClassId} {lo b L : Nat} {xs : Nat → Int32} {hp : MH} {n d : Nat} {Γ : TG} {ss : Nat} {x1 x2 : Int} (hd0 : 1 ≤ d) (hs : TySame Γ cI cJ cZ ss) (ht : Tw Γ hp) (hx1 : 0 ≤ x1 ∧ x1 ≤ 512) (hx2 : 0 ≤ x2 ∧ x2 ≤ 16) : Mt (gG D cI cJ cZ cT lo b L xs) mX6_haveSameColours d 0 0 [.ref ss, .int (iv x1), .int (iv x2)] hp n (pR Γ n 0 1) := by
  obtain ⟨hs_O, hs_ties, hs_colours, hs_fresh, hs_numbering⟩ := id hs
  refine Mt.of rfl (Nat.le_of_ble_eq_true rfl) ?_
  refine Rn.pick (lv' := [(0, .ref ss), (1, .int (iv x1)), (2, .int (iv x2))]) [0, 1, 2] rfl ?_
  refine r_iconst (pc := 0) (v := iv 0) dX6_haveSameColours_0 (by decide) ?_
  refine r_istore_n (pc := 1) (lv' := [(3, .int (iv 0)), (0, .ref ss), (1, .int (iv x1)), (2, .int (iv x2))]) dX6_haveSameColours_1 (i := 3) rfl (by decide) rfl ?_
  refine r_iconst (pc := 2) (v := iv 0) dX6_haveSameColours_2 (by decide) ?_
  refine r_istore (pc := 3) (lv' := [(4, .int (iv 0)), (3, .int (iv 0)), (0, .ref ss), (1, .int (iv x1)), (2, .int (iv x2))]) dX6_haveSameColours_3 (by decide) rfl ?_
  have B5 : ∀ k : Nat, ∀ hp5 : MH, Tw Γ hp5 → ∀  (v5_3 : Int) (v5_4 : Int), 0 ≤ v5_3 ∧ v5_3 ≤ 65535 ∧ 0 ≤ v5_4 ∧ v5_4 ≤ 16 → 16 - v5_4 ≤ (k : Int) → Rn (gG D cI cJ cZ cT lo b L xs) mX6_haveSameColours d 5 [(0, .ref ss), (1, .int (iv x1)), (2, .int (iv x2)), (3, .int (iv v5_3)), (4, .int (iv v5_4))] [] hp5 n 0 0 (pR Γ n 0 1) := by
    refine lpS _ ?_
    intro k5 ih5 hp5 ht5 v5_3 v5_4 hf5 hm5
    refine r_iload (pc := 5) dX6_haveSameColours_5 rfl ?_
    refine r_iload_n (pc := 7) dX6_haveSameColours_7 (i := 2) rfl rfl ?_
    refine t_icmp_ge (pc := 8) (tgt := 49) dX6_haveSameColours_8 (by decide) (by omega) (by omega) (fun c8 => ?_) (fun c8 => ?_)
    · refine r_iconst (pc := 49) (v := iv 1) dX6_haveSameColours_49 (by decide) ?_
      exact r_zret (pc := 50) dX6_haveSameColours_50 rfl (iv_nar (by omega)) ⟨rfl, ht5, _, rfl, by omega, by omega⟩
    · refine r_aload_n (pc := 11) dX6_haveSameColours_11 (i := 0) rfl rfl ?_
      refine r_iload_n (pc := 12) dX6_haveSameColours_12 (i := 1) rfl rfl ?_
      refine r_aload_n (pc := 13) dX6_haveSameColours_13 (i := 0) rfl rfl ?_
      refine t_getE (pc := 14) (.ref (ss + 2)) ht5 hs_O fX6_15 dX6_haveSameColours_14 rfl ?_
      refine r_iload_n (pc := 17) dX6_haveSameColours_17 (i := 1) rfl rfl ?_
      refine r_iload (pc := 18) dX6_haveSameColours_18 rfl ?_
      refine r_iadd (pc := 20) (v := iv (x1 + v5_4)) dX6_haveSameColours_20 (iv_add _ _) ?_
      refine t_lald (pc := 21) (t0 := 1) ht5 (rd_of hs_colours) dX6_haveSameColours_21 rfl (by decide) (by omega) (fun w1 _ => ?_)
      refine r_iload_n (pc := 22) dX6_haveSameColours_22 (i := 3) rfl rfl ?_
      refine r_iload_n (pc := 23) dX6_haveSameColours_23 (i := 2) rfl rfl ?_
      refine t_callVR (pc := 24) (as := [.int (iv x1), .long w1, .int (iv v5_3), .int (iv x2)]) (st := []) ht5 hs_O kX6_99 rfl dX6_haveSameColours_24 (t_X6_firstLike (d := d - 1) (x1 := x1) (j2 := w1) (x3 := v5_3) (x4 := x2) (by omega) hs  ht5 (by omega) (by omega) (by omega) ) rfl (by omega) (Nat.le_of_ble_eq_true rfl) rfl (fun hp2 y4 ht3 by4 => ?_)
      refine r_istore (pc := 27) (lv' := [(5, .int (iv y4)), (0, .ref ss), (1, .int (iv x1)), (2, .int (iv x2)), (3, .int (iv v5_3)), (4, .int (iv v5_4))]) dX6_haveSameColours_27 (by decide) rfl ?_
      refine r_iload (pc := 29) dX6_haveSameColours_29 rfl ?_
      refine t_if_ge (pc := 31) (tgt := 36) dX6_haveSameColours_31 (by decide) (by omega) (fun c31 => ?_) (fun c31 => ?_)
      · refine r_iload_n (pc := 36) dX6_haveSameColours_36 (i := 3) rfl rfl ?_
        refine r_iconst (pc := 37) (v := iv 1) dX6_haveSameColours_37 (by decide) ?_
        refine r_iload (pc := 38) dX6_haveSameColours_38 rfl ?_
        obtain ⟨z5, hz5, bz5⟩ := shl_1 0 15 y4 (by omega) (by omega) (by decide)
        refine r_ishl (pc := 40) (v := iv z5) dX6_haveSameColours_40 hz5 ?_
        obtain ⟨z6, hz6, bz6⟩ := or_2 16 v5_3 z5 (by omega) (by omega) (by decide)
        refine r_ior (pc := 41) (v := iv z6) dX6_haveSameColours_41 hz6 ?_
        refine r_istore_n (pc := 42) (lv' := [(3, .int (iv z6)), (5, .int (iv y4)), (0, .ref ss), (1, .int (iv x1)), (2, .int (iv x2)), (4, .int (iv v5_4))]) dX6_haveSameColours_42 (i := 3) rfl (by decide) rfl ?_
        refine r_iinc (pc := 43) (v := iv (v5_4 + 1)) (lv' := [(4, .int (iv (v5_4 + 1))), (3, .int (iv z6)), (5, .int (iv y4)), (0, .ref ss), (1, .int (iv x1)), (2, .int (iv x2))]) dX6_haveSameColours_43 rfl (iv_add _ _) (by decide) rfl ?_
        refine r_goto (pc := 46) (tgt := 5) dX6_haveSameColours_46 (by decide) ?_
        refine Rn.pick (lv' := [(0, .ref ss), (1, .int (iv x1)), (2, .int (iv x2)), (3, .int (iv z6)), (4, .int (iv (v5_4 + 1)))]) [3, 4, 5, 1, 0] rfl ?_
        exact ih5 (Int.toNat (16 - (v5_4 + 1))) (by omega) _ ht3 z6 (v5_4 + 1) ⟨by omega, by omega, by omega, by omega⟩ (by omega)
      · refine r_iconst (pc := 34) (v := iv 0) dX6_haveSameColours_34 (by decide) ?_
        exact r_zret (pc := 35) dX6_haveSameColours_35 rfl (iv_nar (by omega)) ⟨rfl, ht3, _, rfl, by omega, by omega⟩
  refine Rn.pick (lv' := [(0, .ref ss), (1, .int (iv x1)), (2, .int (iv x2)), (3, .int (iv 0)), (4, .int (iv 0))]) [2, 3, 4, 1, 0] rfl ?_
  exact B5 (Int.toNat (16 - 0)) _ ht 0 0 ⟨by omega, by omega, by omega, by omega⟩ (by omega)
set_option maxHeartbeats 4000000 in
set_option maxRecDepth 100000 in
theorem t_X6_refine {D : va_G} {cI cJ cZ cT : ClassId} {lo b L : Nat} {xs : Nat → Int32} {hp : MH} {n d : Nat} {Γ : TG} {ss : Nat} {x1 x2 : Int} (hd0 : 2 ≤ d) (hs : TySame Γ cI cJ cZ ss) (ht : Tw Γ hp) (hx1 : 0 ≤ x1 ∧ x1 ≤ 16) (hx2 : 0 ≤ x2 ∧ x2 ≤ 16) : Mt (gG D cI cJ cZ cT lo b L xs) mX6_refine d 0 0 [.ref ss, .int (iv x1), .int (iv x2)] hp n (pR Γ n 0 1) := by
  obtain ⟨hs_O, hs_ties, hs_colours, hs_fresh, hs_numbering⟩ := id hs
  refine Mt.of rfl (Nat.le_of_ble_eq_true rfl) ?_
  refine Rn.pick (lv' := [(0, .ref ss), (1, .int (iv x1)), (2, .int (iv x2))]) [0, 1, 2] rfl ?_
  refine r_iload_n (pc := 0) dX6_refine_0 (i := 2) rfl rfl ?_
  refine r_bipush (pc := 1) (v := iv 32) dX6_refine_1 (by decide) ?_
  refine r_imul (pc := 3) (v := iv (x2 * 32)) dX6_refine_3 (iv_mul _ _) ?_
  refine r_istore_n (pc := 4) (lv' := [(3, .int (iv (x2 * 32))), (0, .ref ss), (1, .int (iv x1)), (2, .int (iv x2))]) dX6_refine_4 (i := 3) rfl (by decide) rfl ?_
  refine r_iconst (pc := 5) (v := iv 0) dX6_refine_5 (by decide) ?_
  refine r_istore (pc := 6) (lv' := [(4, .int (iv 0)), (3, .int (iv (x2 * 32))), (0, .ref ss), (1, .int (iv x1)), (2, .int (iv x2))]) dX6_refine_6 (by decide) rfl ?_
  refine r_aload_n (pc := 8) dX6_refine_8 (i := 0) rfl rfl ?_
  refine r_iload_n (pc := 9) dX6_refine_9 (i := 3) rfl rfl ?_
  refine r_iload_n (pc := 10) dX6_refine_10 (i := 1) rfl rfl ?_
  refine t_callVR (pc := 11) (as := [.int (iv (x2 * 32)), .int (iv x1)]) (st := []) ht hs_O kX6_80 rfl dX6_refine_11 (t_X6_countColours (d := d - 1) (x1 := x2 * 32) (x2 := x1) (by omega) hs  ht (by omega) (by omega) ) rfl (by omega) (Nat.le_of_ble_eq_true rfl) rfl (fun hp1 y3 ht2 by3 => ?_)
  refine r_istore (pc := 14) (lv' := [(5, .int (iv y3)), (4, .int (iv 0)), (3, .int (iv (x2 * 32))), (0, .ref ss), (1, .int (iv x1)), (2, .int (iv x2))]) dX6_refine_14 (by decide) rfl ?_
  refine r_iconst (pc := 16) (v := iv 0) dX6_refine_16 (by decide) ?_
  refine r_istore (pc := 17) (lv' := [(6, .int (iv 0)), (5, .int (iv y3)), (4, .int (iv 0)), (3, .int (iv (x2 * 32))), (0, .ref ss), (1, .int (iv x1)), (2, .int (iv x2))]) dX6_refine_17 (by decide) rfl ?_
  have B19 : ∀ k : Nat, ∀ hp19 : MH, Tw Γ hp19 → ∀  (v19_4 : Int) (v19_5 : Int) (v19_6 : Int), 0 ≤ v19_4 ∧ v19_4 ≤ 15 ∧ (-2147483648) ≤ v19_5 ∧ v19_5 ≤ 2147483647 ∧ 0 ≤ v19_6 ∧ v19_6 ≤ 16 → 16 - v19_6 ≤ (k : Int) → Rn (gG D cI cJ cZ cT lo b L xs) mX6_refine d 19 [(0, .ref ss), (1, .int (iv x1)), (3, .int (iv (x2 * 32))), (4, .int (iv v19_4)), (5, .int (iv v19_5)), (6, .int (iv v19_6))] [] hp19 n 0 0 (pR Γ n 0 1) := by
    refine lpS _ ?_
    intro k19 ih19 hp19 ht19 v19_4 v19_5 v19_6 hf19 hm19
    refine r_iload (pc := 19) dX6_refine_19 rfl ?_
    refine r_iload_n (pc := 21) dX6_refine_21 (i := 1) rfl rfl ?_
    have B86 : ∀ hp86 : MH, Tw Γ hp86 → True → Rn (gG D cI cJ cZ cT lo b L xs) mX6_refine d 86 [(0, .ref ss), (1, .int (iv x1)), (3, .int (iv (x2 * 32)))] [] hp86 n 0 0 (pR Γ n 0 1) := by
      intro hp86 ht86 hf86
      refine r_aload_n (pc := 86) dX6_refine_86 (i := 0) rfl rfl ?_
      refine r_iload_n (pc := 87) dX6_refine_87 (i := 3) rfl rfl ?_
      refine r_iload_n (pc := 88) dX6_refine_88 (i := 1) rfl rfl ?_
      refine t_callVR (pc := 89) (as := [.int (iv (x2 * 32)), .int (iv x1)]) (st := []) ht86 hs_O kX6_94 rfl dX6_refine_89 (t_X6_haveSameColours (d := d - 1) (x1 := x2 * 32) (x2 := x1) (by omega) hs  ht86 (by omega) (by omega) ) rfl (by omega) (Nat.le_of_ble_eq_true rfl) rfl (fun hp4 y6 ht5 by6 => ?_)
      exact r_zret (pc := 92) dX6_refine_92 rfl (iv_nar (by omega)) ⟨rfl, ht5, _, rfl, by omega, by omega⟩
    refine t_icmp_ge (pc := 22) (tgt := 86) dX6_refine_22 (by decide) (by omega) (by omega) (fun c22 => ?_) (fun c22 => ?_)
    · refine Rn.pick (lv' := [(0, .ref ss), (1, .int (iv x1)), (3, .int (iv (x2 * 32)))]) [0, 1, 2] rfl ?_
      exact B86 _ ht19 trivial
    · refine r_iload (pc := 25) dX6_refine_25 rfl ?_
      refine r_iload (pc := 27) dX6_refine_27 rfl ?_
      refine t_icmp_le (pc := 29) (tgt := 86) dX6_refine_29 (by decide) (by omega) (by omega) (fun c29 => ?_) (fun c29 => ?_)
      · refine Rn.pick (lv' := [(0, .ref ss), (1, .int (iv x1)), (3, .int (iv (x2 * 32)))]) [0, 1, 2] rfl ?_
        exact B86 _ ht19 trivial
      · refine r_iload (pc := 32) dX6_refine_32 rfl ?_
        refine r_iload_n (pc := 34) dX6_refine_34 (i := 1) rfl rfl ?_
        refine t_icmp_ge (pc := 35) (tgt := 86) dX6_refine_35 (by decide) (by omega) (by omega) (fun c35 => ?_) (fun c35 => ?_)
        · refine Rn.pick (lv' := [(0, .ref ss), (1, .int (iv x1)), (3, .int (iv (x2 * 32)))]) [0, 1, 2] rfl ?_
          exact B86 _ ht19 trivial
        · refine r_aload_n (pc := 38) dX6_refine_38 (i := 0) rfl rfl ?_
          refine r_iload_n (pc := 39) dX6_refine_39 (i := 3) rfl rfl ?_
          refine r_iconst (pc := 40) (v := iv 0) dX6_refine_40 (by decide) ?_
          refine r_iload_n (pc := 41) dX6_refine_41 (i := 1) rfl rfl ?_
          refine t_callVV (pc := 42) (as := [.int (iv (x2 * 32)), .int (iv 0), .int (iv x1)]) (st := []) ht19 hs_O kX6_84 rfl dX6_refine_42 (t_X6_recolour (d := d - 1) (x1 := x2 * 32) (x2 := 0) (x3 := x1) (by omega) hs  ht19 (by omega) (by omega) (by omega) ) rfl (by omega) (Nat.le_of_ble_eq_true rfl) rfl (fun hp7 ht8 => ?_)
          refine r_aload_n (pc := 45) dX6_refine_45 (i := 0) rfl rfl ?_
          refine r_iload_n (pc := 46) dX6_refine_46 (i := 3) rfl rfl ?_
          refine r_bipush (pc := 47) (v := iv 16) dX6_refine_47 (by decide) ?_
          refine r_iload_n (pc := 49) dX6_refine_49 (i := 1) rfl rfl ?_
          refine t_callVV (pc := 50) (as := [.int (iv (x2 * 32)), .int (iv 16), .int (iv x1)]) (st := []) ht8 hs_O kX6_84 rfl dX6_refine_50 (t_X6_recolour (d := d - 1) (x1 := x2 * 32) (x2 := 16) (x3 := x1) (by omega) hs  ht8 (by omega) (by omega) (by omega) ) rfl (by omega) (Nat.le_of_ble_eq_true rfl) rfl (fun hp10 ht11 => ?_)
          refine r_aload_n (pc := 53) dX6_refine_53 (i := 0) rfl rfl ?_
          refine t_getE (pc := 54) (.ref (ss + 3)) ht11 hs_O fX6_18 dX6_refine_54 rfl ?_
          refine r_iconst (pc := 57) (v := iv 0) dX6_refine_57 (by decide) ?_
          refine r_aload_n (pc := 58) dX6_refine_58 (i := 0) rfl rfl ?_
          refine t_getE (pc := 59) (.ref (ss + 2)) ht11 hs_O fX6_15 dX6_refine_59 rfl ?_
          refine r_iload_n (pc := 62) dX6_refine_62 (i := 3) rfl rfl ?_
          refine r_bipush (pc := 63) (v := iv 32) dX6_refine_63 (by decide) ?_
          refine t_copyJ (pc := 65) (t0 := 1) ht11 (rd_of hs_fresh) hs_colours aX6_88 dX6_refine_65 rfl (by omega) (by omega) (Nat.le_of_ble_eq_true rfl) (fun hp13 ht14 => ?_)
          refine r_iload (pc := 68) dX6_refine_68 rfl ?_
          refine r_istore (pc := 70) (lv' := [(4, .int (iv v19_5)), (0, .ref ss), (1, .int (iv x1)), (3, .int (iv (x2 * 32))), (5, .int (iv v19_5)), (6, .int (iv v19_6))]) dX6_refine_70 (by decide) rfl ?_
          refine r_aload_n (pc := 72) dX6_refine_72 (i := 0) rfl rfl ?_
          refine r_iload_n (pc := 73) dX6_refine_73 (i := 3) rfl rfl ?_
          refine r_iload_n (pc := 74) dX6_refine_74 (i := 1) rfl rfl ?_
          refine t_callVR (pc := 75) (as := [.int (iv (x2 * 32)), .int (iv x1)]) (st := []) ht14 hs_O kX6_80 rfl dX6_refine_75 (t_X6_countColours (d := d - 1) (x1 := x2 * 32) (x2 := x1) (by omega) hs  ht14 (by omega) (by omega) ) rfl (by omega) (Nat.le_of_ble_eq_true rfl) rfl (fun hp15 y17 ht16 by17 => ?_)
          refine r_istore (pc := 78) (lv' := [(5, .int (iv y17)), (4, .int (iv v19_5)), (0, .ref ss), (1, .int (iv x1)), (3, .int (iv (x2 * 32))), (6, .int (iv v19_6))]) dX6_refine_78 (by decide) rfl ?_
          refine r_iinc (pc := 80) (v := iv (v19_6 + 1)) (lv' := [(6, .int (iv (v19_6 + 1))), (5, .int (iv y17)), (4, .int (iv v19_5)), (0, .ref ss), (1, .int (iv x1)), (3, .int (iv (x2 * 32)))]) dX6_refine_80 rfl (iv_add _ _) (by decide) rfl ?_
          refine r_goto (pc := 83) (tgt := 19) dX6_refine_83 (by decide) ?_
          refine Rn.pick (lv' := [(0, .ref ss), (1, .int (iv x1)), (3, .int (iv (x2 * 32))), (4, .int (iv v19_5)), (5, .int (iv y17)), (6, .int (iv (v19_6 + 1)))]) [3, 4, 5, 2, 1, 0] rfl ?_
          exact ih19 (Int.toNat (16 - (v19_6 + 1))) (by omega) _ ht16 v19_5 y17 (v19_6 + 1) ⟨by omega, by omega, by omega, by omega, by omega, by omega⟩ (by omega)
  refine Rn.pick (lv' := [(0, .ref ss), (1, .int (iv x1)), (3, .int (iv (x2 * 32))), (4, .int (iv 0)), (5, .int (iv y3)), (6, .int (iv 0))]) [4, 5, 3, 2, 1, 0] rfl ?_
  exact B19 (Int.toNat (16 - 0)) _ ht2 0 y3 0 ⟨by omega, by omega, by omega, by omega, by omega, by omega⟩ (by omega)
set_option maxHeartbeats 4000000 in
set_option maxRecDepth 100000 in
theorem t_X6_markPair {D : va_G} {cI cJ cZ cT : ClassId} {lo b L : Nat} {xs : Nat → Int32} {hp : MH} {n d : Nat} {Γ : TG} {ss : Nat} {x1 x2 x3 x4 : Int} (hd0 : 3 ≤ d) (hs : TySame Γ cI cJ cZ ss) (ht : Tw Γ hp) (hx1 : 0 ≤ x1 ∧ x1 ≤ 16) (hx2 : 0 ≤ x2 ∧ x2 ≤ 15) (hx3 : 0 ≤ x3 ∧ x3 ≤ 15) (hx4 : 0 ≤ x4 ∧ x4 ≤ 15) : Mt (gG D cI cJ cZ cT lo b L xs) mX6_markPair d 0 0 [.ref ss, .int (iv x1), .int (iv x2), .int (iv x3), .int (iv x4)] hp n (pR Γ n 0 1) := by
  obtain ⟨hs_O, hs_ties, hs_colours, hs_fresh, hs_numbering⟩ := id hs
  refine Mt.of rfl (Nat.le_of_ble_eq_true rfl) ?_
  refine Rn.pick (lv' := [(0, .ref ss), (1, .int (iv x1)), (2, .int (iv x2)), (3, .int (iv x3)), (4, .int (iv x4))]) [0, 1, 2, 3, 4] rfl ?_
  refine r_iload (pc := 0) dX6_markPair_0 rfl ?_
  refine r_bipush (pc := 2) (v := iv 32) dX6_markPair_2 (by decide) ?_
  refine r_imul (pc := 4) (v := iv (x4 * 32)) dX6_markPair_4 (iv_mul _ _) ?_
  refine r_istore (pc := 5) (lv' := [(5, .int (iv (x4 * 32))), (0, .ref ss), (1, .int (iv x1)), (2, .int (iv x2)), (3, .int (iv x3)), (4, .int (iv x4))]) dX6_markPair_5 (by decide) rfl ?_
  refine r_aload_n (pc := 7) dX6_markPair_7 (i := 0) rfl rfl ?_
  refine t_getE (pc := 8) (.ref (ss + 2)) ht hs_O fX6_15 dX6_markPair_8 rfl ?_
  refine r_iload (pc := 11) dX6_markPair_11 rfl ?_
  refine r_aload_n (pc := 13) dX6_markPair_13 (i := 0) rfl rfl ?_
  refine t_getE (pc := 14) (.ref (ss + 2)) ht hs_O fX6_15 dX6_markPair_14 rfl ?_
  refine r_iload (pc := 17) dX6_markPair_17 rfl ?_
  refine r_bipush (pc := 19) (v := iv 32) dX6_markPair_19 (by decide) ?_
  refine r_iadd (pc := 21) (v := iv ((x4 * 32) + 32)) dX6_markPair_21 (iv_add _ _) ?_
  refine r_bipush (pc := 22) (v := iv 32) dX6_markPair_22 (by decide) ?_
  refine t_copyJ (pc := 24) (t0 := 1) ht (rd_of hs_colours) hs_colours aX6_88 dX6_markPair_24 rfl (by omega) (by omega) (Nat.le_of_ble_eq_true rfl) (fun hp1 ht2 => ?_)
  refine r_aload_n (pc := 27) dX6_markPair_27 (i := 0) rfl rfl ?_
  refine t_getE (pc := 28) (.ref (ss + 2)) ht2 hs_O fX6_15 dX6_markPair_28 rfl ?_
  refine r_iload (pc := 31) dX6_markPair_31 rfl ?_
  refine r_iload_n (pc := 33) dX6_markPair_33 (i := 2) rfl rfl ?_
  refine r_iadd (pc := 34) (v := iv ((x4 * 32) + x2)) dX6_markPair_34 (iv_add _ _) ?_
  refine t_lald (pc := 35) (t0 := 1) ht2 (rd_of hs_colours) dX6_markPair_35 rfl (by decide) (by omega) (fun w3 _ => ?_)
  refine r_iload_n (pc := 36) dX6_markPair_36 (i := 2) rfl rfl ?_
  refine r_i2l (pc := 37) (v := (iv x2).toInt64) dX6_markPair_37 rfl ?_
  refine r_ladd (pc := 38) (v := w3 + ((iv x2).toInt64)) dX6_markPair_38 rfl ?_
  refine r_lconst (pc := 39) (v := 1) dX6_markPair_39 (by decide) ?_
  refine r_ladd (pc := 40) (v := (w3 + ((iv x2).toInt64)) + (1 : Int64)) dX6_markPair_40 rfl ?_
  refine t_callSJ (pc := 41) (as := [.long ((w3 + ((iv x2).toInt64)) + (1 : Int64))]) (st := []) kX6_70 dX6_markPair_41 (t_X6_scramble (d := d - 1) (j0 := (w3 + ((iv x2).toInt64)) + (1 : Int64)) (by omega)   ht2  ) rfl (by omega) (Nat.le_of_ble_eq_true rfl) rfl (fun hp4 y6 ht5 _ => ?_)
  refine r_lstore (pc := 44) (lv' := [(6, .long y6), (5, .int (iv (x4 * 32))), (0, .ref ss), (1, .int (iv x1)), (2, .int (iv x2)), (3, .int (iv x3)), (4, .int (iv x4))]) dX6_markPair_44 (by decide) rfl ?_
  refine r_aload_n (pc := 46) dX6_markPair_46 (i := 0) rfl rfl ?_
  refine t_getE (pc := 47) (.ref (ss + 2)) ht5 hs_O fX6_15 dX6_markPair_47 rfl ?_
  refine r_iload (pc := 50) dX6_markPair_50 rfl ?_
  refine r_bipush (pc := 52) (v := iv 32) dX6_markPair_52 (by decide) ?_
  refine r_iadd (pc := 54) (v := iv ((x4 * 32) + 32)) dX6_markPair_54 (iv_add _ _) ?_
  refine r_iload_n (pc := 55) dX6_markPair_55 (i := 2) rfl rfl ?_
  refine r_iadd (pc := 56) (v := iv (((x4 * 32) + 32) + x2)) dX6_markPair_56 (iv_add _ _) ?_
  refine r_lload (pc := 57) dX6_markPair_57 rfl ?_
  refine t_last (pc := 59) (t0 := 1) ht5 hs_colours dX6_markPair_59 rfl (by decide) (by omega) trivial (fun hp7 ht8 => ?_)
  refine r_aload_n (pc := 60) dX6_markPair_60 (i := 0) rfl rfl ?_
  refine t_getE (pc := 61) (.ref (ss + 2)) ht8 hs_O fX6_15 dX6_markPair_61 rfl ?_
  refine r_iload (pc := 64) dX6_markPair_64 rfl ?_
  refine r_bipush (pc := 66) (v := iv 32) dX6_markPair_66 (by decide) ?_
  refine r_iadd (pc := 68) (v := iv ((x4 * 32) + 32)) dX6_markPair_68 (iv_add _ _) ?_
  refine r_bipush (pc := 69) (v := iv 16) dX6_markPair_69 (by decide) ?_
  refine r_iadd (pc := 71) (v := iv (((x4 * 32) + 32) + 16)) dX6_markPair_71 (iv_add _ _) ?_
  refine r_iload_n (pc := 72) dX6_markPair_72 (i := 3) rfl rfl ?_
  refine r_iadd (pc := 73) (v := iv ((((x4 * 32) + 32) + 16) + x3)) dX6_markPair_73 (iv_add _ _) ?_
  refine r_lload (pc := 74) dX6_markPair_74 rfl ?_
  refine t_last (pc := 76) (t0 := 1) ht8 hs_colours dX6_markPair_76 rfl (by decide) (by omega) trivial (fun hp9 ht10 => ?_)
  refine r_aload_n (pc := 77) dX6_markPair_77 (i := 0) rfl rfl ?_
  refine r_iload_n (pc := 78) dX6_markPair_78 (i := 1) rfl rfl ?_
  refine r_iload (pc := 79) dX6_markPair_79 rfl ?_
  refine r_iconst (pc := 81) (v := iv 1) dX6_markPair_81 (by decide) ?_
  refine r_iadd (pc := 82) (v := iv (x4 + 1)) dX6_markPair_82 (iv_add _ _) ?_
  refine t_callVR (pc := 83) (as := [.int (iv x1), .int (iv (x4 + 1))]) (st := []) ht10 hs_O kX6_52 rfl dX6_markPair_83 (t_X6_refine (d := d - 1) (x1 := x1) (x2 := x4 + 1) (by omega) hs  ht10 (by omega) (by omega) ) rfl (by omega) (Nat.le_of_ble_eq_true rfl) rfl (fun hp11 y13 ht12 by13 => ?_)
  exact r_zret (pc := 86) dX6_markPair_86 rfl (iv_nar (by omega)) ⟨rfl, ht12, _, rfl, by omega, by omega⟩
set_option maxHeartbeats 4000000 in
set_option maxRecDepth 100000 in
theorem t_X6_sameArc {D : va_G} {cI cJ cZ cT : ClassId} {lo b L : Nat} {xs : Nat → Int32} {hp : MH} {n d : Nat} {Γ : TG} {ss : Nat} {ga : Nat} {gF : Nat} {gT : Nat} {gW : Nat} {gC : Nat} {gTl : Nat} {gHd : Nat} {gBy : Nat} {gOu : Nat} {gIn : Nat} {gJo : Nat} {gn : Nat} {gm : Nat} {gq : Nat} {gdr : Int} {ka : Nat} {kF : Nat} {kT : Nat} {kW : Nat} {kC : Nat} {kTl : Nat} {kHd : Nat} {kBy : Nat} {kOu : Nat} {kIn : Nat} {kJo : Nat} {kn : Nat} {km : Nat} {kq : Nat} {kdr : Int} {x3 : Int} {j4 : Int64} (hd0 : 0 ≤ d) (hs : TySame Γ cI cJ cZ ss) (hg : TyG Γ cI cJ cZ ga gF gT gW gC gTl gHd gBy gOu gIn gJo gn gm gq gdr) (hk : TyG Γ cI cJ cZ ka kF kT kW kC kTl kHd kBy kOu kIn kJo kn km kq kdr) (ht : Tw Γ hp) (hx3 : 0 ≤ x3 ∧ x3 ≤ 59) (hk1 : x3 < (gm : Int)) : Mt (gG D cI cJ cZ cT lo b L xs) mX6_sameArc d 0 0 [.ref ss, .ref ga, .ref ka, .int (iv x3), .long j4] hp n (pR Γ n (-1) 59) := by
  obtain ⟨hs_O, hs_ties, hs_colours, hs_fresh, hs_numbering⟩ := id hs
  obtain ⟨hg_O, hg_from, hg_to, hg_weight, hg_cost, hg_tail, hg_head, hg_by, hg_out, hg_in, hg_joined, hg_b⟩ := id hg
  obtain ⟨hk_O, hk_from, hk_to, hk_weight, hk_cost, hk_tail, hk_head, hk_by, hk_out, hk_in, hk_joined, hk_b⟩ := id hk
  refine Mt.of rfl (Nat.le_of_ble_eq_true rfl) ?_
  refine Rn.pick (lv' := [(0, .ref ss), (1, .ref ga), (2, .ref ka), (3, .int (iv x3)), (4, .long j4)]) [0, 1, 2, 3, 4] rfl ?_
  refine r_aload_n (pc := 0) dX6_sameArc_0 (i := 0) rfl rfl ?_
  refine t_getE (pc := 1) (.ref (ss + 4)) ht hs_O fX6_21 dX6_sameArc_1 rfl ?_
  refine r_aload_n (pc := 4) dX6_sameArc_4 (i := 1) rfl rfl ?_
  refine t_getE (pc := 5) (.ref gF) ht hg_O fX6_74 dX6_sameArc_5 rfl ?_
  refine r_iload_n (pc := 8) dX6_sameArc_8 (i := 3) rfl rfl ?_
  refine t_ialdR (pc := 9) (t0 := 0) ht hg_from dX6_sameArc_9 rfl (by omega) (by omega) (fun y1 by1 => ?_)
  refine t_ialdR (pc := 10) (t0 := 0) ht (rd_of hs_numbering) dX6_sameArc_10 rfl (by decide) (by omega) (fun y2 by2 => ?_)
  refine r_istore (pc := 11) (lv' := [(6, .int (iv y2)), (0, .ref ss), (1, .ref ga), (2, .ref ka), (3, .int (iv x3)), (4, .long j4)]) dX6_sameArc_11 (by decide) rfl ?_
  refine r_aload_n (pc := 13) dX6_sameArc_13 (i := 0) rfl rfl ?_
  refine t_getE (pc := 14) (.ref (ss + 4)) ht hs_O fX6_21 dX6_sameArc_14 rfl ?_
  refine r_aload_n (pc := 17) dX6_sameArc_17 (i := 1) rfl rfl ?_
  refine t_getE (pc := 18) (.ref gT) ht hg_O fX6_77 dX6_sameArc_18 rfl ?_
  refine r_iload_n (pc := 21) dX6_sameArc_21 (i := 3) rfl rfl ?_
  refine t_ialdR (pc := 22) (t0 := 0) ht hg_to dX6_sameArc_22 rfl (by omega) (by omega) (fun y3 by3 => ?_)
  refine t_ialdR (pc := 23) (t0 := 0) ht (rd_of hs_numbering) dX6_sameArc_23 rfl (by decide) (by omega) (fun y4 by4 => ?_)
  refine r_istore (pc := 24) (lv' := [(7, .int (iv y4)), (6, .int (iv y2)), (0, .ref ss), (1, .ref ga), (2, .ref ka), (3, .int (iv x3)), (4, .long j4)]) dX6_sameArc_24 (by decide) rfl ?_
  refine r_iconst (pc := 26) (v := iv 0) dX6_sameArc_26 (by decide) ?_
  refine r_istore (pc := 27) (lv' := [(8, .int (iv 0)), (7, .int (iv y4)), (6, .int (iv y2)), (0, .ref ss), (1, .ref ga), (2, .ref ka), (3, .int (iv x3)), (4, .long j4)]) dX6_sameArc_27 (by decide) rfl ?_
  have B29 : ∀ k : Nat, ∀ hp29 : MH, Tw Γ hp29 → ∀  (v29_8 : Int), 0 ≤ v29_8 ∧ v29_8 ≤ 60 → 60 - v29_8 ≤ (k : Int) → Rn (gG D cI cJ cZ cT lo b L xs) mX6_sameArc d 29 [(1, .ref ga), (2, .ref ka), (3, .int (iv x3)), (4, .long j4), (6, .int (iv y2)), (7, .int (iv y4)), (8, .int (iv v29_8))] [] hp29 n 0 0 (pR Γ n (-1) 59) := by
    refine lpS _ ?_
    intro k29 ih29 hp29 ht29 v29_8 hf29 hm29
    refine r_iload (pc := 29) dX6_sameArc_29 rfl ?_
    refine r_aload_n (pc := 31) dX6_sameArc_31 (i := 2) rfl rfl ?_
    refine t_getE (pc := 32) (.int (iv (km : Int))) ht29 hk_O fX6_35 dX6_sameArc_32 rfl ?_
    refine t_icmp_ge (pc := 35) (tgt := 182) dX6_sameArc_35 (by decide) (by omega) (by omega) (fun c35 => ?_) (fun c35 => ?_)
    · refine r_iconst (pc := 182) (v := iv (-1)) dX6_sameArc_182 (by decide) ?_
      exact r_iret (pc := 183) dX6_sameArc_183 rfl ⟨rfl, ht29, _, rfl, by omega, by omega⟩
    · refine r_aload_n (pc := 38) dX6_sameArc_38 (i := 2) rfl rfl ?_
      refine t_getE (pc := 39) (.ref kF) ht29 hk_O fX6_74 dX6_sameArc_39 rfl ?_
      refine r_iload (pc := 42) dX6_sameArc_42 rfl ?_
      refine t_ialdR (pc := 44) (t0 := 0) ht29 hk_from dX6_sameArc_44 rfl (by omega) (by omega) (fun y5 by5 => ?_)
      refine r_iload (pc := 45) dX6_sameArc_45 rfl ?_
      have B67 : ∀ hp67 : MH, Tw Γ hp67 → ∀  (u67_0 : Int), 0 ≤ u67_0 ∧ u67_0 ≤ 1 → Rn (gG D cI cJ cZ cT lo b L xs) mX6_sameArc d 67 [(1, .ref ga), (2, .ref ka), (3, .int (iv x3)), (4, .long j4), (6, .int (iv y2)), (7, .int (iv y4)), (8, .int (iv v29_8))] [.int (iv u67_0)] hp67 n 0 0 (pR Γ n (-1) 59) := by
        intro hp67 ht67 u67_0 hf67
        refine r_istore (pc := 67) (lv' := [(9, .int (iv u67_0)), (1, .ref ga), (2, .ref ka), (3, .int (iv x3)), (4, .long j4), (6, .int (iv y2)), (7, .int (iv y4)), (8, .int (iv v29_8))]) dX6_sameArc_67 (by decide) rfl ?_
        refine r_aload_n (pc := 69) dX6_sameArc_69 (i := 2) rfl rfl ?_
        refine t_getE (pc := 70) (.int (iv kdr)) ht67 hk_O fX6_31 dX6_sameArc_70 rfl ?_
        have B105 : ∀ hp105 : MH, Tw Γ hp105 → ∀  (u105_0 : Int), 0 ≤ u105_0 ∧ u105_0 ≤ 1 → Rn (gG D cI cJ cZ cT lo b L xs) mX6_sameArc d 105 [(1, .ref ga), (2, .ref ka), (3, .int (iv x3)), (4, .long j4), (6, .int (iv y2)), (7, .int (iv y4)), (8, .int (iv v29_8)), (9, .int (iv u67_0))] [.int (iv u105_0)] hp105 n 0 0 (pR Γ n (-1) 59) := by
          intro hp105 ht105 u105_0 hf105
          refine r_istore (pc := 105) (lv' := [(10, .int (iv u105_0)), (1, .ref ga), (2, .ref ka), (3, .int (iv x3)), (4, .long j4), (6, .int (iv y2)), (7, .int (iv y4)), (8, .int (iv v29_8)), (9, .int (iv u67_0))]) dX6_sameArc_105 (by decide) rfl ?_
          refine r_aload_n (pc := 107) dX6_sameArc_107 (i := 2) rfl rfl ?_
          refine t_getE (pc := 108) (.ref kW) ht105 hk_O fX6_62 dX6_sameArc_108 rfl ?_
          refine r_iload (pc := 111) dX6_sameArc_111 rfl ?_
          refine t_ialdR (pc := 113) (t0 := 0) ht105 hk_weight dX6_sameArc_113 rfl (by omega) (by omega) (fun y6 by6 => ?_)
          refine r_aload_n (pc := 114) dX6_sameArc_114 (i := 1) rfl rfl ?_
          refine t_getE (pc := 115) (.ref gW) ht105 hg_O fX6_62 dX6_sameArc_115 rfl ?_
          refine r_iload_n (pc := 118) dX6_sameArc_118 (i := 3) rfl rfl ?_
          refine t_ialdR (pc := 119) (t0 := 0) ht105 hg_weight dX6_sameArc_119 rfl (by omega) (by omega) (fun y7 by7 => ?_)
          have B144 : ∀ hp144 : MH, Tw Γ hp144 → ∀  (u144_0 : Int), 0 ≤ u144_0 ∧ u144_0 ≤ 1 → Rn (gG D cI cJ cZ cT lo b L xs) mX6_sameArc d 144 [(1, .ref ga), (2, .ref ka), (3, .int (iv x3)), (4, .long j4), (6, .int (iv y2)), (7, .int (iv y4)), (8, .int (iv v29_8)), (9, .int (iv u67_0)), (10, .int (iv u105_0))] [.int (iv u144_0)] hp144 n 0 0 (pR Γ n (-1) 59) := by
            intro hp144 ht144 u144_0 hf144
            refine r_istore (pc := 144) (lv' := [(11, .int (iv u144_0)), (1, .ref ga), (2, .ref ka), (3, .int (iv x3)), (4, .long j4), (6, .int (iv y2)), (7, .int (iv y4)), (8, .int (iv v29_8)), (9, .int (iv u67_0)), (10, .int (iv u105_0))]) dX6_sameArc_144 (by decide) rfl ?_
            refine r_lload (pc := 146) dX6_sameArc_146 rfl ?_
            refine r_iload (pc := 148) dX6_sameArc_148 rfl ?_
            refine r_lshr (pc := 150) dX6_sameArc_150 ?_
            refine r_lconst (pc := 151) (v := 1) dX6_sameArc_151 (by decide) ?_
            refine r_land (pc := 152) (v := (j4 >>> ((iv v29_8).toInt64 &&& 63)) &&& (1 : Int64)) dX6_sameArc_152 rfl ?_
            refine r_lconst (pc := 153) (v := 0) dX6_sameArc_153 (by decide) ?_
            refine r_lcmp (pc := 154) dX6_sameArc_154 ?_
            have B176 : ∀ hp176 : MH, Tw Γ hp176 → True → Rn (gG D cI cJ cZ cT lo b L xs) mX6_sameArc d 176 [(1, .ref ga), (2, .ref ka), (3, .int (iv x3)), (4, .long j4), (6, .int (iv y2)), (7, .int (iv y4)), (8, .int (iv v29_8))] [] hp176 n 0 0 (pR Γ n (-1) 59) := by
              intro hp176 ht176 hf176
              refine r_iinc (pc := 176) (v := iv (v29_8 + 1)) (lv' := [(8, .int (iv (v29_8 + 1))), (1, .ref ga), (2, .ref ka), (3, .int (iv x3)), (4, .long j4), (6, .int (iv y2)), (7, .int (iv y4))]) dX6_sameArc_176 rfl (iv_add _ _) (by decide) rfl ?_
              refine r_goto (pc := 179) (tgt := 29) dX6_sameArc_179 (by decide) ?_
              refine Rn.pick (lv' := [(1, .ref ga), (2, .ref ka), (3, .int (iv x3)), (4, .long j4), (6, .int (iv y2)), (7, .int (iv y4)), (8, .int (iv (v29_8 + 1)))]) [1, 2, 3, 4, 5, 6, 0] rfl ?_
              exact ih29 (Int.toNat (60 - (v29_8 + 1))) (by omega) _ ht176 (v29_8 + 1) ⟨by omega, by omega⟩ (by omega)
            refine r_if_ne (pc := 155) (tgt := 176) dX6_sameArc_155 (by decide) (fun c155 => ?_) (fun c155 => ?_)
            · refine Rn.pick (lv' := [(1, .ref ga), (2, .ref ka), (3, .int (iv x3)), (4, .long j4), (6, .int (iv y2)), (7, .int (iv y4)), (8, .int (iv v29_8))]) [1, 2, 3, 4, 5, 6, 7] rfl ?_
              exact B176 _ ht144 trivial
            · refine r_iload (pc := 158) dX6_sameArc_158 rfl ?_
              refine t_if_eq (pc := 160) (tgt := 176) dX6_sameArc_160 (by decide) (by omega) (fun c160 => ?_) (fun c160 => ?_)
              · refine Rn.pick (lv' := [(1, .ref ga), (2, .ref ka), (3, .int (iv x3)), (4, .long j4), (6, .int (iv y2)), (7, .int (iv y4)), (8, .int (iv v29_8))]) [1, 2, 3, 4, 5, 6, 7] rfl ?_
                exact B176 _ ht144 trivial
              · refine r_iload (pc := 163) dX6_sameArc_163 rfl ?_
                have B173 : ∀ hp173 : MH, Tw Γ hp173 → True → Rn (gG D cI cJ cZ cT lo b L xs) mX6_sameArc d 173 [(8, .int (iv v29_8))] [] hp173 n 0 0 (pR Γ n (-1) 59) := by
                  intro hp173 ht173 hf173
                  refine r_iload (pc := 173) dX6_sameArc_173 rfl ?_
                  exact r_iret (pc := 175) dX6_sameArc_175 rfl ⟨rfl, ht173, _, rfl, by omega, by omega⟩
                refine t_if_ne (pc := 165) (tgt := 173) dX6_sameArc_165 (by decide) (by omega) (fun c165 => ?_) (fun c165 => ?_)
                · refine Rn.pick (lv' := [(8, .int (iv v29_8))]) [7] rfl ?_
                  exact B173 _ ht144 trivial
                · refine r_iload (pc := 168) dX6_sameArc_168 rfl ?_
                  refine t_if_eq (pc := 170) (tgt := 176) dX6_sameArc_170 (by decide) (by omega) (fun c170 => ?_) (fun c170 => ?_)
                  · refine Rn.pick (lv' := [(1, .ref ga), (2, .ref ka), (3, .int (iv x3)), (4, .long j4), (6, .int (iv y2)), (7, .int (iv y4)), (8, .int (iv v29_8))]) [1, 2, 3, 4, 5, 6, 7] rfl ?_
                    exact B176 _ ht144 trivial
                  · refine Rn.pick (lv' := [(8, .int (iv v29_8))]) [7] rfl ?_
                    exact B173 _ ht144 trivial
          have B143 : ∀ hp143 : MH, Tw Γ hp143 → True → Rn (gG D cI cJ cZ cT lo b L xs) mX6_sameArc d 143 [(1, .ref ga), (2, .ref ka), (3, .int (iv x3)), (4, .long j4), (6, .int (iv y2)), (7, .int (iv y4)), (8, .int (iv v29_8)), (9, .int (iv u67_0)), (10, .int (iv u105_0))] [] hp143 n 0 0 (pR Γ n (-1) 59) := by
            intro hp143 ht143 hf143
            refine r_iconst (pc := 143) (v := iv 0) dX6_sameArc_143 (by decide) ?_
            refine Rn.pick (lv' := [(1, .ref ga), (2, .ref ka), (3, .int (iv x3)), (4, .long j4), (6, .int (iv y2)), (7, .int (iv y4)), (8, .int (iv v29_8)), (9, .int (iv u67_0)), (10, .int (iv u105_0))]) [0, 1, 2, 3, 4, 5, 6, 7, 8] rfl ?_
            exact B144 _ ht143 0 ⟨by omega, by omega⟩
          refine t_icmp_ne (pc := 120) (tgt := 143) dX6_sameArc_120 (by decide) (by omega) (by omega) (fun c120 => ?_) (fun c120 => ?_)
          · refine Rn.pick (lv' := [(1, .ref ga), (2, .ref ka), (3, .int (iv x3)), (4, .long j4), (6, .int (iv y2)), (7, .int (iv y4)), (8, .int (iv v29_8)), (9, .int (iv u67_0)), (10, .int (iv u105_0))]) [1, 2, 3, 4, 5, 6, 7, 8, 0] rfl ?_
            exact B143 _ ht105 trivial
          · refine r_aload_n (pc := 123) dX6_sameArc_123 (i := 2) rfl rfl ?_
            refine t_getE (pc := 124) (.ref kC) ht105 hk_O fX6_67 dX6_sameArc_124 rfl ?_
            refine r_iload (pc := 127) dX6_sameArc_127 rfl ?_
            refine t_ialdR (pc := 129) (t0 := 0) ht105 hk_cost dX6_sameArc_129 rfl (by omega) (by omega) (fun y8 by8 => ?_)
            refine r_aload_n (pc := 130) dX6_sameArc_130 (i := 1) rfl rfl ?_
            refine t_getE (pc := 131) (.ref gC) ht105 hg_O fX6_67 dX6_sameArc_131 rfl ?_
            refine r_iload_n (pc := 134) dX6_sameArc_134 (i := 3) rfl rfl ?_
            refine t_ialdR (pc := 135) (t0 := 0) ht105 hg_cost dX6_sameArc_135 rfl (by omega) (by omega) (fun y9 by9 => ?_)
            refine t_icmp_ne (pc := 136) (tgt := 143) dX6_sameArc_136 (by decide) (by omega) (by omega) (fun c136 => ?_) (fun c136 => ?_)
            · refine Rn.pick (lv' := [(1, .ref ga), (2, .ref ka), (3, .int (iv x3)), (4, .long j4), (6, .int (iv y2)), (7, .int (iv y4)), (8, .int (iv v29_8)), (9, .int (iv u67_0)), (10, .int (iv u105_0))]) [1, 2, 3, 4, 5, 6, 7, 8, 0] rfl ?_
              exact B143 _ ht105 trivial
            · refine r_iconst (pc := 139) (v := iv 1) dX6_sameArc_139 (by decide) ?_
              refine r_goto (pc := 140) (tgt := 144) dX6_sameArc_140 (by decide) ?_
              refine Rn.pick (lv' := [(1, .ref ga), (2, .ref ka), (3, .int (iv x3)), (4, .long j4), (6, .int (iv y2)), (7, .int (iv y4)), (8, .int (iv v29_8)), (9, .int (iv u67_0)), (10, .int (iv u105_0))]) [1, 2, 3, 4, 5, 6, 7, 8, 0] rfl ?_
              exact B144 _ ht105 1 ⟨by omega, by omega⟩
        have B104 : ∀ hp104 : MH, Tw Γ hp104 → True → Rn (gG D cI cJ cZ cT lo b L xs) mX6_sameArc d 104 [(1, .ref ga), (2, .ref ka), (3, .int (iv x3)), (4, .long j4), (6, .int (iv y2)), (7, .int (iv y4)), (8, .int (iv v29_8)), (9, .int (iv u67_0))] [] hp104 n 0 0 (pR Γ n (-1) 59) := by
          intro hp104 ht104 hf104
          refine r_iconst (pc := 104) (v := iv 0) dX6_sameArc_104 (by decide) ?_
          refine Rn.pick (lv' := [(1, .ref ga), (2, .ref ka), (3, .int (iv x3)), (4, .long j4), (6, .int (iv y2)), (7, .int (iv y4)), (8, .int (iv v29_8)), (9, .int (iv u67_0))]) [0, 1, 2, 3, 4, 5, 6, 7] rfl ?_
          exact B105 _ ht104 0 ⟨by omega, by omega⟩
        refine t_if_ne (pc := 73) (tgt := 104) dX6_sameArc_73 (by decide) (by omega) (fun c73 => ?_) (fun c73 => ?_)
        · refine Rn.pick (lv' := [(1, .ref ga), (2, .ref ka), (3, .int (iv x3)), (4, .long j4), (6, .int (iv y2)), (7, .int (iv y4)), (8, .int (iv v29_8)), (9, .int (iv u67_0))]) [1, 2, 3, 4, 5, 6, 7, 0] rfl ?_
          exact B104 _ ht67 trivial
        · refine r_aload_n (pc := 76) dX6_sameArc_76 (i := 2) rfl rfl ?_
          refine t_getE (pc := 77) (.ref kF) ht67 hk_O fX6_74 dX6_sameArc_77 rfl ?_
          refine r_iload (pc := 80) dX6_sameArc_80 rfl ?_
          refine t_ialdR (pc := 82) (t0 := 0) ht67 hk_from dX6_sameArc_82 rfl (by omega) (by omega) (fun y10 by10 => ?_)
          refine r_iload (pc := 83) dX6_sameArc_83 rfl ?_
          refine t_icmp_ne (pc := 85) (tgt := 104) dX6_sameArc_85 (by decide) (by omega) (by omega) (fun c85 => ?_) (fun c85 => ?_)
          · refine Rn.pick (lv' := [(1, .ref ga), (2, .ref ka), (3, .int (iv x3)), (4, .long j4), (6, .int (iv y2)), (7, .int (iv y4)), (8, .int (iv v29_8)), (9, .int (iv u67_0))]) [1, 2, 3, 4, 5, 6, 7, 0] rfl ?_
            exact B104 _ ht67 trivial
          · refine r_aload_n (pc := 88) dX6_sameArc_88 (i := 2) rfl rfl ?_
            refine t_getE (pc := 89) (.ref kT) ht67 hk_O fX6_77 dX6_sameArc_89 rfl ?_
            refine r_iload (pc := 92) dX6_sameArc_92 rfl ?_
            refine t_ialdR (pc := 94) (t0 := 0) ht67 hk_to dX6_sameArc_94 rfl (by omega) (by omega) (fun y11 by11 => ?_)
            refine r_iload (pc := 95) dX6_sameArc_95 rfl ?_
            refine t_icmp_ne (pc := 97) (tgt := 104) dX6_sameArc_97 (by decide) (by omega) (by omega) (fun c97 => ?_) (fun c97 => ?_)
            · refine Rn.pick (lv' := [(1, .ref ga), (2, .ref ka), (3, .int (iv x3)), (4, .long j4), (6, .int (iv y2)), (7, .int (iv y4)), (8, .int (iv v29_8)), (9, .int (iv u67_0))]) [1, 2, 3, 4, 5, 6, 7, 0] rfl ?_
              exact B104 _ ht67 trivial
            · refine r_iconst (pc := 100) (v := iv 1) dX6_sameArc_100 (by decide) ?_
              refine r_goto (pc := 101) (tgt := 105) dX6_sameArc_101 (by decide) ?_
              refine Rn.pick (lv' := [(1, .ref ga), (2, .ref ka), (3, .int (iv x3)), (4, .long j4), (6, .int (iv y2)), (7, .int (iv y4)), (8, .int (iv v29_8)), (9, .int (iv u67_0))]) [1, 2, 3, 4, 5, 6, 7, 0] rfl ?_
              exact B105 _ ht67 1 ⟨by omega, by omega⟩
      have B66 : ∀ hp66 : MH, Tw Γ hp66 → True → Rn (gG D cI cJ cZ cT lo b L xs) mX6_sameArc d 66 [(1, .ref ga), (2, .ref ka), (3, .int (iv x3)), (4, .long j4), (6, .int (iv y2)), (7, .int (iv y4)), (8, .int (iv v29_8))] [] hp66 n 0 0 (pR Γ n (-1) 59) := by
        intro hp66 ht66 hf66
        refine r_iconst (pc := 66) (v := iv 0) dX6_sameArc_66 (by decide) ?_
        refine Rn.pick (lv' := [(1, .ref ga), (2, .ref ka), (3, .int (iv x3)), (4, .long j4), (6, .int (iv y2)), (7, .int (iv y4)), (8, .int (iv v29_8))]) [0, 1, 2, 3, 4, 5, 6] rfl ?_
        exact B67 _ ht66 0 ⟨by omega, by omega⟩
      refine t_icmp_ne (pc := 47) (tgt := 66) dX6_sameArc_47 (by decide) (by omega) (by omega) (fun c47 => ?_) (fun c47 => ?_)
      · refine Rn.pick (lv' := [(1, .ref ga), (2, .ref ka), (3, .int (iv x3)), (4, .long j4), (6, .int (iv y2)), (7, .int (iv y4)), (8, .int (iv v29_8))]) [0, 1, 2, 3, 4, 5, 6] rfl ?_
        exact B66 _ ht29 trivial
      · refine r_aload_n (pc := 50) dX6_sameArc_50 (i := 2) rfl rfl ?_
        refine t_getE (pc := 51) (.ref kT) ht29 hk_O fX6_77 dX6_sameArc_51 rfl ?_
        refine r_iload (pc := 54) dX6_sameArc_54 rfl ?_
        refine t_ialdR (pc := 56) (t0 := 0) ht29 hk_to dX6_sameArc_56 rfl (by omega) (by omega) (fun y12 by12 => ?_)
        refine r_iload (pc := 57) dX6_sameArc_57 rfl ?_
        refine t_icmp_ne (pc := 59) (tgt := 66) dX6_sameArc_59 (by decide) (by omega) (by omega) (fun c59 => ?_) (fun c59 => ?_)
        · refine Rn.pick (lv' := [(1, .ref ga), (2, .ref ka), (3, .int (iv x3)), (4, .long j4), (6, .int (iv y2)), (7, .int (iv y4)), (8, .int (iv v29_8))]) [0, 1, 2, 3, 4, 5, 6] rfl ?_
          exact B66 _ ht29 trivial
        · refine r_iconst (pc := 62) (v := iv 1) dX6_sameArc_62 (by decide) ?_
          refine r_goto (pc := 63) (tgt := 67) dX6_sameArc_63 (by decide) ?_
          refine Rn.pick (lv' := [(1, .ref ga), (2, .ref ka), (3, .int (iv x3)), (4, .long j4), (6, .int (iv y2)), (7, .int (iv y4)), (8, .int (iv v29_8))]) [0, 1, 2, 3, 4, 5, 6] rfl ?_
          exact B67 _ ht29 1 ⟨by omega, by omega⟩
  refine Rn.pick (lv' := [(1, .ref ga), (2, .ref ka), (3, .int (iv x3)), (4, .long j4), (6, .int (iv y2)), (7, .int (iv y4)), (8, .int (iv 0))]) [4, 5, 6, 7, 2, 1, 0] rfl ?_
  exact B29 (Int.toNat (60 - 0)) _ ht 0 ⟨by omega, by omega⟩ (by omega)
set_option maxHeartbeats 4000000 in
set_option maxRecDepth 100000 in
theorem t_X6_haveSameArcs {D : va_G} {cI cJ cZ cT : ClassId} {lo b L : Nat} {xs : Nat → Int32} {hp : MH} {n d : Nat} {Γ : TG} {ss : Nat} {ga : Nat} {gF : Nat} {gT : Nat} {gW : Nat} {gC : Nat} {gTl : Nat} {gHd : Nat} {gBy : Nat} {gOu : Nat} {gIn : Nat} {gJo : Nat} {gn : Nat} {gm : Nat} {gq : Nat} {gdr : Int} {ka : Nat} {kF : Nat} {kT : Nat} {kW : Nat} {kC : Nat} {kTl : Nat} {kHd : Nat} {kBy : Nat} {kOu : Nat} {kIn : Nat} {kJo : Nat} {kn : Nat} {km : Nat} {kq : Nat} {kdr : Int} (hd0 : 1 ≤ d) (hs : TySame Γ cI cJ cZ ss) (hg : TyG Γ cI cJ cZ ga gF gT gW gC gTl gHd gBy gOu gIn gJo gn gm gq gdr) (hk : TyG Γ cI cJ cZ ka kF kT kW kC kTl kHd kBy kOu kIn kJo kn km kq kdr) (ht : Tw Γ hp)  : Mt (gG D cI cJ cZ cT lo b L xs) mX6_haveSameArcs d 0 0 [.ref ss, .ref ga, .ref ka] hp n (pR Γ n 0 1) := by
  obtain ⟨hs_O, hs_ties, hs_colours, hs_fresh, hs_numbering⟩ := id hs
  obtain ⟨hg_O, hg_from, hg_to, hg_weight, hg_cost, hg_tail, hg_head, hg_by, hg_out, hg_in, hg_joined, hg_b⟩ := id hg
  obtain ⟨hk_O, hk_from, hk_to, hk_weight, hk_cost, hk_tail, hk_head, hk_by, hk_out, hk_in, hk_joined, hk_b⟩ := id hk
  refine Mt.of rfl (Nat.le_of_ble_eq_true rfl) ?_
  refine Rn.pick (lv' := [(0, .ref ss), (1, .ref ga), (2, .ref ka)]) [0, 1, 2] rfl ?_
  refine r_iconst (pc := 0) (v := iv 0) dX6_haveSameArcs_0 (by decide) ?_
  refine r_istore_n (pc := 1) (lv' := [(3, .int (iv 0)), (0, .ref ss), (1, .ref ga), (2, .ref ka)]) dX6_haveSameArcs_1 (i := 3) rfl (by decide) rfl ?_
  refine r_iconst (pc := 2) (v := iv 0) dX6_haveSameArcs_2 (by decide) ?_
  refine r_istore (pc := 3) (lv' := [(4, .int (iv 0)), (3, .int (iv 0)), (0, .ref ss), (1, .ref ga), (2, .ref ka)]) dX6_haveSameArcs_3 (by decide) rfl ?_
  have B5 : ∀ k : Nat, ∀ hp5 : MH, Tw Γ hp5 → ∀  (v5_3 : Int) (v5_4 : Int), 0 ≤ v5_3 ∧ v5_3 ≤ 65535 ∧ 0 ≤ v5_4 ∧ v5_4 ≤ 16 → 16 - v5_4 ≤ (k : Int) → Rn (gG D cI cJ cZ cT lo b L xs) mX6_haveSameArcs d 5 [(0, .ref ss), (1, .ref ga), (2, .ref ka), (3, .int (iv v5_3)), (4, .int (iv v5_4))] [] hp5 n 0 0 (pR Γ n 0 1) := by
    refine lpS _ ?_
    intro k5 ih5 hp5 ht5 v5_3 v5_4 hf5 hm5
    refine r_iload (pc := 5) dX6_haveSameArcs_5 rfl ?_
    refine r_aload_n (pc := 7) dX6_haveSameArcs_7 (i := 1) rfl rfl ?_
    refine t_getE (pc := 8) (.int (iv (gn : Int))) ht5 hg_O fX6_25 dX6_haveSameArcs_8 rfl ?_
    refine t_icmp_ge (pc := 11) (tgt := 32) dX6_haveSameArcs_11 (by decide) (by omega) (by omega) (fun c11 => ?_) (fun c11 => ?_)
    · refine r_iload_n (pc := 32) dX6_haveSameArcs_32 (i := 3) rfl rfl ?_
      refine r_aload_n (pc := 33) dX6_haveSameArcs_33 (i := 1) rfl rfl ?_
      refine t_callVR (pc := 34) (as := []) (st := [.int (iv v5_3)]) ht5 hg_O kX6_111 rfl dX6_haveSameArcs_34 (t_X3_allNodes (d := d - 1)  (by omega) hg  ht5  ) rfl (by omega) (Nat.le_of_ble_eq_true rfl) rfl (fun hp1 y3 ht2 by3 => ?_)
      refine t_icmp_eq (pc := 37) (tgt := 42) dX6_haveSameArcs_37 (by decide) (by omega) (by omega) (fun c37 => ?_) (fun c37 => ?_)
      · refine r_lconst (pc := 42) (v := 0) dX6_haveSameArcs_42 (by decide) ?_
        refine r_lstore (pc := 43) (lv' := [(4, .long (0 : Int64)), (0, .ref ss), (1, .ref ga), (2, .ref ka), (3, .int (iv v5_3))]) dX6_haveSameArcs_43 (by decide) rfl ?_
        refine r_iconst (pc := 45) (v := iv 0) dX6_haveSameArcs_45 (by decide) ?_
        refine r_istore (pc := 46) (lv' := [(6, .int (iv 0)), (4, .long (0 : Int64)), (0, .ref ss), (1, .ref ga), (2, .ref ka), (3, .int (iv v5_3))]) dX6_haveSameArcs_46 (by decide) rfl ?_
        have B48 : ∀ k : Nat, ∀ hp48 : MH, Tw Γ hp48 → ∀  (v48_6 : Int) (w48_4 : Int64), 0 ≤ v48_6 ∧ v48_6 ≤ 60 → 60 - v48_6 ≤ (k : Int) → Rn (gG D cI cJ cZ cT lo b L xs) mX6_haveSameArcs d 48 [(0, .ref ss), (1, .ref ga), (2, .ref ka), (4, .long w48_4), (6, .int (iv v48_6))] [] hp48 n 0 0 (pR Γ n 0 1) := by
          refine lpS _ ?_
          intro k48 ih48 hp48 ht48 v48_6 w48_4 hf48 hm48
          refine r_iload (pc := 48) dX6_haveSameArcs_48 rfl ?_
          refine r_aload_n (pc := 50) dX6_haveSameArcs_50 (i := 1) rfl rfl ?_
          refine t_getE (pc := 51) (.int (iv (gm : Int))) ht48 hg_O fX6_35 dX6_haveSameArcs_51 rfl ?_
          refine t_icmp_ge (pc := 54) (tgt := 91) dX6_haveSameArcs_54 (by decide) (by omega) (by omega) (fun c54 => ?_) (fun c54 => ?_)
          · refine r_iconst (pc := 91) (v := iv 1) dX6_haveSameArcs_91 (by decide) ?_
            exact r_zret (pc := 92) dX6_haveSameArcs_92 rfl (iv_nar (by omega)) ⟨rfl, ht48, _, rfl, by omega, by omega⟩
          · refine r_aload_n (pc := 57) dX6_haveSameArcs_57 (i := 0) rfl rfl ?_
            refine r_aload_n (pc := 58) dX6_haveSameArcs_58 (i := 1) rfl rfl ?_
            refine r_aload_n (pc := 59) dX6_haveSameArcs_59 (i := 2) rfl rfl ?_
            refine r_iload (pc := 60) dX6_haveSameArcs_60 rfl ?_
            refine r_lload (pc := 62) dX6_haveSameArcs_62 rfl ?_
            refine t_callVR (pc := 64) (as := [.ref ga, .ref ka, .int (iv v48_6), .long w48_4]) (st := []) ht48 hs_O kX6_115 rfl dX6_haveSameArcs_64 (t_X6_sameArc (d := d - 1) (x3 := v48_6) (j4 := w48_4) (by omega) hs hg hk  ht48 (by omega) (by omega)) rfl (by omega) (Nat.le_of_ble_eq_true rfl) rfl (fun hp4 y6 ht5 by6 => ?_)
            refine r_istore (pc := 67) (lv' := [(7, .int (iv y6)), (0, .ref ss), (1, .ref ga), (2, .ref ka), (4, .long w48_4), (6, .int (iv v48_6))]) dX6_haveSameArcs_67 (by decide) rfl ?_
            refine r_iload (pc := 69) dX6_haveSameArcs_69 rfl ?_
            refine t_if_ge (pc := 71) (tgt := 76) dX6_haveSameArcs_71 (by decide) (by omega) (fun c71 => ?_) (fun c71 => ?_)
            · refine r_lload (pc := 76) dX6_haveSameArcs_76 rfl ?_
              refine r_lconst (pc := 78) (v := 1) dX6_haveSameArcs_78 (by decide) ?_
              refine r_iload (pc := 79) dX6_haveSameArcs_79 rfl ?_
              refine r_lshl (pc := 81) dX6_haveSameArcs_81 ?_
              refine r_lor (pc := 82) (v := w48_4 ||| ((1 : Int64) <<< ((iv y6).toInt64 &&& 63))) dX6_haveSameArcs_82 rfl ?_
              refine r_lstore (pc := 83) (lv' := [(4, .long (w48_4 ||| ((1 : Int64) <<< ((iv y6).toInt64 &&& 63)))), (7, .int (iv y6)), (0, .ref ss), (1, .ref ga), (2, .ref ka), (6, .int (iv v48_6))]) dX6_haveSameArcs_83 (by decide) rfl ?_
              refine r_iinc (pc := 85) (v := iv (v48_6 + 1)) (lv' := [(6, .int (iv (v48_6 + 1))), (4, .long (w48_4 ||| ((1 : Int64) <<< ((iv y6).toInt64 &&& 63)))), (7, .int (iv y6)), (0, .ref ss), (1, .ref ga), (2, .ref ka)]) dX6_haveSameArcs_85 rfl (iv_add _ _) (by decide) rfl ?_
              refine r_goto (pc := 88) (tgt := 48) dX6_haveSameArcs_88 (by decide) ?_
              refine Rn.pick (lv' := [(0, .ref ss), (1, .ref ga), (2, .ref ka), (4, .long (w48_4 ||| ((1 : Int64) <<< ((iv y6).toInt64 &&& 63)))), (6, .int (iv (v48_6 + 1)))]) [3, 4, 5, 1, 0] rfl ?_
              exact ih48 (Int.toNat (60 - (v48_6 + 1))) (by omega) _ ht5 (v48_6 + 1) (w48_4 ||| ((1 : Int64) <<< ((iv y6).toInt64 &&& 63))) ⟨by omega, by omega⟩ (by omega)
            · refine r_iconst (pc := 74) (v := iv 0) dX6_haveSameArcs_74 (by decide) ?_
              exact r_zret (pc := 75) dX6_haveSameArcs_75 rfl (iv_nar (by omega)) ⟨rfl, ht5, _, rfl, by omega, by omega⟩
        refine Rn.pick (lv' := [(0, .ref ss), (1, .ref ga), (2, .ref ka), (4, .long (0 : Int64)), (6, .int (iv 0))]) [2, 3, 4, 1, 0] rfl ?_
        exact B48 (Int.toNat (60 - 0)) _ ht2 0 (0 : Int64) ⟨by omega, by omega⟩ (by omega)
      · refine r_iconst (pc := 40) (v := iv 0) dX6_haveSameArcs_40 (by decide) ?_
        exact r_zret (pc := 41) dX6_haveSameArcs_41 rfl (iv_nar (by omega)) ⟨rfl, ht2, _, rfl, by omega, by omega⟩
    · refine r_iload_n (pc := 14) dX6_haveSameArcs_14 (i := 3) rfl rfl ?_
      refine r_iconst (pc := 15) (v := iv 1) dX6_haveSameArcs_15 (by decide) ?_
      refine r_aload_n (pc := 16) dX6_haveSameArcs_16 (i := 0) rfl rfl ?_
      refine t_getE (pc := 17) (.ref (ss + 4)) ht5 hs_O fX6_21 dX6_haveSameArcs_17 rfl ?_
      refine r_iload (pc := 20) dX6_haveSameArcs_20 rfl ?_
      refine t_ialdR (pc := 22) (t0 := 0) ht5 (rd_of hs_numbering) dX6_haveSameArcs_22 rfl (by decide) (by omega) (fun y7 by7 => ?_)
      obtain ⟨z8, hz8, bz8⟩ := shl_1 0 15 y7 (by omega) (by omega) (by decide)
      refine r_ishl (pc := 23) (v := iv z8) dX6_haveSameArcs_23 hz8 ?_
      obtain ⟨z9, hz9, bz9⟩ := or_2 16 v5_3 z8 (by omega) (by omega) (by decide)
      refine r_ior (pc := 24) (v := iv z9) dX6_haveSameArcs_24 hz9 ?_
      refine r_istore_n (pc := 25) (lv' := [(3, .int (iv z9)), (0, .ref ss), (1, .ref ga), (2, .ref ka), (4, .int (iv v5_4))]) dX6_haveSameArcs_25 (i := 3) rfl (by decide) rfl ?_
      refine r_iinc (pc := 26) (v := iv (v5_4 + 1)) (lv' := [(4, .int (iv (v5_4 + 1))), (3, .int (iv z9)), (0, .ref ss), (1, .ref ga), (2, .ref ka)]) dX6_haveSameArcs_26 rfl (iv_add _ _) (by decide) rfl ?_
      refine r_goto (pc := 29) (tgt := 5) dX6_haveSameArcs_29 (by decide) ?_
      refine Rn.pick (lv' := [(0, .ref ss), (1, .ref ga), (2, .ref ka), (3, .int (iv z9)), (4, .int (iv (v5_4 + 1)))]) [2, 3, 4, 1, 0] rfl ?_
      exact ih5 (Int.toNat (16 - (v5_4 + 1))) (by omega) _ ht5 z9 (v5_4 + 1) ⟨by omega, by omega, by omega, by omega⟩ (by omega)
  refine Rn.pick (lv' := [(0, .ref ss), (1, .ref ga), (2, .ref ka), (3, .int (iv 0)), (4, .int (iv 0))]) [2, 3, 4, 1, 0] rfl ?_
  exact B5 (Int.toNat (16 - 0)) _ ht 0 0 ⟨by omega, by omega, by omega, by omega⟩ (by omega)
set_option maxHeartbeats 4000000 in
set_option maxRecDepth 100000 in
theorem t_X6_canNumber {D : va_G} {cI cJ cZ cT : ClassId} {lo b L : Nat} {xs : Nat → Int32} (k : Nat) : ∀ (hp : MH) (n d : Nat) (Γ : TG) (ss : Nat) (ga : Nat) (gF : Nat) (gT : Nat) (gW : Nat) (gC : Nat) (gTl : Nat) (gHd : Nat) (gBy : Nat) (gOu : Nat) (gIn : Nat) (gJo : Nat) (gn : Nat) (gm : Nat) (gq : Nat) (gdr : Int) (ka : Nat) (kF : Nat) (kT : Nat) (kW : Nat) (kC : Nat) (kTl : Nat) (kHd : Nat) (kBy : Nat) (kOu : Nat) (kIn : Nat) (kJo : Nat) (kn : Nat) (km : Nat) (kq : Nat) (kdr : Int) (x3 x4 : Int) (hd0 : k + 4 ≤ d) (hs : TySame Γ cI cJ cZ ss) (hg : TyG Γ cI cJ cZ ga gF gT gW gC gTl gHd gBy gOu gIn gJo gn gm gq gdr) (hk : TyG Γ cI cJ cZ ka kF kT kW kC kTl kHd kBy kOu kIn kJo kn km kq kdr) (ht : Tw Γ hp) (hx3 : 0 ≤ x3 ∧ x3 ≤ 16) (hx4 : 0 ≤ x4 ∧ x4 ≤ 16) (hk9 : 16 - x3 ≤ (k : Int)), Mt (gG D cI cJ cZ cT lo b L xs) mX6_canNumber d 0 0 [.ref ss, .ref ga, .ref ka, .int (iv x3), .int (iv x4)] hp n (pR Γ n 0 1) := by
  revert k
  refine lpS _ ?_
  intro k ih hp n d Γ ss ga gF gT gW gC gTl gHd gBy gOu gIn gJo gn gm gq gdr ka kF kT kW kC kTl kHd kBy kOu kIn kJo kn km kq kdr x3 x4 hd0 hs hg hk ht hx3 hx4 hk9
  obtain ⟨hs_O, hs_ties, hs_colours, hs_fresh, hs_numbering⟩ := id hs
  obtain ⟨hg_O, hg_from, hg_to, hg_weight, hg_cost, hg_tail, hg_head, hg_by, hg_out, hg_in, hg_joined, hg_b⟩ := id hg
  obtain ⟨hk_O, hk_from, hk_to, hk_weight, hk_cost, hk_tail, hk_head, hk_by, hk_out, hk_in, hk_joined, hk_b⟩ := id hk
  refine Mt.of rfl (Nat.le_of_ble_eq_true rfl) ?_
  refine Rn.pick (lv' := [(0, .ref ss), (1, .ref ga), (2, .ref ka), (3, .int (iv x3)), (4, .int (iv x4))]) [0, 1, 2, 3, 4] rfl ?_
  refine r_aload_n (pc := 0) dX6_canNumber_0 (i := 1) rfl rfl ?_
  refine t_getE (pc := 1) (.int (iv (gn : Int))) ht hg_O fX6_25 dX6_canNumber_1 rfl ?_
  refine r_istore (pc := 4) (lv' := [(5, .int (iv (gn : Int))), (0, .ref ss), (1, .ref ga), (2, .ref ka), (3, .int (iv x3)), (4, .int (iv x4))]) dX6_canNumber_4 (by decide) rfl ?_
  refine r_iload_n (pc := 6) dX6_canNumber_6 (i := 3) rfl rfl ?_
  refine r_iload (pc := 7) dX6_canNumber_7 rfl ?_
  refine t_icmp_lt (pc := 9) (tgt := 19) dX6_canNumber_9 (by decide) (by omega) (by omega) (fun c9 => ?_) (fun c9 => ?_)
  · refine r_iload (pc := 19) dX6_canNumber_19 rfl ?_
    refine r_bipush (pc := 21) (v := iv 32) dX6_canNumber_21 (by decide) ?_
    refine r_imul (pc := 23) (v := iv (x4 * 32)) dX6_canNumber_23 (iv_mul _ _) ?_
    refine r_istore (pc := 24) (lv' := [(6, .int (iv (x4 * 32))), (5, .int (iv (gn : Int))), (0, .ref ss), (1, .ref ga), (2, .ref ka), (3, .int (iv x3)), (4, .int (iv x4))]) dX6_canNumber_24 (by decide) rfl ?_
    refine r_aload_n (pc := 26) dX6_canNumber_26 (i := 0) rfl rfl ?_
    refine t_getE (pc := 27) (.ref (ss + 2)) ht hs_O fX6_15 dX6_canNumber_27 rfl ?_
    refine r_iload (pc := 30) dX6_canNumber_30 rfl ?_
    refine r_iload_n (pc := 32) dX6_canNumber_32 (i := 3) rfl rfl ?_
    refine r_iadd (pc := 33) (v := iv ((x4 * 32) + x3)) dX6_canNumber_33 (iv_add _ _) ?_
    refine t_lald (pc := 34) (t0 := 1) ht (rd_of hs_colours) dX6_canNumber_34 rfl (by decide) (by omega) (fun w1 _ => ?_)
    refine r_lstore (pc := 35) (lv' := [(7, .long w1), (6, .int (iv (x4 * 32))), (5, .int (iv (gn : Int))), (0, .ref ss), (1, .ref ga), (2, .ref ka), (3, .int (iv x3)), (4, .int (iv x4))]) dX6_canNumber_35 (by decide) rfl ?_
    refine r_iconst (pc := 37) (v := iv 0) dX6_canNumber_37 (by decide) ?_
    refine r_istore (pc := 38) (lv' := [(9, .int (iv 0)), (7, .long w1), (6, .int (iv (x4 * 32))), (5, .int (iv (gn : Int))), (0, .ref ss), (1, .ref ga), (2, .ref ka), (3, .int (iv x3)), (4, .int (iv x4))]) dX6_canNumber_38 (by decide) rfl ?_
    refine r_iconst (pc := 40) (v := iv 0) dX6_canNumber_40 (by decide) ?_
    refine r_istore (pc := 41) (lv' := [(10, .int (iv 0)), (9, .int (iv 0)), (7, .long w1), (6, .int (iv (x4 * 32))), (5, .int (iv (gn : Int))), (0, .ref ss), (1, .ref ga), (2, .ref ka), (3, .int (iv x3)), (4, .int (iv x4))]) dX6_canNumber_41 (by decide) rfl ?_
    have B43 : ∀ k : Nat, ∀ hp43 : MH, Tw Γ hp43 → ∀  (v43_9 : Int) (v43_10 : Int), 0 ≤ v43_9 ∧ v43_9 ≤ 65535 ∧ 0 ≤ v43_10 ∧ v43_10 ≤ 16 → 16 - v43_10 ≤ (k : Int) → Rn (gG D cI cJ cZ cT lo b L xs) mX6_canNumber d 43 [(0, .ref ss), (1, .ref ga), (2, .ref ka), (3, .int (iv x3)), (4, .int (iv x4)), (5, .int (iv (gn : Int))), (6, .int (iv (x4 * 32))), (7, .long w1), (9, .int (iv v43_9)), (10, .int (iv v43_10))] [] hp43 n 0 0 (pR Γ n 0 1) := by
      refine lpS _ ?_
      intro k43 ih43 hp43 ht43 v43_9 v43_10 hf43 hm43
      refine r_iload (pc := 43) dX6_canNumber_43 rfl ?_
      refine r_iload (pc := 45) dX6_canNumber_45 rfl ?_
      refine t_icmp_ge (pc := 47) (tgt := 179) dX6_canNumber_47 (by decide) (by omega) (by omega) (fun c47 => ?_) (fun c47 => ?_)
      · refine r_iconst (pc := 179) (v := iv 0) dX6_canNumber_179 (by decide) ?_
        exact r_zret (pc := 180) dX6_canNumber_180 rfl (iv_nar (by omega)) ⟨rfl, ht43, _, rfl, by omega, by omega⟩
      · refine r_aload_n (pc := 50) dX6_canNumber_50 (i := 0) rfl rfl ?_
        refine r_iload (pc := 51) dX6_canNumber_51 rfl ?_
        refine r_lload (pc := 53) dX6_canNumber_53 rfl ?_
        refine r_iload (pc := 55) dX6_canNumber_55 rfl ?_
        refine r_iload (pc := 57) dX6_canNumber_57 rfl ?_
        refine t_callVR (pc := 59) (as := [.int (iv (x4 * 32)), .long w1, .int (iv v43_9), .int (iv (gn : Int))]) (st := []) ht43 hs_O kX6_99 rfl dX6_canNumber_59 (t_X6_firstLike (d := d - 1) (x1 := x4 * 32) (j2 := w1) (x3 := v43_9) (x4 := (gn : Int)) (by omega) hs  ht43 (by omega) (by omega) (by omega) ) rfl (by omega) (Nat.le_of_ble_eq_true rfl) rfl (fun hp2 y4 ht3 by4 => ?_)
        refine r_istore (pc := 62) (lv' := [(11, .int (iv y4)), (0, .ref ss), (1, .ref ga), (2, .ref ka), (3, .int (iv x3)), (4, .int (iv x4)), (5, .int (iv (gn : Int))), (6, .int (iv (x4 * 32))), (7, .long w1), (9, .int (iv v43_9)), (10, .int (iv v43_10))]) dX6_canNumber_62 (by decide) rfl ?_
        refine r_iload (pc := 64) dX6_canNumber_64 rfl ?_
        refine t_if_ge (pc := 66) (tgt := 71) dX6_canNumber_66 (by decide) (by omega) (fun c66 => ?_) (fun c66 => ?_)
        · refine r_iload (pc := 71) dX6_canNumber_71 rfl ?_
          have B98 : ∀ hp98 : MH, Tw Γ hp98 → ∀  (u98_0 : Int), 0 ≤ u98_0 ∧ u98_0 ≤ 1 → Rn (gG D cI cJ cZ cT lo b L xs) mX6_canNumber d 98 [(0, .ref ss), (1, .ref ga), (2, .ref ka), (3, .int (iv x3)), (4, .int (iv x4)), (5, .int (iv (gn : Int))), (6, .int (iv (x4 * 32))), (7, .long w1), (9, .int (iv v43_9)), (10, .int (iv v43_10)), (11, .int (iv y4))] [.int (iv u98_0)] hp98 n 0 0 (pR Γ n 0 1) := by
            intro hp98 ht98 u98_0 hf98
            refine r_istore (pc := 98) (lv' := [(12, .int (iv u98_0)), (0, .ref ss), (1, .ref ga), (2, .ref ka), (3, .int (iv x3)), (4, .int (iv x4)), (5, .int (iv (gn : Int))), (6, .int (iv (x4 * 32))), (7, .long w1), (9, .int (iv v43_9)), (10, .int (iv v43_10)), (11, .int (iv y4))]) dX6_canNumber_98 (by decide) rfl ?_
            refine r_iload (pc := 100) dX6_canNumber_100 rfl ?_
            refine r_iconst (pc := 102) (v := iv 1) dX6_canNumber_102 (by decide) ?_
            refine r_iload (pc := 103) dX6_canNumber_103 rfl ?_
            obtain ⟨z5, hz5, bz5⟩ := shl_1 0 15 y4 (by omega) (by omega) (by decide)
            refine r_ishl (pc := 105) (v := iv z5) dX6_canNumber_105 hz5 ?_
            obtain ⟨z6, hz6, bz6⟩ := or_2 16 v43_9 z5 (by omega) (by omega) (by decide)
            refine r_ior (pc := 106) (v := iv z6) dX6_canNumber_106 hz6 ?_
            refine r_istore (pc := 107) (lv' := [(9, .int (iv z6)), (12, .int (iv u98_0)), (0, .ref ss), (1, .ref ga), (2, .ref ka), (3, .int (iv x3)), (4, .int (iv x4)), (5, .int (iv (gn : Int))), (6, .int (iv (x4 * 32))), (7, .long w1), (10, .int (iv v43_10)), (11, .int (iv y4))]) dX6_canNumber_107 (by decide) rfl ?_
            refine r_aload_n (pc := 109) dX6_canNumber_109 (i := 0) rfl rfl ?_
            refine t_getE (pc := 110) (.ref (ss + 4)) ht98 hs_O fX6_21 dX6_canNumber_110 rfl ?_
            refine r_iload_n (pc := 113) dX6_canNumber_113 (i := 3) rfl rfl ?_
            refine r_iload (pc := 114) dX6_canNumber_114 rfl ?_
            refine t_iastR (pc := 116) (t0 := 0) ht98 hs_numbering dX6_canNumber_116 rfl (by decide) (by decide) (by omega) (by omega) (fun hp7 ht8 => ?_)
            refine r_iload (pc := 117) dX6_canNumber_117 rfl ?_
            refine t_if_eq (pc := 119) (tgt := 134) dX6_canNumber_119 (by decide) (by omega) (fun c119 => ?_) (fun c119 => ?_)
            · refine r_iload (pc := 134) dX6_canNumber_134 rfl ?_
              refine r_bipush (pc := 136) (v := iv 16) dX6_canNumber_136 (by decide) ?_
              have B173 : ∀ hp173 : MH, Tw Γ hp173 → True → Rn (gG D cI cJ cZ cT lo b L xs) mX6_canNumber d 173 [(0, .ref ss), (1, .ref ga), (2, .ref ka), (3, .int (iv x3)), (4, .int (iv x4)), (5, .int (iv (gn : Int))), (6, .int (iv (x4 * 32))), (7, .long w1), (9, .int (iv z6)), (10, .int (iv v43_10))] [] hp173 n 0 0 (pR Γ n 0 1) := by
                intro hp173 ht173 hf173
                refine r_iinc (pc := 173) (v := iv (v43_10 + 1)) (lv' := [(10, .int (iv (v43_10 + 1))), (0, .ref ss), (1, .ref ga), (2, .ref ka), (3, .int (iv x3)), (4, .int (iv x4)), (5, .int (iv (gn : Int))), (6, .int (iv (x4 * 32))), (7, .long w1), (9, .int (iv z6))]) dX6_canNumber_173 rfl (iv_add _ _) (by decide) rfl ?_
                refine r_goto (pc := 176) (tgt := 43) dX6_canNumber_176 (by decide) ?_
                refine Rn.pick (lv' := [(0, .ref ss), (1, .ref ga), (2, .ref ka), (3, .int (iv x3)), (4, .int (iv x4)), (5, .int (iv (gn : Int))), (6, .int (iv (x4 * 32))), (7, .long w1), (9, .int (iv z6)), (10, .int (iv (v43_10 + 1)))]) [1, 2, 3, 4, 5, 6, 7, 8, 9, 0] rfl ?_
                exact ih43 (Int.toNat (16 - (v43_10 + 1))) (by omega) _ ht173 z6 (v43_10 + 1) ⟨by omega, by omega, by omega, by omega⟩ (by omega)
              refine t_icmp_ge (pc := 138) (tgt := 173) dX6_canNumber_138 (by decide) (by omega) (by omega) (fun c138 => ?_) (fun c138 => ?_)
              · refine Rn.pick (lv' := [(0, .ref ss), (1, .ref ga), (2, .ref ka), (3, .int (iv x3)), (4, .int (iv x4)), (5, .int (iv (gn : Int))), (6, .int (iv (x4 * 32))), (7, .long w1), (9, .int (iv z6)), (10, .int (iv v43_10))]) [2, 3, 4, 5, 6, 7, 8, 9, 0, 10] rfl ?_
                exact B173 _ ht8 trivial
              · refine r_aload_n (pc := 141) dX6_canNumber_141 (i := 0) rfl rfl ?_
                refine r_iload (pc := 142) dX6_canNumber_142 rfl ?_
                refine r_iload_n (pc := 144) dX6_canNumber_144 (i := 3) rfl rfl ?_
                refine r_iload (pc := 145) dX6_canNumber_145 rfl ?_
                refine r_iload (pc := 147) dX6_canNumber_147 rfl ?_
                refine t_callVR (pc := 149) (as := [.int (iv (gn : Int)), .int (iv x3), .int (iv y4), .int (iv x4)]) (st := []) ht8 hs_O kX6_107 rfl dX6_canNumber_149 (t_X6_markPair (d := d - 1) (x1 := (gn : Int)) (x2 := x3) (x3 := y4) (x4 := x4) (by omega) hs  ht8 (by omega) (by omega) (by omega) (by omega) ) rfl (by omega) (Nat.le_of_ble_eq_true rfl) rfl (fun hp9 y11 ht10 by11 => ?_)
                refine t_if_eq (pc := 152) (tgt := 173) dX6_canNumber_152 (by decide) (by omega) (fun c152 => ?_) (fun c152 => ?_)
                · refine Rn.pick (lv' := [(0, .ref ss), (1, .ref ga), (2, .ref ka), (3, .int (iv x3)), (4, .int (iv x4)), (5, .int (iv (gn : Int))), (6, .int (iv (x4 * 32))), (7, .long w1), (9, .int (iv z6)), (10, .int (iv v43_10))]) [2, 3, 4, 5, 6, 7, 8, 9, 0, 10] rfl ?_
                  exact B173 _ ht10 trivial
                · refine r_aload_n (pc := 155) dX6_canNumber_155 (i := 0) rfl rfl ?_
                  refine r_aload_n (pc := 156) dX6_canNumber_156 (i := 1) rfl rfl ?_
                  refine r_aload_n (pc := 157) dX6_canNumber_157 (i := 2) rfl rfl ?_
                  refine r_iload_n (pc := 158) dX6_canNumber_158 (i := 3) rfl rfl ?_
                  refine r_iconst (pc := 159) (v := iv 1) dX6_canNumber_159 (by decide) ?_
                  refine r_iadd (pc := 160) (v := iv (x3 + 1)) dX6_canNumber_160 (iv_add _ _) ?_
                  refine r_iload (pc := 161) dX6_canNumber_161 rfl ?_
                  refine r_iconst (pc := 163) (v := iv 1) dX6_canNumber_163 (by decide) ?_
                  refine r_iadd (pc := 164) (v := iv (x4 + 1)) dX6_canNumber_164 (iv_add _ _) ?_
                  refine t_callVR (pc := 165) (as := [.ref ga, .ref ka, .int (iv (x3 + 1)), .int (iv (x4 + 1))]) (st := []) ht10 hs_O kX6_56 rfl dX6_canNumber_165 (ih (Int.toNat (16 - (x3 + 1))) (by omega) _ _ (d - 1) Γ _ _ _ _ _ _ _ _ _ _ _ _ _ _ _ _ _ _ _ _ _ _ _ _ _ _ _ _ _ _ _ _ _ (by omega) hs hg hk  ht10 (by omega) (by omega)  (by omega)) rfl (by omega) (Nat.le_of_ble_eq_true rfl) rfl (fun hp12 y14 ht13 by14 => ?_)
                  refine t_if_eq (pc := 168) (tgt := 173) dX6_canNumber_168 (by decide) (by omega) (fun c168 => ?_) (fun c168 => ?_)
                  · refine Rn.pick (lv' := [(0, .ref ss), (1, .ref ga), (2, .ref ka), (3, .int (iv x3)), (4, .int (iv x4)), (5, .int (iv (gn : Int))), (6, .int (iv (x4 * 32))), (7, .long w1), (9, .int (iv z6)), (10, .int (iv v43_10))]) [2, 3, 4, 5, 6, 7, 8, 9, 0, 10] rfl ?_
                    exact B173 _ ht13 trivial
                  · refine r_iconst (pc := 171) (v := iv 1) dX6_canNumber_171 (by decide) ?_
                    exact r_zret (pc := 172) dX6_canNumber_172 rfl (iv_nar (by omega)) ⟨rfl, ht13, _, rfl, by omega, by omega⟩
            · refine r_aload_n (pc := 122) dX6_canNumber_122 (i := 0) rfl rfl ?_
              refine r_aload_n (pc := 123) dX6_canNumber_123 (i := 1) rfl rfl ?_
              refine r_aload_n (pc := 124) dX6_canNumber_124 (i := 2) rfl rfl ?_
              refine r_iload_n (pc := 125) dX6_canNumber_125 (i := 3) rfl rfl ?_
              refine r_iconst (pc := 126) (v := iv 1) dX6_canNumber_126 (by decide) ?_
              refine r_iadd (pc := 127) (v := iv (x3 + 1)) dX6_canNumber_127 (iv_add _ _) ?_
              refine r_iload (pc := 128) dX6_canNumber_128 rfl ?_
              refine t_callVR (pc := 130) (as := [.ref ga, .ref ka, .int (iv (x3 + 1)), .int (iv x4)]) (st := []) ht8 hs_O kX6_56 rfl dX6_canNumber_130 (ih (Int.toNat (16 - (x3 + 1))) (by omega) _ _ (d - 1) Γ _ _ _ _ _ _ _ _ _ _ _ _ _ _ _ _ _ _ _ _ _ _ _ _ _ _ _ _ _ _ _ _ _ (by omega) hs hg hk  ht8 (by omega) (by omega)  (by omega)) rfl (by omega) (Nat.le_of_ble_eq_true rfl) rfl (fun hp15 y17 ht16 by17 => ?_)
              exact r_zret (pc := 133) dX6_canNumber_133 rfl (iv_nar (by omega)) ⟨rfl, ht16, _, rfl, by omega, by omega⟩
          have B97 : ∀ hp97 : MH, Tw Γ hp97 → True → Rn (gG D cI cJ cZ cT lo b L xs) mX6_canNumber d 97 [(0, .ref ss), (1, .ref ga), (2, .ref ka), (3, .int (iv x3)), (4, .int (iv x4)), (5, .int (iv (gn : Int))), (6, .int (iv (x4 * 32))), (7, .long w1), (9, .int (iv v43_9)), (10, .int (iv v43_10)), (11, .int (iv y4))] [] hp97 n 0 0 (pR Γ n 0 1) := by
            intro hp97 ht97 hf97
            refine r_iconst (pc := 97) (v := iv 0) dX6_canNumber_97 (by decide) ?_
            refine Rn.pick (lv' := [(0, .ref ss), (1, .ref ga), (2, .ref ka), (3, .int (iv x3)), (4, .int (iv x4)), (5, .int (iv (gn : Int))), (6, .int (iv (x4 * 32))), (7, .long w1), (9, .int (iv v43_9)), (10, .int (iv v43_10)), (11, .int (iv y4))]) [0, 1, 2, 3, 4, 5, 6, 7, 8, 9, 10] rfl ?_
            exact B98 _ ht97 0 ⟨by omega, by omega⟩
          refine t_if_ne (pc := 73) (tgt := 97) dX6_canNumber_73 (by decide) (by omega) (fun c73 => ?_) (fun c73 => ?_)
          · refine Rn.pick (lv' := [(0, .ref ss), (1, .ref ga), (2, .ref ka), (3, .int (iv x3)), (4, .int (iv x4)), (5, .int (iv (gn : Int))), (6, .int (iv (x4 * 32))), (7, .long w1), (9, .int (iv v43_9)), (10, .int (iv v43_10)), (11, .int (iv y4))]) [1, 2, 3, 4, 5, 6, 7, 8, 9, 10, 0] rfl ?_
            exact B97 _ ht3 trivial
          · refine r_aload_n (pc := 76) dX6_canNumber_76 (i := 0) rfl rfl ?_
            refine r_iload (pc := 77) dX6_canNumber_77 rfl ?_
            refine r_lload (pc := 79) dX6_canNumber_79 rfl ?_
            refine r_iconst (pc := 81) (v := iv 1) dX6_canNumber_81 (by decide) ?_
            refine r_iload (pc := 82) dX6_canNumber_82 rfl ?_
            obtain ⟨z18, hz18, bz18⟩ := shl_1 0 15 y4 (by omega) (by omega) (by decide)
            refine r_ishl (pc := 84) (v := iv z18) dX6_canNumber_84 hz18 ?_
            refine r_iload (pc := 85) dX6_canNumber_85 rfl ?_
            refine t_callVR (pc := 87) (as := [.int (iv (x4 * 32)), .long w1, .int (iv z18), .int (iv (gn : Int))]) (st := []) ht3 hs_O kX6_99 rfl dX6_canNumber_87 (t_X6_firstLike (d := d - 1) (x1 := x4 * 32) (j2 := w1) (x3 := z18) (x4 := (gn : Int)) (by omega) hs  ht3 (by omega) (by omega) (by omega) ) rfl (by omega) (Nat.le_of_ble_eq_true rfl) rfl (fun hp19 y21 ht20 by21 => ?_)
            refine t_if_ge (pc := 90) (tgt := 97) dX6_canNumber_90 (by decide) (by omega) (fun c90 => ?_) (fun c90 => ?_)
            · refine Rn.pick (lv' := [(0, .ref ss), (1, .ref ga), (2, .ref ka), (3, .int (iv x3)), (4, .int (iv x4)), (5, .int (iv (gn : Int))), (6, .int (iv (x4 * 32))), (7, .long w1), (9, .int (iv v43_9)), (10, .int (iv v43_10)), (11, .int (iv y4))]) [1, 2, 3, 4, 5, 6, 7, 8, 9, 10, 0] rfl ?_
              exact B97 _ ht20 trivial
            · refine r_iconst (pc := 93) (v := iv 1) dX6_canNumber_93 (by decide) ?_
              refine r_goto (pc := 94) (tgt := 98) dX6_canNumber_94 (by decide) ?_
              refine Rn.pick (lv' := [(0, .ref ss), (1, .ref ga), (2, .ref ka), (3, .int (iv x3)), (4, .int (iv x4)), (5, .int (iv (gn : Int))), (6, .int (iv (x4 * 32))), (7, .long w1), (9, .int (iv v43_9)), (10, .int (iv v43_10)), (11, .int (iv y4))]) [1, 2, 3, 4, 5, 6, 7, 8, 9, 10, 0] rfl ?_
              exact B98 _ ht20 1 ⟨by omega, by omega⟩
        · refine r_iconst (pc := 69) (v := iv 0) dX6_canNumber_69 (by decide) ?_
          exact r_zret (pc := 70) dX6_canNumber_70 rfl (iv_nar (by omega)) ⟨rfl, ht3, _, rfl, by omega, by omega⟩
    refine Rn.pick (lv' := [(0, .ref ss), (1, .ref ga), (2, .ref ka), (3, .int (iv x3)), (4, .int (iv x4)), (5, .int (iv (gn : Int))), (6, .int (iv (x4 * 32))), (7, .long w1), (9, .int (iv 0)), (10, .int (iv 0))]) [5, 6, 7, 8, 9, 4, 3, 2, 1, 0] rfl ?_
    exact B43 (Int.toNat (16 - 0)) _ ht 0 0 ⟨by omega, by omega, by omega, by omega⟩ (by omega)
  · refine r_aload_n (pc := 12) dX6_canNumber_12 (i := 0) rfl rfl ?_
    refine r_aload_n (pc := 13) dX6_canNumber_13 (i := 1) rfl rfl ?_
    refine r_aload_n (pc := 14) dX6_canNumber_14 (i := 2) rfl rfl ?_
    refine t_callVR (pc := 15) (as := [.ref ga, .ref ka]) (st := []) ht hs_O kX6_103 rfl dX6_canNumber_15 (t_X6_haveSameArcs (d := d - 1)  (by omega) hs hg hk  ht  ) rfl (by omega) (Nat.le_of_ble_eq_true rfl) rfl (fun hp22 y24 ht23 by24 => ?_)
    exact r_zret (pc := 18) dX6_canNumber_18 rfl (iv_nar (by omega)) ⟨rfl, ht23, _, rfl, by omega, by omega⟩
