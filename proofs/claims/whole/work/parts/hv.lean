set_option maxHeartbeats 4000000 in
set_option maxRecDepth 100000 in
theorem c_X6_startColoursx {D : va_G} {cI cJ cZ cT : ClassId} {lo b L : Nat} {xs : Nat → Int32} {hp : MH} {n d : Nat} {Γ : TG} {s : Nat} {Ti Co Fr : Nat → Int64} {Nu : Nat → Int} {x1 : Int} (hd0 : 1 ≤ d) (ht : Tw (SmS Γ cI cJ s Ti Co Fr Nu) hp) (hx1 : 1 ≤ x1 ∧ x1 ≤ 16) : Mt (gG D cI cJ cZ cT lo b L xs) mX6_startColours d 0 0 [.ref s, .int (iv x1)] hp n (fun r9 hp1 n1 => n1 = n ∧ r9 = none ∧ ∃ Co1 : Nat → Int64, Tw (SmS Γ cI cJ s Ti Co1 Fr Nu) hp1 ∧ scI Ti Co1 x1) := by
  refine Mt.of rfl (Nat.le_of_ble_eq_true rfl) ?_
  refine Rn.pick (lv' := [(0, .ref s), (1, .int (iv x1))]) [0, 1] rfl ?_
  have t0 : Tw (ov (ov (ov (ov (ov Γ s (tO 6 (smnR s))) (s + 1) (xJ cJ 512 Ti)) (s + 2) (xJ cJ 544 Co)) (s + 3) (xJ cJ 32 Fr)) (s + 4) (xI cI 16 Nu)) hp := ht
  refine r_iconst (pc := 0) (v := iv 0) dX6_startColours_0 (by decide) ?_
  refine r_istore_n (pc := 1) (lv' := [(2, .int (iv 0)), (0, .ref s), (1, .int (iv x1))]) dX6_startColours_1 (i := 2) rfl (by decide) rfl ?_
  have B2 : ∀ k : Nat, ∀ Co2 : Nat → Int64, ∀ hp2 : MH, Tw (ov (ov (ov (ov (ov Γ s (tO 6 (smnR s))) (s + 1) (xJ cJ 512 Ti)) (s + 2) (xJ cJ 544 Co2)) (s + 3) (xJ cJ 32 Fr)) (s + 4) (xI cI 16 Nu)) hp2 → ∀  (v2_2 : Int), 0 ≤ v2_2 ∧ v2_2 ≤ 16 ∧ (v2_2 ≤ x1) ∧ (scI Ti Co2 v2_2) → 16 - v2_2 ≤ (k : Int) → Rn (gG D cI cJ cZ cT lo b L xs) mX6_startColours d 2 [(0, .ref s), (1, .int (iv x1)), (2, .int (iv v2_2))] [] hp2 n 0 0 (fun r9 hp1 n1 => n1 = n ∧ r9 = none ∧ ∃ Co1 : Nat → Int64, Tw (SmS Γ cI cJ s Ti Co1 Fr Nu) hp1 ∧ scI Ti Co1 x1) := by
    refine lpS _ ?_
    intro k2 ih2 Co2 hp2 ht2 v2_2 hf2 hm2
    obtain ⟨hf2_0, hf2_1, hf2_2, ha2_3⟩ := hf2
    refine r_iload_n (pc := 2) dX6_startColours_2 (i := 2) rfl rfl ?_
    refine r_iload_n (pc := 3) dX6_startColours_3 (i := 1) rfl rfl ?_
    refine t_icmp_ge (pc := 4) (tgt := 57) dX6_startColours_4 (by decide) (by omega) (by omega) (fun c4 => ?_) (fun c4 => ?_)
    · exact r_vret (pc := 57) dX6_startColours_57 rfl ⟨rfl, rfl, Co2, ht2, by have h9 := (by assumption : scI Ti Co2 v2_2); rw [show v2_2 = x1 by omega] at h9; exact h9⟩
    · refine r_iload_n (pc := 7) dX6_startColours_7 (i := 2) rfl rfl ?_
      refine r_bipush (pc := 8) (v := iv 16) dX6_startColours_8 (by decide) ?_
      refine r_imul (pc := 10) (v := iv (v2_2 * 16)) dX6_startColours_10 (iv_mul _ _) ?_
      refine r_iload_n (pc := 11) dX6_startColours_11 (i := 2) rfl rfl ?_
      refine r_iadd (pc := 12) (v := iv ((v2_2 * 16) + v2_2)) dX6_startColours_12 (iv_add _ _) ?_
      refine r_istore_n (pc := 13) (lv' := [(3, .int (iv ((v2_2 * 16) + v2_2))), (0, .ref s), (1, .int (iv x1)), (2, .int (iv v2_2))]) dX6_startColours_13 (i := 3) rfl (by decide) rfl ?_
      refine r_aload_n (pc := 14) dX6_startColours_14 (i := 0) rfl rfl ?_
      refine t_getE (pc := 15) (.ref (s + 2)) ht2 (rd_ov (by omega) (rd_ov (by omega) (rd_ov (by omega) (rd_ov (by omega) (rd_of (ov_s _ _ _)))))) fX6_15 dX6_startColours_15 rfl ?_
      refine r_iload_n (pc := 18) dX6_startColours_18 (i := 2) rfl rfl ?_
      refine r_aload_n (pc := 19) dX6_startColours_19 (i := 0) rfl rfl ?_
      refine t_getE (pc := 20) (.ref (s + 1)) ht2 (rd_ov (by omega) (rd_ov (by omega) (rd_ov (by omega) (rd_ov (by omega) (rd_of (ov_s _ _ _)))))) fX6_9 dX6_startColours_20 rfl ?_
      refine r_iload_n (pc := 23) dX6_startColours_23 (i := 3) rfl rfl ?_
      refine t_laldX (pc := 24) (t0 := 1) ht2 (rd_ov (by omega) (rd_ov (by omega) (rd_ov (by omega) (rd_of (ov_s _ _ _))))) dX6_startColours_24 rfl (by decide) (by omega) ?_
      refine t_callSJ (pc := 25) (as := [.long (Ti (Int.toNat ((v2_2 * 16) + v2_2)))]) (st := [.int (iv v2_2), .ref (s + 2)]) kX6_70 dX6_startColours_25 (c_X6_scramblex (d := d - 1) (j0 := Ti (Int.toNat ((v2_2 * 16) + v2_2))) (by omega) ht2) rfl (by omega) (Nat.le_of_ble_eq_true rfl) rfl (fun hp2 y1 ht3 by1 => ?_)
      subst by1
      refine t_lastX (pc := 28) (t0 := 1) ht3 (eq_ov (by omega) (eq_ov (by omega) (ov_s _ _ _))) dX6_startColours_28 rfl (by decide) (by omega) (fun hp4 ht5 => ?_)
      rw [ov_in3 (by omega) (by omega) ] at ht5
      refine r_aload_n (pc := 29) dX6_startColours_29 (i := 0) rfl rfl ?_
      refine t_getE (pc := 30) (.ref (s + 2)) ht5 (rd_ov (by omega) (rd_ov (by omega) (rd_ov (by omega) (rd_ov (by omega) (rd_of (ov_s _ _ _)))))) fX6_15 dX6_startColours_30 rfl ?_
      refine r_bipush (pc := 33) (v := iv 16) dX6_startColours_33 (by decide) ?_
      refine r_iload_n (pc := 35) dX6_startColours_35 (i := 2) rfl rfl ?_
      refine r_iadd (pc := 36) (v := iv (16 + v2_2)) dX6_startColours_36 (iv_add _ _) ?_
      refine r_aload_n (pc := 37) dX6_startColours_37 (i := 0) rfl rfl ?_
      refine t_getE (pc := 38) (.ref (s + 1)) ht5 (rd_ov (by omega) (rd_ov (by omega) (rd_ov (by omega) (rd_ov (by omega) (rd_of (ov_s _ _ _)))))) fX6_9 dX6_startColours_38 rfl ?_
      refine r_sipush (pc := 41) (v := iv 256) dX6_startColours_41 (by decide) ?_
      refine r_iload_n (pc := 44) dX6_startColours_44 (i := 3) rfl rfl ?_
      refine r_iadd (pc := 45) (v := iv (256 + ((v2_2 * 16) + v2_2))) dX6_startColours_45 (iv_add _ _) ?_
      refine t_laldX (pc := 46) (t0 := 1) ht5 (rd_ov (by omega) (rd_ov (by omega) (rd_ov (by omega) (rd_of (ov_s _ _ _))))) dX6_startColours_46 rfl (by decide) (by omega) ?_
      refine t_callSJ (pc := 47) (as := [.long (Ti (Int.toNat (256 + ((v2_2 * 16) + v2_2))))]) (st := [.int (iv (16 + v2_2)), .ref (s + 2)]) kX6_70 dX6_startColours_47 (c_X6_scramblex (d := d - 1) (j0 := Ti (Int.toNat (256 + ((v2_2 * 16) + v2_2)))) (by omega) ht5) rfl (by omega) (Nat.le_of_ble_eq_true rfl) rfl (fun hp7 y6 ht8 by6 => ?_)
      subst by6
      refine t_lastX (pc := 50) (t0 := 1) ht8 (eq_ov (by omega) (eq_ov (by omega) (ov_s _ _ _))) dX6_startColours_50 rfl (by decide) (by omega) (fun hp9 ht10 => ?_)
      rw [ov_in3 (by omega) (by omega) ] at ht10
      have hsc : scI Ti (fuj (fuj Co2 (Int.toNat v2_2) (scR (Ti (Int.toNat ((v2_2 * 16) + v2_2))))) (Int.toNat (16 + v2_2)) (scR (Ti (Int.toNat (256 + ((v2_2 * 16) + v2_2)))))) (v2_2 + 1) := sci_up (by assumption : scI Ti Co2 v2_2) (by omega) (by omega) (by omega) (by omega) (by omega)
      refine r_iinc (pc := 51) (v := iv (v2_2 + 1)) (lv' := [(2, .int (iv (v2_2 + 1))), (3, .int (iv ((v2_2 * 16) + v2_2))), (0, .ref s), (1, .int (iv x1))]) dX6_startColours_51 rfl (iv_add _ _) (by decide) rfl ?_
      refine r_goto (pc := 54) (tgt := 2) dX6_startColours_54 (by decide) ?_
      refine Rn.pick (lv' := [(0, .ref s), (1, .int (iv x1)), (2, .int (iv (v2_2 + 1)))]) [2, 3, 0] rfl ?_
      exact ih2 (Int.toNat (16 - (v2_2 + 1))) (by omega) (fuj (fuj Co2 (Int.toNat v2_2) (scR (Ti (Int.toNat ((v2_2 * 16) + v2_2))))) (Int.toNat (16 + v2_2)) (scR (Ti (Int.toNat (256 + ((v2_2 * 16) + v2_2)))))) _ ht10 (v2_2 + 1) ⟨by omega, by omega, by omega, by (first | exact hsc | exact sci_0)⟩ (by omega)
  refine Rn.pick (lv' := [(0, .ref s), (1, .int (iv x1)), (2, .int (iv 0))]) [1, 2, 0] rfl ?_
  exact B2 (Int.toNat (16 - 0)) Co _ t0 0 ⟨by omega, by omega, by omega, by (first | exact hsc | exact sci_0)⟩ (by omega)
set_option maxHeartbeats 4000000 in
set_option maxRecDepth 100000 in
theorem c_X6_countColoursx {D : va_G} {cI cJ cZ cT : ClassId} {lo b L : Nat} {xs : Nat → Int32} {hp : MH} {n d : Nat} {Γ : TG} {s : Nat} {Co : Nat → Int64} {x1 x2 : Int} (hd0 : 0 ≤ d) (hO : rd Γ s (tO 6 (smnR s))) (hC : rd Γ (s + 2) (xJ cJ 544 Co)) (ht : Tw Γ hp) (hx1 : 0 ≤ x1 ∧ x1 ≤ 512) (hx2 : 1 ≤ x2 ∧ x2 ≤ 16) : Mt (gG D cI cJ cZ cT lo b L xs) mX6_countColours d 0 0 [.ref s, .int (iv x1), .int (iv x2)] hp n (pR Γ n (-2147483648) 2147483647) := by
  refine Mt.of rfl (Nat.le_of_ble_eq_true rfl) ?_
  refine Rn.pick (lv' := [(0, .ref s), (1, .int (iv x1)), (2, .int (iv x2))]) [0, 1, 2] rfl ?_
  refine r_iconst (pc := 0) (v := iv 0) dX6_countColours_0 (by decide) ?_
  refine r_istore_n (pc := 1) (lv' := [(3, .int (iv 0)), (0, .ref s), (1, .int (iv x1)), (2, .int (iv x2))]) dX6_countColours_1 (i := 3) rfl (by decide) rfl ?_
  refine r_iconst (pc := 2) (v := iv 0) dX6_countColours_2 (by decide) ?_
  refine r_istore (pc := 3) (lv' := [(4, .int (iv 0)), (3, .int (iv 0)), (0, .ref s), (1, .int (iv x1)), (2, .int (iv x2))]) dX6_countColours_3 (by decide) rfl ?_
  have B5 : ∀ k : Nat, ∀ hp5 : MH, Tw Γ hp5 → ∀  (v5_3 : Int) (v5_4 : Int), (-2147483648) ≤ v5_3 ∧ v5_3 ≤ 2147483647 ∧ 0 ≤ v5_4 ∧ v5_4 ≤ 16 → 16 - v5_4 ≤ (k : Int) → Rn (gG D cI cJ cZ cT lo b L xs) mX6_countColours d 5 [(0, .ref s), (1, .int (iv x1)), (2, .int (iv x2)), (3, .int (iv v5_3)), (4, .int (iv v5_4))] [] hp5 n 0 0 (pR Γ n (-2147483648) 2147483647) := by
    refine lpS _ ?_
    intro k5 ih5 hp5 ht5 v5_3 v5_4 hf5 hm5
    refine r_iload (pc := 5) dX6_countColours_5 rfl ?_
    refine r_iload_n (pc := 7) dX6_countColours_7 (i := 2) rfl rfl ?_
    refine t_icmp_ge (pc := 8) (tgt := 83) dX6_countColours_8 (by decide) (by omega) (by omega) (fun c8 => ?_) (fun c8 => ?_)
    · refine r_iload_n (pc := 83) dX6_countColours_83 (i := 3) rfl rfl ?_
      exact r_iret (pc := 84) dX6_countColours_84 rfl ⟨rfl, ht5, _, rfl, by omega, by omega⟩
    · refine r_iconst (pc := 11) (v := iv 1) dX6_countColours_11 (by decide) ?_
      refine r_istore (pc := 12) (lv' := [(5, .int (iv 1)), (0, .ref s), (1, .int (iv x1)), (2, .int (iv x2)), (3, .int (iv v5_3)), (4, .int (iv v5_4))]) dX6_countColours_12 (by decide) rfl ?_
      refine r_iconst (pc := 14) (v := iv 0) dX6_countColours_14 (by decide) ?_
      refine r_istore (pc := 15) (lv' := [(6, .int (iv 0)), (5, .int (iv 1)), (0, .ref s), (1, .int (iv x1)), (2, .int (iv x2)), (3, .int (iv v5_3)), (4, .int (iv v5_4))]) dX6_countColours_15 (by decide) rfl ?_
      have B17 : ∀ k : Nat, ∀ hp17 : MH, Tw Γ hp17 → ∀  (v17_5 : Int) (v17_6 : Int), 0 ≤ v17_5 ∧ v17_5 ≤ 1 ∧ 0 ≤ v17_6 ∧ v17_6 ≤ 15 → 15 - v17_6 ≤ (k : Int) → Rn (gG D cI cJ cZ cT lo b L xs) mX6_countColours d 17 [(0, .ref s), (1, .int (iv x1)), (2, .int (iv x2)), (3, .int (iv v5_3)), (4, .int (iv v5_4)), (5, .int (iv v17_5)), (6, .int (iv v17_6))] [] hp17 n 0 0 (pR Γ n (-2147483648) 2147483647) := by
        refine lpS _ ?_
        intro k17 ih17 hp17 ht17 v17_5 v17_6 hf17 hm17
        refine r_iload (pc := 17) dX6_countColours_17 rfl ?_
        refine r_iload (pc := 19) dX6_countColours_19 rfl ?_
        have B64 : ∀ hp64 : MH, Tw Γ hp64 → True → Rn (gG D cI cJ cZ cT lo b L xs) mX6_countColours d 64 [(0, .ref s), (1, .int (iv x1)), (2, .int (iv x2)), (3, .int (iv v5_3)), (4, .int (iv v5_4)), (5, .int (iv v17_5))] [] hp64 n 0 0 (pR Γ n (-2147483648) 2147483647) := by
          intro hp64 ht64 hf64
          refine r_iload_n (pc := 64) dX6_countColours_64 (i := 3) rfl rfl ?_
          refine r_iload (pc := 65) dX6_countColours_65 rfl ?_
          have B75 : ∀ hp75 : MH, Tw Γ hp75 → ∀  (u75_1 : Int), 0 ≤ u75_1 ∧ u75_1 ≤ 1 → Rn (gG D cI cJ cZ cT lo b L xs) mX6_countColours d 75 [(0, .ref s), (1, .int (iv x1)), (2, .int (iv x2)), (4, .int (iv v5_4))] [.int (iv u75_1), .int (iv v5_3)] hp75 n 0 0 (pR Γ n (-2147483648) 2147483647) := by
            intro hp75 ht75 u75_1 hf75
            obtain ⟨z1, hz1, bz1⟩ := any_i (iv v5_3 + iv u75_1)
            refine r_iadd (pc := 75) (v := iv z1) dX6_countColours_75 hz1 ?_
            refine r_istore_n (pc := 76) (lv' := [(3, .int (iv z1)), (0, .ref s), (1, .int (iv x1)), (2, .int (iv x2)), (4, .int (iv v5_4))]) dX6_countColours_76 (i := 3) rfl (by decide) rfl ?_
            refine r_iinc (pc := 77) (v := iv (v5_4 + 1)) (lv' := [(4, .int (iv (v5_4 + 1))), (3, .int (iv z1)), (0, .ref s), (1, .int (iv x1)), (2, .int (iv x2))]) dX6_countColours_77 rfl (iv_add _ _) (by decide) rfl ?_
            refine r_goto (pc := 80) (tgt := 5) dX6_countColours_80 (by decide) ?_
            refine Rn.pick (lv' := [(0, .ref s), (1, .int (iv x1)), (2, .int (iv x2)), (3, .int (iv z1)), (4, .int (iv (v5_4 + 1)))]) [2, 3, 4, 1, 0] rfl ?_
            exact ih5 (Int.toNat (16 - (v5_4 + 1))) (by omega) _ ht75 z1 (v5_4 + 1) ⟨by omega, by omega, by omega, by omega⟩ (by omega)
          refine t_if_eq (pc := 67) (tgt := 74) dX6_countColours_67 (by decide) (by omega) (fun c67 => ?_) (fun c67 => ?_)
          · refine r_iconst (pc := 74) (v := iv 0) dX6_countColours_74 (by decide) ?_
            refine Rn.pick (lv' := [(0, .ref s), (1, .int (iv x1)), (2, .int (iv x2)), (4, .int (iv v5_4))]) [0, 1, 2, 4] rfl ?_
            exact B75 _ ht64 0 ⟨by omega, by omega⟩
          · refine r_iconst (pc := 70) (v := iv 1) dX6_countColours_70 (by decide) ?_
            refine r_goto (pc := 71) (tgt := 75) dX6_countColours_71 (by decide) ?_
            refine Rn.pick (lv' := [(0, .ref s), (1, .int (iv x1)), (2, .int (iv x2)), (4, .int (iv v5_4))]) [0, 1, 2, 4] rfl ?_
            exact B75 _ ht64 1 ⟨by omega, by omega⟩
        refine t_icmp_ge (pc := 21) (tgt := 64) dX6_countColours_21 (by decide) (by omega) (by omega) (fun c21 => ?_) (fun c21 => ?_)
        · refine Rn.pick (lv' := [(0, .ref s), (1, .int (iv x1)), (2, .int (iv x2)), (3, .int (iv v5_3)), (4, .int (iv v5_4)), (5, .int (iv v17_5))]) [0, 1, 2, 3, 4, 5] rfl ?_
          exact B64 _ ht17 trivial
        · refine r_iload (pc := 24) dX6_countColours_24 rfl ?_
          refine t_if_eq (pc := 26) (tgt := 64) dX6_countColours_26 (by decide) (by omega) (fun c26 => ?_) (fun c26 => ?_)
          · refine Rn.pick (lv' := [(0, .ref s), (1, .int (iv x1)), (2, .int (iv x2)), (3, .int (iv v5_3)), (4, .int (iv v5_4)), (5, .int (iv v17_5))]) [0, 1, 2, 3, 4, 5] rfl ?_
            exact B64 _ ht17 trivial
          · refine r_aload_n (pc := 29) dX6_countColours_29 (i := 0) rfl rfl ?_
            refine t_getE (pc := 30) (.ref (s + 2)) ht17 hO fX6_15 dX6_countColours_30 rfl ?_
            refine r_iload_n (pc := 33) dX6_countColours_33 (i := 1) rfl rfl ?_
            refine r_iload (pc := 34) dX6_countColours_34 rfl ?_
            refine r_iadd (pc := 36) (v := iv (x1 + v17_6)) dX6_countColours_36 (iv_add _ _) ?_
            refine t_laldX (pc := 37) (t0 := 1) ht17 hC dX6_countColours_37 rfl (by decide) (by omega) ?_
            refine r_aload_n (pc := 38) dX6_countColours_38 (i := 0) rfl rfl ?_
            refine t_getE (pc := 39) (.ref (s + 2)) ht17 hO fX6_15 dX6_countColours_39 rfl ?_
            refine r_iload_n (pc := 42) dX6_countColours_42 (i := 1) rfl rfl ?_
            refine r_iload (pc := 43) dX6_countColours_43 rfl ?_
            refine r_iadd (pc := 45) (v := iv (x1 + v5_4)) dX6_countColours_45 (iv_add _ _) ?_
            refine t_laldX (pc := 46) (t0 := 1) ht17 hC dX6_countColours_46 rfl (by decide) (by omega) ?_
            refine r_lcmp (pc := 47) dX6_countColours_47 ?_
            have B56 : ∀ hp56 : MH, Tw Γ hp56 → ∀  (u56_0 : Int), 0 ≤ u56_0 ∧ u56_0 ≤ 1 → Rn (gG D cI cJ cZ cT lo b L xs) mX6_countColours d 56 [(0, .ref s), (1, .int (iv x1)), (2, .int (iv x2)), (3, .int (iv v5_3)), (4, .int (iv v5_4)), (6, .int (iv v17_6))] [.int (iv u56_0)] hp56 n 0 0 (pR Γ n (-2147483648) 2147483647) := by
              intro hp56 ht56 u56_0 hf56
              refine r_istore (pc := 56) (lv' := [(5, .int (iv u56_0)), (0, .ref s), (1, .int (iv x1)), (2, .int (iv x2)), (3, .int (iv v5_3)), (4, .int (iv v5_4)), (6, .int (iv v17_6))]) dX6_countColours_56 (by decide) rfl ?_
              refine r_iinc (pc := 58) (v := iv (v17_6 + 1)) (lv' := [(6, .int (iv (v17_6 + 1))), (5, .int (iv u56_0)), (0, .ref s), (1, .int (iv x1)), (2, .int (iv x2)), (3, .int (iv v5_3)), (4, .int (iv v5_4))]) dX6_countColours_58 rfl (iv_add _ _) (by decide) rfl ?_
              refine r_goto (pc := 61) (tgt := 17) dX6_countColours_61 (by decide) ?_
              refine Rn.pick (lv' := [(0, .ref s), (1, .int (iv x1)), (2, .int (iv x2)), (3, .int (iv v5_3)), (4, .int (iv v5_4)), (5, .int (iv u56_0)), (6, .int (iv (v17_6 + 1)))]) [2, 3, 4, 5, 6, 1, 0] rfl ?_
              exact ih17 (Int.toNat (15 - (v17_6 + 1))) (by omega) _ ht56 u56_0 (v17_6 + 1) ⟨by omega, by omega, by omega, by omega⟩ (by omega)
            refine r_if_eq (pc := 48) (tgt := 55) dX6_countColours_48 (by decide) (fun c48 => ?_) (fun c48 => ?_)
            · refine r_iconst (pc := 55) (v := iv 0) dX6_countColours_55 (by decide) ?_
              refine Rn.pick (lv' := [(0, .ref s), (1, .int (iv x1)), (2, .int (iv x2)), (3, .int (iv v5_3)), (4, .int (iv v5_4)), (6, .int (iv v17_6))]) [0, 1, 2, 3, 4, 6] rfl ?_
              exact B56 _ ht17 0 ⟨by omega, by omega⟩
            · refine r_iconst (pc := 51) (v := iv 1) dX6_countColours_51 (by decide) ?_
              refine r_goto (pc := 52) (tgt := 56) dX6_countColours_52 (by decide) ?_
              refine Rn.pick (lv' := [(0, .ref s), (1, .int (iv x1)), (2, .int (iv x2)), (3, .int (iv v5_3)), (4, .int (iv v5_4)), (6, .int (iv v17_6))]) [0, 1, 2, 3, 4, 6] rfl ?_
              exact B56 _ ht17 1 ⟨by omega, by omega⟩
      refine Rn.pick (lv' := [(0, .ref s), (1, .int (iv x1)), (2, .int (iv x2)), (3, .int (iv v5_3)), (4, .int (iv v5_4)), (5, .int (iv 1)), (6, .int (iv 0))]) [2, 3, 4, 5, 6, 1, 0] rfl ?_
      exact B17 (Int.toNat (15 - 0)) _ ht5 1 0 ⟨by omega, by omega, by omega, by omega⟩ (by omega)
  refine Rn.pick (lv' := [(0, .ref s), (1, .int (iv x1)), (2, .int (iv x2)), (3, .int (iv 0)), (4, .int (iv 0))]) [2, 3, 4, 1, 0] rfl ?_
  exact B5 (Int.toNat (16 - 0)) _ ht 0 0 ⟨by omega, by omega, by omega, by omega⟩ (by omega)
set_option maxHeartbeats 4000000 in
set_option maxRecDepth 100000 in
theorem c_X6_recolourx {D : va_G} {cI cJ cZ cT : ClassId} {lo b L : Nat} {xs : Nat → Int32} {hp : MH} {n d : Nat} {Γ : TG} {s : Nat} {Ti Co Fr : Nat → Int64} {Nu : Nat → Int} {x1 x2 x3 : Int} (hd0 : 1 ≤ d) (ht : Tw (SmS Γ cI cJ s Ti Co Fr Nu) hp) (hx1 : 0 ≤ x1 ∧ x1 ≤ 512) (hx2 : 0 ≤ x2 ∧ x2 ≤ 16) (hx3 : 1 ≤ x3 ∧ x3 ≤ 16) : Mt (gG D cI cJ cZ cT lo b L xs) mX6_recolour d 0 0 [.ref s, .int (iv x1), .int (iv x2), .int (iv x3)] hp n (fun r9 hp1 n1 => n1 = n ∧ r9 = none ∧ ∃ Fr1 : Nat → Int64, Tw (SmS Γ cI cJ s Ti Co Fr1 Nu) hp1 ∧ rcI Ti Co Fr Fr1 (Int.toNat x1) (Int.toNat x2) (Int.toNat x3) x3) := by
  refine Mt.of rfl (Nat.le_of_ble_eq_true rfl) ?_
  refine Rn.pick (lv' := [(0, .ref s), (1, .int (iv x1)), (2, .int (iv x2)), (3, .int (iv x3))]) [0, 1, 2, 3] rfl ?_
  have t0 : Tw (ov (ov (ov (ov (ov Γ s (tO 6 (smnR s))) (s + 1) (xJ cJ 512 Ti)) (s + 2) (xJ cJ 544 Co)) (s + 3) (xJ cJ 32 Fr)) (s + 4) (xI cI 16 Nu)) hp := ht
  refine r_iconst (pc := 0) (v := iv 0) dX6_recolour_0 (by decide) ?_
  refine r_istore (pc := 1) (lv' := [(4, .int (iv 0)), (0, .ref s), (1, .int (iv x1)), (2, .int (iv x2)), (3, .int (iv x3))]) dX6_recolour_1 (by decide) rfl ?_
  have B3 : ∀ k : Nat, ∀ Fr3 : Nat → Int64, ∀ hp3 : MH, Tw (ov (ov (ov (ov (ov Γ s (tO 6 (smnR s))) (s + 1) (xJ cJ 512 Ti)) (s + 2) (xJ cJ 544 Co)) (s + 3) (xJ cJ 32 Fr3)) (s + 4) (xI cI 16 Nu)) hp3 → ∀  (v3_4 : Int), 0 ≤ v3_4 ∧ v3_4 ≤ 16 ∧ (v3_4 ≤ x3) ∧ (rcI Ti Co Fr Fr3 (Int.toNat x1) (Int.toNat x2) (Int.toNat x3) v3_4) → 16 - v3_4 ≤ (k : Int) → Rn (gG D cI cJ cZ cT lo b L xs) mX6_recolour d 3 [(0, .ref s), (1, .int (iv x1)), (2, .int (iv x2)), (3, .int (iv x3)), (4, .int (iv v3_4))] [] hp3 n 0 0 (fun r9 hp1 n1 => n1 = n ∧ r9 = none ∧ ∃ Fr1 : Nat → Int64, Tw (SmS Γ cI cJ s Ti Co Fr1 Nu) hp1 ∧ rcI Ti Co Fr Fr1 (Int.toNat x1) (Int.toNat x2) (Int.toNat x3) x3) := by
    refine lpS _ ?_
    intro k3 ih3 Fr3 hp3 ht3 v3_4 hf3 hm3
    obtain ⟨hf3_0, hf3_1, hf3_2, ha3_3⟩ := hf3
    refine r_iload (pc := 3) dX6_recolour_3 rfl ?_
    refine r_iload_n (pc := 5) dX6_recolour_5 (i := 3) rfl rfl ?_
    refine t_icmp_ge (pc := 6) (tgt := 115) dX6_recolour_6 (by decide) (by omega) (by omega) (fun c6 => ?_) (fun c6 => ?_)
    · exact r_vret (pc := 115) dX6_recolour_115 rfl ⟨rfl, rfl, Fr3, ht3, by have h9 := (by assumption : rcI Ti Co Fr Fr3 (Int.toNat x1) (Int.toNat x2) (Int.toNat x3) v3_4); rw [show v3_4 = x3 by omega] at h9; exact h9⟩
    · refine r_iload_n (pc := 9) dX6_recolour_9 (i := 2) rfl rfl ?_
      refine r_iload (pc := 10) dX6_recolour_10 rfl ?_
      refine r_iadd (pc := 12) (v := iv (x2 + v3_4)) dX6_recolour_12 (iv_add _ _) ?_
      refine r_bipush (pc := 13) (v := iv 16) dX6_recolour_13 (by decide) ?_
      refine r_imul (pc := 15) (v := iv ((x2 + v3_4) * 16)) dX6_recolour_15 (iv_mul _ _) ?_
      refine r_istore (pc := 16) (lv' := [(5, .int (iv ((x2 + v3_4) * 16))), (0, .ref s), (1, .int (iv x1)), (2, .int (iv x2)), (3, .int (iv x3)), (4, .int (iv v3_4))]) dX6_recolour_16 (by decide) rfl ?_
      refine r_ldc2 (pc := 18) (v := 3) dX6_recolour_18 kX6_97 ?_
      have hk18 : (3 : Int64).toInt = 3 := by decide
      refine r_aload_n (pc := 21) dX6_recolour_21 (i := 0) rfl rfl ?_
      refine t_getE (pc := 22) (.ref (s + 2)) ht3 (rd_ov (by omega) (rd_ov (by omega) (rd_ov (by omega) (rd_ov (by omega) (rd_of (ov_s _ _ _)))))) fX6_15 dX6_recolour_22 rfl ?_
      refine r_iload_n (pc := 25) dX6_recolour_25 (i := 1) rfl rfl ?_
      refine r_iload_n (pc := 26) dX6_recolour_26 (i := 2) rfl rfl ?_
      refine r_iadd (pc := 27) (v := iv (x1 + x2)) dX6_recolour_27 (iv_add _ _) ?_
      refine r_iload (pc := 28) dX6_recolour_28 rfl ?_
      refine r_iadd (pc := 30) (v := iv ((x1 + x2) + v3_4)) dX6_recolour_30 (iv_add _ _) ?_
      refine t_laldX (pc := 31) (t0 := 1) ht3 (rd_ov (by omega) (rd_ov (by omega) (rd_of (ov_s _ _ _)))) dX6_recolour_31 rfl (by decide) (by omega) ?_
      have e31 : Co (Int.toNat ((x1 + x2) + v3_4)) = Co ((Int.toNat x1) + (Int.toNat x2) + (Int.toNat v3_4)) := congrArg Co (by omega)
      refine r_lmul (pc := 32) (v := (3 : Int64) * (Co (Int.toNat ((x1 + x2) + v3_4)))) dX6_recolour_32 rfl ?_
      have hs0 : ((3 : Int64) * (Co (Int.toNat ((x1 + x2) + v3_4)))) = 3 * Co ((Int.toNat x1) + (Int.toNat x2) + (Int.toNat v3_4)) + sm64 (rcT Ti Co (Int.toNat x1) (Int.toNat x2) (Int.toNat v3_4)) (Int.toNat 0) := rc_s0 (by rw [e31])
      refine r_lstore (pc := 33) (lv' := [(6, .long ((3 : Int64) * (Co (Int.toNat ((x1 + x2) + v3_4))))), (5, .int (iv ((x2 + v3_4) * 16))), (0, .ref s), (1, .int (iv x1)), (2, .int (iv x2)), (3, .int (iv x3)), (4, .int (iv v3_4))]) dX6_recolour_33 (by decide) rfl ?_
      refine r_iconst (pc := 35) (v := iv 0) dX6_recolour_35 (by decide) ?_
      refine r_istore (pc := 36) (lv' := [(8, .int (iv 0)), (6, .long ((3 : Int64) * (Co (Int.toNat ((x1 + x2) + v3_4))))), (5, .int (iv ((x2 + v3_4) * 16))), (0, .ref s), (1, .int (iv x1)), (2, .int (iv x2)), (3, .int (iv x3)), (4, .int (iv v3_4))]) dX6_recolour_36 (by decide) rfl ?_
      have B38 : ∀ k : Nat, ∀ hp38 : MH, Tw (ov (ov (ov (ov (ov Γ s (tO 6 (smnR s))) (s + 1) (xJ cJ 512 Ti)) (s + 2) (xJ cJ 544 Co)) (s + 3) (xJ cJ 32 Fr3)) (s + 4) (xI cI 16 Nu)) hp38 → ∀  (v38_8 : Int) (w38_6 : Int64), 0 ≤ v38_8 ∧ v38_8 ≤ 16 ∧ (v38_8 ≤ x3) ∧ (w38_6 = 3 * Co ((Int.toNat x1) + (Int.toNat x2) + (Int.toNat v3_4)) + sm64 (rcT Ti Co (Int.toNat x1) (Int.toNat x2) (Int.toNat v3_4)) (Int.toNat v38_8)) → 16 - v38_8 ≤ (k : Int) → Rn (gG D cI cJ cZ cT lo b L xs) mX6_recolour d 38 [(0, .ref s), (1, .int (iv x1)), (2, .int (iv x2)), (3, .int (iv x3)), (4, .int (iv v3_4)), (5, .int (iv ((x2 + v3_4) * 16))), (6, .long w38_6), (8, .int (iv v38_8))] [] hp38 n 0 0 (fun r9 hp1 n1 => n1 = n ∧ r9 = none ∧ ∃ Fr1 : Nat → Int64, Tw (SmS Γ cI cJ s Ti Co Fr1 Nu) hp1 ∧ rcI Ti Co Fr Fr1 (Int.toNat x1) (Int.toNat x2) (Int.toNat x3) x3) := by
        refine lpS _ ?_
        intro k38 ih38 hp38 ht38 v38_8 w38_6 hf38 hm38
        obtain ⟨hf38_0, hf38_1, hf38_2, ha38_3⟩ := hf38
        refine r_iload (pc := 38) dX6_recolour_38 rfl ?_
        refine r_iload_n (pc := 40) dX6_recolour_40 (i := 3) rfl rfl ?_
        refine t_icmp_ge (pc := 41) (tgt := 95) dX6_recolour_41 (by decide) (by omega) (by omega) (fun c41 => ?_) (fun c41 => ?_)
        · refine r_aload_n (pc := 95) dX6_recolour_95 (i := 0) rfl rfl ?_
          refine t_getE (pc := 96) (.ref (s + 3)) ht38 (rd_ov (by omega) (rd_ov (by omega) (rd_ov (by omega) (rd_ov (by omega) (rd_of (ov_s _ _ _)))))) fX6_18 dX6_recolour_96 rfl ?_
          refine r_iload_n (pc := 99) dX6_recolour_99 (i := 2) rfl rfl ?_
          refine r_iload (pc := 100) dX6_recolour_100 rfl ?_
          refine r_iadd (pc := 102) (v := iv (x2 + v3_4)) dX6_recolour_102 (iv_add _ _) ?_
          refine r_lload (pc := 103) dX6_recolour_103 rfl ?_
          refine t_callSJ (pc := 105) (as := [.long w38_6]) (st := [.int (iv (x2 + v3_4)), .ref (s + 3)]) kX6_70 dX6_recolour_105 (c_X6_scramblex (d := d - 1) (j0 := w38_6) (by omega) ht38) rfl (by omega) (Nat.le_of_ble_eq_true rfl) rfl (fun hp2 y1 ht3 by1 => ?_)
          subst by1
          refine t_lastX (pc := 108) (t0 := 1) ht3 (eq_ov (by omega) (ov_s _ _ _)) dX6_recolour_108 rfl (by decide) (by omega) (fun hp4 ht5 => ?_)
          rw [ov_in2 (by omega) ] at ht5
          have hrc : rcI Ti Co Fr (fuj Fr3 (Int.toNat (x2 + v3_4)) (scR w38_6)) (Int.toNat x1) (Int.toNat x2) (Int.toNat x3) (v3_4 + 1) := rci_up (by assumption : rcI Ti Co Fr Fr3 (Int.toNat x1) (Int.toNat x2) (Int.toNat x3) v3_4) (by omega) (by omega) (by
            have h9 := (by assumption : w38_6 = 3 * Co ((Int.toNat x1) + (Int.toNat x2) + (Int.toNat v3_4)) + sm64 (rcT Ti Co (Int.toNat x1) (Int.toNat x2) (Int.toNat v3_4)) (Int.toNat v38_8))
            rw [show (Int.toNat v38_8) = (Int.toNat x3) by omega] at h9
            exact congrArg scR h9)
          refine r_iinc (pc := 109) (v := iv (v3_4 + 1)) (lv' := [(4, .int (iv (v3_4 + 1))), (0, .ref s), (1, .int (iv x1)), (2, .int (iv x2)), (3, .int (iv x3)), (5, .int (iv ((x2 + v3_4) * 16))), (6, .long w38_6), (8, .int (iv v38_8))]) dX6_recolour_109 rfl (iv_add _ _) (by decide) rfl ?_
          refine r_goto (pc := 112) (tgt := 3) dX6_recolour_112 (by decide) ?_
          refine Rn.pick (lv' := [(0, .ref s), (1, .int (iv x1)), (2, .int (iv x2)), (3, .int (iv x3)), (4, .int (iv (v3_4 + 1)))]) [1, 2, 3, 4, 0] rfl ?_
          exact ih3 (Int.toNat (16 - (v3_4 + 1))) (by omega) (fuj Fr3 (Int.toNat (x2 + v3_4)) (scR w38_6)) _ ht5 (v3_4 + 1) ⟨by omega, by omega, by omega, by (first | exact hrc | exact rci_0)⟩ (by omega)
        · refine r_aload_n (pc := 44) dX6_recolour_44 (i := 0) rfl rfl ?_
          refine t_getE (pc := 45) (.ref (s + 1)) ht38 (rd_ov (by omega) (rd_ov (by omega) (rd_ov (by omega) (rd_ov (by omega) (rd_of (ov_s _ _ _)))))) fX6_9 dX6_recolour_45 rfl ?_
          refine r_iload (pc := 48) dX6_recolour_48 rfl ?_
          refine r_iload (pc := 50) dX6_recolour_50 rfl ?_
          refine r_iadd (pc := 52) (v := iv (((x2 + v3_4) * 16) + v38_8)) dX6_recolour_52 (iv_add _ _) ?_
          refine t_laldX (pc := 53) (t0 := 1) ht38 (rd_ov (by omega) (rd_ov (by omega) (rd_ov (by omega) (rd_of (ov_s _ _ _))))) dX6_recolour_53 rfl (by decide) (by omega) ?_
          have e53 : Ti (Int.toNat (((x2 + v3_4) * 16) + v38_8)) = Ti (16 * ((Int.toNat x2) + (Int.toNat v3_4)) + (Int.toNat v38_8)) := congrArg Ti (by omega)
          refine r_lconst (pc := 54) (v := 0) dX6_recolour_54 (by decide) ?_
          have hk54 : (0 : Int64).toInt = 0 := by decide
          refine r_lcmp (pc := 55) dX6_recolour_55 ?_
          refine t_lif_eq (pc := 56) (tgt := 89) dX6_recolour_56 (by decide) (fun c56 => ?_) (fun c56 => ?_)
          · have hsu : w38_6 = 3 * Co ((Int.toNat x1) + (Int.toNat x2) + (Int.toNat v3_4)) + sm64 (rcT Ti Co (Int.toNat x1) (Int.toNat x2) (Int.toNat v3_4)) (Int.toNat (v38_8 + 1)) := rc_sz (by assumption : w38_6 = 3 * Co ((Int.toNat x1) + (Int.toNat x2) + (Int.toNat v3_4)) + sm64 (rcT Ti Co (Int.toNat x1) (Int.toNat x2) (Int.toNat v3_4)) (Int.toNat v38_8)) (by omega) (by rw [← e53]; exact Int64.toInt_inj.mp c56)
            refine r_iinc (pc := 89) (v := iv (v38_8 + 1)) (lv' := [(8, .int (iv (v38_8 + 1))), (0, .ref s), (1, .int (iv x1)), (2, .int (iv x2)), (3, .int (iv x3)), (4, .int (iv v3_4)), (5, .int (iv ((x2 + v3_4) * 16))), (6, .long w38_6)]) dX6_recolour_89 rfl (iv_add _ _) (by decide) rfl ?_
            refine r_goto (pc := 92) (tgt := 38) dX6_recolour_92 (by decide) ?_
            refine Rn.pick (lv' := [(0, .ref s), (1, .int (iv x1)), (2, .int (iv x2)), (3, .int (iv x3)), (4, .int (iv v3_4)), (5, .int (iv ((x2 + v3_4) * 16))), (6, .long w38_6), (8, .int (iv (v38_8 + 1)))]) [1, 2, 3, 4, 5, 6, 7, 0] rfl ?_
            exact ih38 (Int.toNat (16 - (v38_8 + 1))) (by omega) _ ht38 (v38_8 + 1) w38_6 ⟨by omega, by omega, by omega, by (first | exact hsu | exact hs0)⟩ (by omega)
          · have hnz : Ti (16 * ((Int.toNat x2) + (Int.toNat v3_4)) + (Int.toNat v38_8)) ≠ 0 := fun h9 => c56 (congrArg Int64.toInt (e53.trans h9))
            refine r_lload (pc := 59) dX6_recolour_59 rfl ?_
            refine r_aload_n (pc := 61) dX6_recolour_61 (i := 0) rfl rfl ?_
            refine t_getE (pc := 62) (.ref (s + 1)) ht38 (rd_ov (by omega) (rd_ov (by omega) (rd_ov (by omega) (rd_ov (by omega) (rd_of (ov_s _ _ _)))))) fX6_9 dX6_recolour_62 rfl ?_
            refine r_iload (pc := 65) dX6_recolour_65 rfl ?_
            refine r_iload (pc := 67) dX6_recolour_67 rfl ?_
            refine r_iadd (pc := 69) (v := iv (((x2 + v3_4) * 16) + v38_8)) dX6_recolour_69 (iv_add _ _) ?_
            refine t_laldX (pc := 70) (t0 := 1) ht38 (rd_ov (by omega) (rd_ov (by omega) (rd_ov (by omega) (rd_of (ov_s _ _ _))))) dX6_recolour_70 rfl (by decide) (by omega) ?_
            refine r_aload_n (pc := 71) dX6_recolour_71 (i := 0) rfl rfl ?_
            refine t_getE (pc := 72) (.ref (s + 2)) ht38 (rd_ov (by omega) (rd_ov (by omega) (rd_ov (by omega) (rd_ov (by omega) (rd_of (ov_s _ _ _)))))) fX6_15 dX6_recolour_72 rfl ?_
            refine r_iload_n (pc := 75) dX6_recolour_75 (i := 1) rfl rfl ?_
            refine r_iload_n (pc := 76) dX6_recolour_76 (i := 2) rfl rfl ?_
            refine r_iadd (pc := 77) (v := iv (x1 + x2)) dX6_recolour_77 (iv_add _ _) ?_
            refine r_iload (pc := 78) dX6_recolour_78 rfl ?_
            refine r_iadd (pc := 80) (v := iv ((x1 + x2) + v38_8)) dX6_recolour_80 (iv_add _ _) ?_
            refine t_laldX (pc := 81) (t0 := 1) ht38 (rd_ov (by omega) (rd_ov (by omega) (rd_of (ov_s _ _ _)))) dX6_recolour_81 rfl (by decide) (by omega) ?_
            have e81 : Co (Int.toNat ((x1 + x2) + v38_8)) = Co ((Int.toNat x1) + (Int.toNat x2) + (Int.toNat v38_8)) := congrArg Co (by omega)
            refine r_ladd (pc := 82) (v := (Ti (Int.toNat (((x2 + v3_4) * 16) + v38_8))) + (Co (Int.toNat ((x1 + x2) + v38_8)))) dX6_recolour_82 rfl ?_
            refine t_callSJ (pc := 83) (as := [.long ((Ti (Int.toNat (((x2 + v3_4) * 16) + v38_8))) + (Co (Int.toNat ((x1 + x2) + v38_8))))]) (st := [.long w38_6]) kX6_70 dX6_recolour_83 (c_X6_scramblex (d := d - 1) (j0 := (Ti (Int.toNat (((x2 + v3_4) * 16) + v38_8))) + (Co (Int.toNat ((x1 + x2) + v38_8)))) (by omega) ht38) rfl (by omega) (Nat.le_of_ble_eq_true rfl) rfl (fun hp7 y6 ht8 by6 => ?_)
            subst by6
            refine r_ladd (pc := 86) (v := w38_6 + (scR ((Ti (Int.toNat (((x2 + v3_4) * 16) + v38_8))) + (Co (Int.toNat ((x1 + x2) + v38_8)))))) dX6_recolour_86 rfl ?_
            have hsu : (w38_6 + (scR ((Ti (Int.toNat (((x2 + v3_4) * 16) + v38_8))) + (Co (Int.toNat ((x1 + x2) + v38_8)))))) = 3 * Co ((Int.toNat x1) + (Int.toNat x2) + (Int.toNat v3_4)) + sm64 (rcT Ti Co (Int.toNat x1) (Int.toNat x2) (Int.toNat v3_4)) (Int.toNat (v38_8 + 1)) := by
              rw [e53, e81]
              exact rc_sn (by assumption : w38_6 = 3 * Co ((Int.toNat x1) + (Int.toNat x2) + (Int.toNat v3_4)) + sm64 (rcT Ti Co (Int.toNat x1) (Int.toNat x2) (Int.toNat v3_4)) (Int.toNat v38_8)) (by omega) hnz
            refine r_lstore (pc := 87) (lv' := [(6, .long (w38_6 + (scR ((Ti (Int.toNat (((x2 + v3_4) * 16) + v38_8))) + (Co (Int.toNat ((x1 + x2) + v38_8))))))), (0, .ref s), (1, .int (iv x1)), (2, .int (iv x2)), (3, .int (iv x3)), (4, .int (iv v3_4)), (5, .int (iv ((x2 + v3_4) * 16))), (8, .int (iv v38_8))]) dX6_recolour_87 (by decide) rfl ?_
            refine r_iinc (pc := 89) (v := iv (v38_8 + 1)) (lv' := [(8, .int (iv (v38_8 + 1))), (6, .long (w38_6 + (scR ((Ti (Int.toNat (((x2 + v3_4) * 16) + v38_8))) + (Co (Int.toNat ((x1 + x2) + v38_8))))))), (0, .ref s), (1, .int (iv x1)), (2, .int (iv x2)), (3, .int (iv x3)), (4, .int (iv v3_4)), (5, .int (iv ((x2 + v3_4) * 16)))]) dX6_recolour_89 rfl (iv_add _ _) (by decide) rfl ?_
            refine r_goto (pc := 92) (tgt := 38) dX6_recolour_92 (by decide) ?_
            refine Rn.pick (lv' := [(0, .ref s), (1, .int (iv x1)), (2, .int (iv x2)), (3, .int (iv x3)), (4, .int (iv v3_4)), (5, .int (iv ((x2 + v3_4) * 16))), (6, .long (w38_6 + (scR ((Ti (Int.toNat (((x2 + v3_4) * 16) + v38_8))) + (Co (Int.toNat ((x1 + x2) + v38_8))))))), (8, .int (iv (v38_8 + 1)))]) [2, 3, 4, 5, 6, 7, 1, 0] rfl ?_
            exact ih38 (Int.toNat (16 - (v38_8 + 1))) (by omega) _ ht8 (v38_8 + 1) (w38_6 + (scR ((Ti (Int.toNat (((x2 + v3_4) * 16) + v38_8))) + (Co (Int.toNat ((x1 + x2) + v38_8)))))) ⟨by omega, by omega, by omega, by (first | exact hsu | exact hs0)⟩ (by omega)
      refine Rn.pick (lv' := [(0, .ref s), (1, .int (iv x1)), (2, .int (iv x2)), (3, .int (iv x3)), (4, .int (iv v3_4)), (5, .int (iv ((x2 + v3_4) * 16))), (6, .long ((3 : Int64) * (Co (Int.toNat ((x1 + x2) + v3_4))))), (8, .int (iv 0))]) [3, 4, 5, 6, 7, 2, 1, 0] rfl ?_
      exact B38 (Int.toNat (16 - 0)) _ ht3 0 ((3 : Int64) * (Co (Int.toNat ((x1 + x2) + v3_4)))) ⟨by omega, by omega, by omega, by (first | exact hsu | exact hs0)⟩ (by omega)
  refine Rn.pick (lv' := [(0, .ref s), (1, .int (iv x1)), (2, .int (iv x2)), (3, .int (iv x3)), (4, .int (iv 0))]) [1, 2, 3, 4, 0] rfl ?_
  exact B3 (Int.toNat (16 - 0)) Fr _ t0 0 ⟨by omega, by omega, by omega, by (first | exact hrc | exact rci_0)⟩ (by omega)
