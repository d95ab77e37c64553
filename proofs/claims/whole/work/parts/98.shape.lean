set_option maxHeartbeats 4000000 in
set_option maxRecDepth 100000 in
theorem t_J6_bitCount_0f7a4 {D : va_G} {cI cJ cZ cT : ClassId} {lo b L : Nat} {xs : Nat → Int32} {hp : MH} {n d : Nat} {Γ : TG}  {x0 : Int} (hd0 : 0 ≤ d)  (ht : Tw Γ hp) (hx0 : (-2147483648) ≤ x0 ∧ x0 ≤ 2147483647) : Mt (gG D cI cJ cZ cT lo b L xs) mJ6_bitCount_0f7a4 d 0 0 [.int (iv x0)] hp n (pR Γ n 0 63) := by
  refine Mt.of rfl (Nat.le_of_ble_eq_true rfl) ?_
  refine Rn.pick (lv' := [(0, .int (iv x0))]) [0] rfl ?_
  refine r_iload_n (pc := 0) dJ6_bitCount_0f7a4_0 (i := 0) rfl rfl ?_
  refine r_iload_n (pc := 1) dJ6_bitCount_0f7a4_1 (i := 0) rfl rfl ?_
  refine r_iconst (pc := 2) (v := iv 1) dJ6_bitCount_0f7a4_2 (by decide) ?_
  obtain ⟨z1, hz1, bz1⟩ := any_i (((iv x0).toUInt32 >>> ((iv 1).toUInt32 &&& Int32.toUInt32 31)).toInt32)
  refine r_iushr (pc := 3) (v := iv z1) dJ6_bitCount_0f7a4_3 hz1 ?_
  refine r_ldcw (pc := 4) (v := iv 1431655765) dJ6_bitCount_0f7a4_4 kJ6_265 ?_
  obtain ⟨z2, hz2, bz2⟩ := and_r z1 1431655765 (by omega) (by omega)
  refine r_iand (pc := 7) (v := iv z2) dJ6_bitCount_0f7a4_7 hz2 ?_
  obtain ⟨z3, hz3, bz3⟩ := any_i (iv x0 - iv z2)
  refine r_isub (pc := 8) (v := iv z3) dJ6_bitCount_0f7a4_8 hz3 ?_
  refine r_istore_n (pc := 9) (lv' := [(0, .int (iv z3))]) dJ6_bitCount_0f7a4_9 (i := 0) rfl (by decide) rfl ?_
  refine r_iload_n (pc := 10) dJ6_bitCount_0f7a4_10 (i := 0) rfl rfl ?_
  refine r_ldcw (pc := 11) (v := iv 858993459) dJ6_bitCount_0f7a4_11 kJ6_266 ?_
  obtain ⟨z4, hz4, bz4⟩ := and_r z3 858993459 (by omega) (by omega)
  refine r_iand (pc := 14) (v := iv z4) dJ6_bitCount_0f7a4_14 hz4 ?_
  refine r_iload_n (pc := 15) dJ6_bitCount_0f7a4_15 (i := 0) rfl rfl ?_
  refine r_iconst (pc := 16) (v := iv 2) dJ6_bitCount_0f7a4_16 (by decide) ?_
  obtain ⟨z5, hz5, bz5⟩ := any_i (((iv z3).toUInt32 >>> ((iv 2).toUInt32 &&& Int32.toUInt32 31)).toInt32)
  refine r_iushr (pc := 17) (v := iv z5) dJ6_bitCount_0f7a4_17 hz5 ?_
  refine r_ldcw (pc := 18) (v := iv 858993459) dJ6_bitCount_0f7a4_18 kJ6_266 ?_
  obtain ⟨z6, hz6, bz6⟩ := and_r z5 858993459 (by omega) (by omega)
  refine r_iand (pc := 21) (v := iv z6) dJ6_bitCount_0f7a4_21 hz6 ?_
  refine r_iadd (pc := 22) (v := iv (z4 + z6)) dJ6_bitCount_0f7a4_22 (iv_add _ _) ?_
  refine r_istore_n (pc := 23) (lv' := [(0, .int (iv (z4 + z6)))]) dJ6_bitCount_0f7a4_23 (i := 0) rfl (by decide) rfl ?_
  refine r_iload_n (pc := 24) dJ6_bitCount_0f7a4_24 (i := 0) rfl rfl ?_
  refine r_iload_n (pc := 25) dJ6_bitCount_0f7a4_25 (i := 0) rfl rfl ?_
  refine r_iconst (pc := 26) (v := iv 4) dJ6_bitCount_0f7a4_26 (by decide) ?_
  obtain ⟨z7, hz7, bz7⟩ := any_i (((iv (z4 + z6)).toUInt32 >>> ((iv 4).toUInt32 &&& Int32.toUInt32 31)).toInt32)
  refine r_iushr (pc := 27) (v := iv z7) dJ6_bitCount_0f7a4_27 hz7 ?_
  obtain ⟨z8, hz8, bz8⟩ := any_i (iv (z4 + z6) + iv z7)
  refine r_iadd (pc := 28) (v := iv z8) dJ6_bitCount_0f7a4_28 hz8 ?_
  refine r_ldcw (pc := 29) (v := iv 252645135) dJ6_bitCount_0f7a4_29 kJ6_267 ?_
  obtain ⟨z9, hz9, bz9⟩ := and_r z8 252645135 (by omega) (by omega)
  refine r_iand (pc := 32) (v := iv z9) dJ6_bitCount_0f7a4_32 hz9 ?_
  refine r_istore_n (pc := 33) (lv' := [(0, .int (iv z9))]) dJ6_bitCount_0f7a4_33 (i := 0) rfl (by decide) rfl ?_
  refine r_iload_n (pc := 34) dJ6_bitCount_0f7a4_34 (i := 0) rfl rfl ?_
  refine r_iload_n (pc := 35) dJ6_bitCount_0f7a4_35 (i := 0) rfl rfl ?_
  refine r_bipush (pc := 36) (v := iv 8) dJ6_bitCount_0f7a4_36 (by decide) ?_
  obtain ⟨z10, hz10, bz10⟩ := any_i (((iv z9).toUInt32 >>> ((iv 8).toUInt32 &&& Int32.toUInt32 31)).toInt32)
  refine r_iushr (pc := 38) (v := iv z10) dJ6_bitCount_0f7a4_38 hz10 ?_
  obtain ⟨z11, hz11, bz11⟩ := any_i (iv z9 + iv z10)
  refine r_iadd (pc := 39) (v := iv z11) dJ6_bitCount_0f7a4_39 hz11 ?_
  refine r_istore_n (pc := 40) (lv' := [(0, .int (iv z11))]) dJ6_bitCount_0f7a4_40 (i := 0) rfl (by decide) rfl ?_
  refine r_iload_n (pc := 41) dJ6_bitCount_0f7a4_41 (i := 0) rfl rfl ?_
  refine r_iload_n (pc := 42) dJ6_bitCount_0f7a4_42 (i := 0) rfl rfl ?_
  refine r_bipush (pc := 43) (v := iv 16) dJ6_bitCount_0f7a4_43 (by decide) ?_
  obtain ⟨z12, hz12, bz12⟩ := any_i (((iv z11).toUInt32 >>> ((iv 16).toUInt32 &&& Int32.toUInt32 31)).toInt32)
  refine r_iushr (pc := 45) (v := iv z12) dJ6_bitCount_0f7a4_45 hz12 ?_
  obtain ⟨z13, hz13, bz13⟩ := any_i (iv z11 + iv z12)
  refine r_iadd (pc := 46) (v := iv z13) dJ6_bitCount_0f7a4_46 hz13 ?_
  refine r_istore_n (pc := 47) (lv' := [(0, .int (iv z13))]) dJ6_bitCount_0f7a4_47 (i := 0) rfl (by decide) rfl ?_
  refine r_iload_n (pc := 48) dJ6_bitCount_0f7a4_48 (i := 0) rfl rfl ?_
  refine r_bipush (pc := 49) (v := iv 63) dJ6_bitCount_0f7a4_49 (by decide) ?_
  obtain ⟨z14, hz14, bz14⟩ := and_r z13 63 (by omega) (by omega)
  refine r_iand (pc := 51) (v := iv z14) dJ6_bitCount_0f7a4_51 hz14 ?_
  exact r_iret (pc := 52) dJ6_bitCount_0f7a4_52 rfl ⟨rfl, ht, _, rfl, by omega, by omega⟩
set_option maxHeartbeats 4000000 in
set_option maxRecDepth 100000 in
theorem t_X8_lowest {D : va_G} {cI cJ cZ cT : ClassId} {lo b L : Nat} {xs : Nat → Int32} {hp : MH} {n d : Nat} {Γ : TG}  {x0 : Int} (hd0 : 1 ≤ d)  (ht : Tw Γ hp) (hx0 : (-2147483648) ≤ x0 ∧ x0 ≤ 2147483647) : Mt (gG D cI cJ cZ cT lo b L xs) mX8_lowest d 0 0 [.int (iv x0)] hp n (pR Γ n 0 63) := by
  refine Mt.of rfl (Nat.le_of_ble_eq_true rfl) ?_
  refine Rn.pick (lv' := [(0, .int (iv x0))]) [0] rfl ?_
  refine r_iload_n (pc := 0) dX8_lowest_0 (i := 0) rfl rfl ?_
  refine r_iload_n (pc := 1) dX8_lowest_1 (i := 0) rfl rfl ?_
  obtain ⟨z1, hz1, bz1⟩ := any_i (- iv x0)
  refine r_ineg (pc := 2) (v := iv z1) dX8_lowest_2 hz1 ?_
  obtain ⟨z2, hz2, bz2⟩ := any_i (iv x0 &&& iv z1)
  refine r_iand (pc := 3) (v := iv z2) dX8_lowest_3 hz2 ?_
  refine r_iconst (pc := 4) (v := iv 1) dX8_lowest_4 (by decide) ?_
  obtain ⟨z3, hz3, bz3⟩ := any_i (iv z2 - iv 1)
  refine r_isub (pc := 5) (v := iv z3) dX8_lowest_5 hz3 ?_
  refine t_callSR (pc := 6) (as := [.int (iv z3)]) (st := []) kX8_15 dX8_lowest_6 (t_J6_bitCount_0f7a4 (d := d - 1) (x0 := z3) (by omega)   ht (by omega) ) rfl (by omega) (Nat.le_of_ble_eq_true rfl) rfl (fun hp4 y6 ht5 by6 => ?_)
  exact r_iret (pc := 9) dX8_lowest_9 rfl ⟨rfl, ht5, _, rfl, by omega, by omega⟩
set_option maxHeartbeats 4000000 in
set_option maxRecDepth 100000 in
theorem t_X8_spread {D : va_G} {cI cJ cZ cT : ClassId} {lo b L : Nat} {xs : Nat → Int32} {hp : MH} {n d : Nat} {Γ : TG} {rA rL : Nat} {x1 : Int} (hd0 : 0 ≤ d) (hrA : rd Γ rA (tI cI rL (rg 0 65535))) (hrL : rL ≤ 16) (ht : Tw Γ hp) (hx1 : (-2147483648) ≤ x1 ∧ x1 ≤ 2147483647) : Mt (gG D cI cJ cZ cT lo b L xs) mX8_spread d 0 0 [.ref rA, .int (iv x1)] hp n (pR Γ n 0 65535) := by
  refine Mt.of rfl (Nat.le_of_ble_eq_true rfl) ?_
  refine Rn.pick (lv' := [(0, .ref rA), (1, .int (iv x1))]) [0, 1] rfl ?_
  refine r_iconst (pc := 0) (v := iv 0) dX8_spread_0 (by decide) ?_
  refine r_istore_n (pc := 1) (lv' := [(2, .int (iv 0)), (0, .ref rA), (1, .int (iv x1))]) dX8_spread_1 (i := 2) rfl (by decide) rfl ?_
  refine r_iconst (pc := 2) (v := iv 0) dX8_spread_2 (by decide) ?_
  refine r_istore_n (pc := 3) (lv' := [(3, .int (iv 0)), (2, .int (iv 0)), (0, .ref rA), (1, .int (iv x1))]) dX8_spread_3 (i := 3) rfl (by decide) rfl ?_
  have B4 : ∀ k : Nat, ∀ hp4 : MH, Tw Γ hp4 → ∀  (v4_2 : Int) (v4_3 : Int), 0 ≤ v4_2 ∧ v4_2 ≤ 65535 ∧ 0 ≤ v4_3 ∧ v4_3 ≤ 16 → 16 - v4_3 ≤ (k : Int) → Rn (gG D cI cJ cZ cT lo b L xs) mX8_spread d 4 [(0, .ref rA), (1, .int (iv x1)), (2, .int (iv v4_2)), (3, .int (iv v4_3))] [] hp4 n 0 0 (pR Γ n 0 65535) := by
    refine lpS _ ?_
    intro k4 ih4 hp4 ht4 v4_2 v4_3 hf4 hm4
    refine r_iload_n (pc := 4) dX8_spread_4 (i := 3) rfl rfl ?_
    refine r_aload_n (pc := 5) dX8_spread_5 (i := 0) rfl rfl ?_
    refine t_lenI (pc := 6) (t0 := 0) ht4 hrA dX8_spread_6 rfl ?_
    refine t_icmp_ge (pc := 7) (tgt := 30) dX8_spread_7 (by decide) (by omega) (by omega) (fun c7 => ?_) (fun c7 => ?_)
    · refine r_iload_n (pc := 30) dX8_spread_30 (i := 2) rfl rfl ?_
      exact r_iret (pc := 31) dX8_spread_31 rfl ⟨rfl, ht4, _, rfl, by omega, by omega⟩
    · refine r_iload_n (pc := 10) dX8_spread_10 (i := 1) rfl rfl ?_
      refine r_iload_n (pc := 11) dX8_spread_11 (i := 3) rfl rfl ?_
      obtain ⟨z1, hz1, bz1⟩ := any_i (iv x1 >>> (iv v4_3 &&& 31))
      refine r_ishr (pc := 12) (v := iv z1) dX8_spread_12 hz1 ?_
      refine r_iconst (pc := 13) (v := iv 1) dX8_spread_13 (by decide) ?_
      obtain ⟨z2, hz2, bz2⟩ := and_r z1 1 (by omega) (by omega)
      refine r_iand (pc := 14) (v := iv z2) dX8_spread_14 hz2 ?_
      have B24 : ∀ hp24 : MH, Tw Γ hp24 → ∀  (v24_2 : Int), 0 ≤ v24_2 ∧ v24_2 ≤ 65535 ∧ v4_2 ≤ v24_2 → Rn (gG D cI cJ cZ cT lo b L xs) mX8_spread d 24 [(0, .ref rA), (1, .int (iv x1)), (2, .int (iv v24_2)), (3, .int (iv v4_3))] [] hp24 n 0 0 (pR Γ n 0 65535) := by
        intro hp24 ht24 v24_2 hf24
        refine r_iinc (pc := 24) (v := iv (v4_3 + 1)) (lv' := [(3, .int (iv (v4_3 + 1))), (0, .ref rA), (1, .int (iv x1)), (2, .int (iv v24_2))]) dX8_spread_24 rfl (iv_add _ _) (by decide) rfl ?_
        refine r_goto (pc := 27) (tgt := 4) dX8_spread_27 (by decide) ?_
        refine Rn.pick (lv' := [(0, .ref rA), (1, .int (iv x1)), (2, .int (iv v24_2)), (3, .int (iv (v4_3 + 1)))]) [1, 2, 3, 0] rfl ?_
        exact ih4 (Int.toNat (16 - (v4_3 + 1))) (by omega) _ ht24 v24_2 (v4_3 + 1) ⟨by omega, by omega, by omega, by omega⟩ (by omega)
      refine t_if_eq (pc := 15) (tgt := 24) dX8_spread_15 (by decide) (by omega) (fun c15 => ?_) (fun c15 => ?_)
      · refine Rn.pick (lv' := [(0, .ref rA), (1, .int (iv x1)), (2, .int (iv v4_2)), (3, .int (iv v4_3))]) [0, 1, 2, 3] rfl ?_
        exact B24 _ ht4 v4_2 ⟨by omega, by omega, by omega⟩
      · refine r_iload_n (pc := 18) dX8_spread_18 (i := 2) rfl rfl ?_
        refine r_aload_n (pc := 19) dX8_spread_19 (i := 0) rfl rfl ?_
        refine r_iload_n (pc := 20) dX8_spread_20 (i := 3) rfl rfl ?_
        refine t_ialdR (pc := 21) (t0 := 0) ht4 hrA dX8_spread_21 rfl (by omega) (by omega) (fun y3 by3 => ?_)
        obtain ⟨z4, hz4, bz4⟩ := or_2 16 v4_2 y3 (by omega) (by omega) (by decide)
        refine r_ior (pc := 22) (v := iv z4) dX8_spread_22 hz4 ?_
        refine r_istore_n (pc := 23) (lv' := [(2, .int (iv z4)), (0, .ref rA), (1, .int (iv x1)), (3, .int (iv v4_3))]) dX8_spread_23 (i := 2) rfl (by decide) rfl ?_
        refine Rn.pick (lv' := [(0, .ref rA), (1, .int (iv x1)), (2, .int (iv z4)), (3, .int (iv v4_3))]) [1, 2, 0, 3] rfl ?_
        exact B24 _ ht4 z4 ⟨by omega, by omega, by omega⟩
  refine Rn.pick (lv' := [(0, .ref rA), (1, .int (iv x1)), (2, .int (iv 0)), (3, .int (iv 0))]) [2, 3, 1, 0] rfl ?_
  exact B4 (Int.toNat (16 - 0)) _ ht 0 0 ⟨by omega, by omega, by omega, by omega⟩ (by omega)
set_option maxHeartbeats 4000000 in
set_option maxRecDepth 100000 in
theorem t_X8_reach {D : va_G} {cI cJ cZ cT : ClassId} {lo b L : Nat} {xs : Nat → Int32} {hp : MH} {n d : Nat} {Γ : TG} {rA rL : Nat} {x1 x2 : Int} (hd0 : 1 ≤ d) (hrA : rd Γ rA (tI cI rL (rg 0 65535))) (hrL : rL ≤ 16) (ht : Tw Γ hp) (hx1 : 0 ≤ x1 ∧ x1 ≤ 65535) (hx2 : 0 ≤ x2 ∧ x2 ≤ 65535) : Mt (gG D cI cJ cZ cT lo b L xs) mX8_reach d 0 0 [.ref rA, .int (iv x1), .int (iv x2)] hp n (pR Γ n 0 65535) := by
  refine Mt.of rfl (Nat.le_of_ble_eq_true rfl) ?_
  refine Rn.pick (lv' := [(0, .ref rA), (1, .int (iv x1)), (2, .int (iv x2))]) [0, 1, 2] rfl ?_
  refine r_iload_n (pc := 0) dX8_reach_0 (i := 1) rfl rfl ?_
  refine r_iload_n (pc := 1) dX8_reach_1 (i := 2) rfl rfl ?_
  obtain ⟨z1, hz1, bz1⟩ := and_2 x1 x2 (by omega) (by omega)
  refine r_iand (pc := 2) (v := iv z1) dX8_reach_2 hz1 ?_
  refine r_istore_n (pc := 3) (lv' := [(3, .int (iv z1)), (0, .ref rA), (1, .int (iv x1)), (2, .int (iv x2))]) dX8_reach_3 (i := 3) rfl (by decide) rfl ?_
  refine r_iload_n (pc := 4) dX8_reach_4 (i := 3) rfl rfl ?_
  refine r_istore (pc := 5) (lv' := [(4, .int (iv z1)), (3, .int (iv z1)), (0, .ref rA), (1, .int (iv x1)), (2, .int (iv x2))]) dX8_reach_5 (by decide) rfl ?_
  refine r_iconst (pc := 7) (v := iv 0) dX8_reach_7 (by decide) ?_
  refine r_istore (pc := 8) (lv' := [(5, .int (iv 0)), (4, .int (iv z1)), (3, .int (iv z1)), (0, .ref rA), (1, .int (iv x1)), (2, .int (iv x2))]) dX8_reach_8 (by decide) rfl ?_
  have B10 : ∀ k : Nat, ∀ hp10 : MH, Tw Γ hp10 → ∀  (v10_3 : Int) (v10_4 : Int) (v10_5 : Int), 0 ≤ v10_3 ∧ v10_3 ≤ 65535 ∧ z1 ≤ v10_3 ∧ 0 ≤ v10_4 ∧ v10_4 ≤ 65535 ∧ 0 ≤ v10_5 ∧ v10_5 ≤ 16 → 16 - v10_5 ≤ (k : Int) → Rn (gG D cI cJ cZ cT lo b L xs) mX8_reach d 10 [(0, .ref rA), (2, .int (iv x2)), (3, .int (iv v10_3)), (4, .int (iv v10_4)), (5, .int (iv v10_5))] [] hp10 n 0 0 (pR Γ n 0 65535) := by
    refine lpS _ ?_
    intro k10 ih10 hp10 ht10 v10_3 v10_4 v10_5 hf10 hm10
    refine r_iload (pc := 10) dX8_reach_10 rfl ?_
    refine r_bipush (pc := 12) (v := iv 16) dX8_reach_12 (by decide) ?_
    have B47 : ∀ hp47 : MH, Tw Γ hp47 → True → Rn (gG D cI cJ cZ cT lo b L xs) mX8_reach d 47 [(3, .int (iv v10_3))] [] hp47 n 0 0 (pR Γ n 0 65535) := by
      intro hp47 ht47 hf47
      refine r_iload_n (pc := 47) dX8_reach_47 (i := 3) rfl rfl ?_
      exact r_iret (pc := 48) dX8_reach_48 rfl ⟨rfl, ht47, _, rfl, by omega, by omega⟩
    refine t_icmp_ge (pc := 14) (tgt := 47) dX8_reach_14 (by decide) (by omega) (by omega) (fun c14 => ?_) (fun c14 => ?_)
    · refine Rn.pick (lv' := [(3, .int (iv v10_3))]) [2] rfl ?_
      exact B47 _ ht10 trivial
    · refine r_iload (pc := 17) dX8_reach_17 rfl ?_
      refine t_if_eq (pc := 19) (tgt := 47) dX8_reach_19 (by decide) (by omega) (fun c19 => ?_) (fun c19 => ?_)
      · refine Rn.pick (lv' := [(3, .int (iv v10_3))]) [2] rfl ?_
        exact B47 _ ht10 trivial
      · refine r_aload_n (pc := 22) dX8_reach_22 (i := 0) rfl rfl ?_
        refine r_iload (pc := 23) dX8_reach_23 rfl ?_
        refine t_callSR (pc := 25) (as := [.ref rA, .int (iv v10_4)]) (st := []) kX8_21 dX8_reach_25 (t_X8_spread (d := d - 1) (rA := rA) (rL := rL) (x1 := v10_4) (by omega)  hrA (by omega) ht10 (by omega) ) rfl (by omega) (Nat.le_of_ble_eq_true rfl) rfl (fun hp2 y4 ht3 by4 => ?_)
        refine r_iload_n (pc := 28) dX8_reach_28 (i := 2) rfl rfl ?_
        obtain ⟨z5, hz5, bz5⟩ := and_2 y4 x2 (by omega) (by omega)
        refine r_iand (pc := 29) (v := iv z5) dX8_reach_29 hz5 ?_
        refine r_iload_n (pc := 30) dX8_reach_30 (i := 3) rfl rfl ?_
        refine r_iconst (pc := 31) (v := iv (-1)) dX8_reach_31 (by decide) ?_
        refine r_ixor (pc := 32) (v := iv (-v10_3 - 1)) dX8_reach_32 (iv_not _) ?_
        obtain ⟨z6, hz6, bz6⟩ := and_l z5 (-v10_3 - 1) (by omega) (by omega)
        refine r_iand (pc := 33) (v := iv z6) dX8_reach_33 hz6 ?_
        refine r_istore (pc := 34) (lv' := [(4, .int (iv z6)), (0, .ref rA), (2, .int (iv x2)), (3, .int (iv v10_3)), (5, .int (iv v10_5))]) dX8_reach_34 (by decide) rfl ?_
        refine r_iload_n (pc := 36) dX8_reach_36 (i := 3) rfl rfl ?_
        refine r_iload (pc := 37) dX8_reach_37 rfl ?_
        obtain ⟨z7, hz7, bz7⟩ := or_2 16 v10_3 z6 (by omega) (by omega) (by decide)
        refine r_ior (pc := 39) (v := iv z7) dX8_reach_39 hz7 ?_
        refine r_istore_n (pc := 40) (lv' := [(3, .int (iv z7)), (4, .int (iv z6)), (0, .ref rA), (2, .int (iv x2)), (5, .int (iv v10_5))]) dX8_reach_40 (i := 3) rfl (by decide) rfl ?_
        refine r_iinc (pc := 41) (v := iv (v10_5 + 1)) (lv' := [(5, .int (iv (v10_5 + 1))), (3, .int (iv z7)), (4, .int (iv z6)), (0, .ref rA), (2, .int (iv x2))]) dX8_reach_41 rfl (iv_add _ _) (by decide) rfl ?_
        refine r_goto (pc := 44) (tgt := 10) dX8_reach_44 (by decide) ?_
        refine Rn.pick (lv' := [(0, .ref rA), (2, .int (iv x2)), (3, .int (iv z7)), (4, .int (iv z6)), (5, .int (iv (v10_5 + 1)))]) [3, 4, 1, 2, 0] rfl ?_
        exact ih10 (Int.toNat (16 - (v10_5 + 1))) (by omega) _ ht3 z7 z6 (v10_5 + 1) ⟨by omega, by omega, by omega, by omega, by omega, by omega, by omega⟩ (by omega)
  refine Rn.pick (lv' := [(0, .ref rA), (2, .int (iv x2)), (3, .int (iv z1)), (4, .int (iv z1)), (5, .int (iv 0))]) [3, 5, 2, 1, 0] rfl ?_
  exact B10 (Int.toNat (16 - 0)) _ ht z1 z1 0 ⟨by omega, by omega, by omega, by omega, by omega, by omega, by omega⟩ (by omega)
set_option maxHeartbeats 4000000 in
set_option maxRecDepth 100000 in
theorem t_X8_far {D : va_G} {cI cJ cZ cT : ClassId} {lo b L : Nat} {xs : Nat → Int32} {hp : MH} {n d : Nat} {Γ : TG} {rA rL : Nat} {x1 : Int} (hd0 : 1 ≤ d) (hrA : rd Γ rA (tI cI rL (rg 0 65535))) (hrL : rL ≤ 16) (ht : Tw Γ hp) (hx1 : 0 ≤ x1 ∧ x1 ≤ 15) : Mt (gG D cI cJ cZ cT lo b L xs) mX8_far d 0 0 [.ref rA, .int (iv x1)] hp n (pR Γ n (-2147483648) 2147483647) := by
  refine Mt.of rfl (Nat.le_of_ble_eq_true rfl) ?_
  refine Rn.pick (lv' := [(0, .ref rA), (1, .int (iv x1))]) [0, 1] rfl ?_
  refine r_iconst (pc := 0) (v := iv 1) dX8_far_0 (by decide) ?_
  refine r_iload_n (pc := 1) dX8_far_1 (i := 1) rfl rfl ?_
  obtain ⟨z1, hz1, bz1⟩ := shl_1 0 15 x1 (by omega) (by omega) (by decide)
  refine r_ishl (pc := 2) (v := iv z1) dX8_far_2 hz1 ?_
  refine r_istore_n (pc := 3) (lv' := [(2, .int (iv z1)), (0, .ref rA), (1, .int (iv x1))]) dX8_far_3 (i := 2) rfl (by decide) rfl ?_
  refine r_iload_n (pc := 4) dX8_far_4 (i := 2) rfl rfl ?_
  refine r_istore_n (pc := 5) (lv' := [(3, .int (iv z1)), (2, .int (iv z1)), (0, .ref rA), (1, .int (iv x1))]) dX8_far_5 (i := 3) rfl (by decide) rfl ?_
  refine r_iconst (pc := 6) (v := iv 0) dX8_far_6 (by decide) ?_
  refine r_istore (pc := 7) (lv' := [(4, .int (iv 0)), (3, .int (iv z1)), (2, .int (iv z1)), (0, .ref rA), (1, .int (iv x1))]) dX8_far_7 (by decide) rfl ?_
  refine r_iconst (pc := 9) (v := iv 0) dX8_far_9 (by decide) ?_
  refine r_istore (pc := 10) (lv' := [(5, .int (iv 0)), (4, .int (iv 0)), (3, .int (iv z1)), (2, .int (iv z1)), (0, .ref rA), (1, .int (iv x1))]) dX8_far_10 (by decide) rfl ?_
  have B12 : ∀ k : Nat, ∀ hp12 : MH, Tw Γ hp12 → ∀  (v12_2 : Int) (v12_3 : Int) (v12_4 : Int) (v12_5 : Int), 1 ≤ v12_2 ∧ v12_2 ≤ 65535 ∧ z1 ≤ v12_2 ∧ 0 ≤ v12_3 ∧ v12_3 ≤ 65535 ∧ (-2147483648) ≤ v12_4 ∧ v12_4 ≤ 2147483647 ∧ 0 ≤ v12_5 ∧ v12_5 ≤ 16 → 16 - v12_5 ≤ (k : Int) → Rn (gG D cI cJ cZ cT lo b L xs) mX8_far d 12 [(0, .ref rA), (2, .int (iv v12_2)), (3, .int (iv v12_3)), (4, .int (iv v12_4)), (5, .int (iv v12_5))] [] hp12 n 0 0 (pR Γ n (-2147483648) 2147483647) := by
    refine lpS _ ?_
    intro k12 ih12 hp12 ht12 v12_2 v12_3 v12_4 v12_5 hf12 hm12
    refine r_iload (pc := 12) dX8_far_12 rfl ?_
    refine r_bipush (pc := 14) (v := iv 16) dX8_far_14 (by decide) ?_
    have B57 : ∀ hp57 : MH, Tw Γ hp57 → True → Rn (gG D cI cJ cZ cT lo b L xs) mX8_far d 57 [(4, .int (iv v12_4))] [] hp57 n 0 0 (pR Γ n (-2147483648) 2147483647) := by
      intro hp57 ht57 hf57
      refine r_iload (pc := 57) dX8_far_57 rfl ?_
      exact r_iret (pc := 59) dX8_far_59 rfl ⟨rfl, ht57, _, rfl, by omega, by omega⟩
    refine t_icmp_ge (pc := 16) (tgt := 57) dX8_far_16 (by decide) (by omega) (by omega) (fun c16 => ?_) (fun c16 => ?_)
    · refine Rn.pick (lv' := [(4, .int (iv v12_4))]) [3] rfl ?_
      exact B57 _ ht12 trivial
    · refine r_iload_n (pc := 19) dX8_far_19 (i := 3) rfl rfl ?_
      refine t_if_eq (pc := 20) (tgt := 57) dX8_far_20 (by decide) (by omega) (fun c20 => ?_) (fun c20 => ?_)
      · refine Rn.pick (lv' := [(4, .int (iv v12_4))]) [3] rfl ?_
        exact B57 _ ht12 trivial
      · refine r_aload_n (pc := 23) dX8_far_23 (i := 0) rfl rfl ?_
        refine r_iload_n (pc := 24) dX8_far_24 (i := 3) rfl rfl ?_
        refine t_callSR (pc := 25) (as := [.ref rA, .int (iv v12_3)]) (st := []) kX8_21 dX8_far_25 (t_X8_spread (d := d - 1) (rA := rA) (rL := rL) (x1 := v12_3) (by omega)  hrA (by omega) ht12 (by omega) ) rfl (by omega) (Nat.le_of_ble_eq_true rfl) rfl (fun hp2 y4 ht3 by4 => ?_)
        refine r_iload_n (pc := 28) dX8_far_28 (i := 2) rfl rfl ?_
        refine r_iconst (pc := 29) (v := iv (-1)) dX8_far_29 (by decide) ?_
        refine r_ixor (pc := 30) (v := iv (-v12_2 - 1)) dX8_far_30 (iv_not _) ?_
        obtain ⟨z5, hz5, bz5⟩ := and_l y4 (-v12_2 - 1) (by omega) (by omega)
        refine r_iand (pc := 31) (v := iv z5) dX8_far_31 hz5 ?_
        refine r_istore_n (pc := 32) (lv' := [(3, .int (iv z5)), (0, .ref rA), (2, .int (iv v12_2)), (4, .int (iv v12_4)), (5, .int (iv v12_5))]) dX8_far_32 (i := 3) rfl (by decide) rfl ?_
        refine r_iload_n (pc := 33) dX8_far_33 (i := 2) rfl rfl ?_
        refine r_iload_n (pc := 34) dX8_far_34 (i := 3) rfl rfl ?_
        obtain ⟨z6, hz6, bz6⟩ := or_2 16 v12_2 z5 (by omega) (by omega) (by decide)
        refine r_ior (pc := 35) (v := iv z6) dX8_far_35 hz6 ?_
        refine r_istore_n (pc := 36) (lv' := [(2, .int (iv z6)), (3, .int (iv z5)), (0, .ref rA), (4, .int (iv v12_4)), (5, .int (iv v12_5))]) dX8_far_36 (i := 2) rfl (by decide) rfl ?_
        refine r_iload (pc := 37) dX8_far_37 rfl ?_
        refine r_iload_n (pc := 39) dX8_far_39 (i := 3) rfl rfl ?_
        have B48 : ∀ hp48 : MH, Tw Γ hp48 → ∀  (u48_1 : Int), 0 ≤ u48_1 ∧ u48_1 ≤ 1 → Rn (gG D cI cJ cZ cT lo b L xs) mX8_far d 48 [(0, .ref rA), (2, .int (iv z6)), (3, .int (iv z5)), (5, .int (iv v12_5))] [.int (iv u48_1), .int (iv v12_4)] hp48 n 0 0 (pR Γ n (-2147483648) 2147483647) := by
          intro hp48 ht48 u48_1 hf48
          obtain ⟨z7, hz7, bz7⟩ := any_i (iv v12_4 + iv u48_1)
          refine r_iadd (pc := 48) (v := iv z7) dX8_far_48 hz7 ?_
          refine r_istore (pc := 49) (lv' := [(4, .int (iv z7)), (0, .ref rA), (2, .int (iv z6)), (3, .int (iv z5)), (5, .int (iv v12_5))]) dX8_far_49 (by decide) rfl ?_
          refine r_iinc (pc := 51) (v := iv (v12_5 + 1)) (lv' := [(5, .int (iv (v12_5 + 1))), (4, .int (iv z7)), (0, .ref rA), (2, .int (iv z6)), (3, .int (iv z5))]) dX8_far_51 rfl (iv_add _ _) (by decide) rfl ?_
          refine r_goto (pc := 54) (tgt := 12) dX8_far_54 (by decide) ?_
          refine Rn.pick (lv' := [(0, .ref rA), (2, .int (iv z6)), (3, .int (iv z5)), (4, .int (iv z7)), (5, .int (iv (v12_5 + 1)))]) [2, 3, 4, 1, 0] rfl ?_
          exact ih12 (Int.toNat (16 - (v12_5 + 1))) (by omega) _ ht48 z6 z5 z7 (v12_5 + 1) ⟨by omega, by omega, by omega, by omega, by omega, by omega, by omega, by omega, by omega⟩ (by omega)
        refine t_if_ne (pc := 40) (tgt := 47) dX8_far_40 (by decide) (by omega) (fun c40 => ?_) (fun c40 => ?_)
        · refine r_iconst (pc := 47) (v := iv 1) dX8_far_47 (by decide) ?_
          refine Rn.pick (lv' := [(0, .ref rA), (2, .int (iv z6)), (3, .int (iv z5)), (5, .int (iv v12_5))]) [2, 0, 1, 4] rfl ?_
          exact B48 _ ht3 1 ⟨by omega, by omega⟩
        · refine r_iconst (pc := 43) (v := iv 0) dX8_far_43 (by decide) ?_
          refine r_goto (pc := 44) (tgt := 48) dX8_far_44 (by decide) ?_
          refine Rn.pick (lv' := [(0, .ref rA), (2, .int (iv z6)), (3, .int (iv z5)), (5, .int (iv v12_5))]) [2, 0, 1, 4] rfl ?_
          exact B48 _ ht3 0 ⟨by omega, by omega⟩
  refine Rn.pick (lv' := [(0, .ref rA), (2, .int (iv z1)), (3, .int (iv z1)), (4, .int (iv 0)), (5, .int (iv 0))]) [4, 3, 2, 1, 0] rfl ?_
  exact B12 (Int.toNat (16 - 0)) _ ht z1 z1 0 0 ⟨by omega, by omega, by omega, by omega, by omega, by omega, by omega, by omega, by omega⟩ (by omega)
set_option maxHeartbeats 4000000 in
set_option maxRecDepth 100000 in
theorem t_X8_distance {D : va_G} {cI cJ cZ cT : ClassId} {lo b L : Nat} {xs : Nat → Int32} {hp : MH} {n d : Nat} {Γ : TG} {rA rL : Nat} {x1 x2 : Int} (hd0 : 1 ≤ d) (hrA : rd Γ rA (tI cI rL (rg 0 65535))) (hrL : rL ≤ 16) (ht : Tw Γ hp) (hx1 : 0 ≤ x1 ∧ x1 ≤ 65535) (hx2 : 0 ≤ x2 ∧ x2 ≤ 15) : Mt (gG D cI cJ cZ cT lo b L xs) mX8_distance d 0 0 [.ref rA, .int (iv x1), .int (iv x2)] hp n (pR Γ n (-1) 16) := by
  refine Mt.of rfl (Nat.le_of_ble_eq_true rfl) ?_
  refine Rn.pick (lv' := [(0, .ref rA), (1, .int (iv x1)), (2, .int (iv x2))]) [0, 1, 2] rfl ?_
  refine r_iload_n (pc := 0) dX8_distance_0 (i := 1) rfl rfl ?_
  refine r_istore_n (pc := 1) (lv' := [(3, .int (iv x1)), (0, .ref rA), (1, .int (iv x1)), (2, .int (iv x2))]) dX8_distance_1 (i := 3) rfl (by decide) rfl ?_
  refine r_iload_n (pc := 2) dX8_distance_2 (i := 1) rfl rfl ?_
  refine r_istore (pc := 3) (lv' := [(4, .int (iv x1)), (3, .int (iv x1)), (0, .ref rA), (1, .int (iv x1)), (2, .int (iv x2))]) dX8_distance_3 (by decide) rfl ?_
  refine r_iconst (pc := 5) (v := iv 0) dX8_distance_5 (by decide) ?_
  refine r_istore (pc := 6) (lv' := [(5, .int (iv 0)), (4, .int (iv x1)), (3, .int (iv x1)), (0, .ref rA), (1, .int (iv x1)), (2, .int (iv x2))]) dX8_distance_6 (by decide) rfl ?_
  have B8 : ∀ k : Nat, ∀ hp8 : MH, Tw Γ hp8 → ∀  (v8_3 : Int) (v8_4 : Int) (v8_5 : Int), 0 ≤ v8_3 ∧ v8_3 ≤ 65535 ∧ x1 ≤ v8_3 ∧ 0 ≤ v8_4 ∧ v8_4 ≤ 65535 ∧ 0 ≤ v8_5 ∧ v8_5 ≤ 17 → 17 - v8_5 ≤ (k : Int) → Rn (gG D cI cJ cZ cT lo b L xs) mX8_distance d 8 [(0, .ref rA), (2, .int (iv x2)), (3, .int (iv v8_3)), (4, .int (iv v8_4)), (5, .int (iv v8_5))] [] hp8 n 0 0 (pR Γ n (-1) 16) := by
    refine lpS _ ?_
    intro k8 ih8 hp8 ht8 v8_3 v8_4 v8_5 hf8 hm8
    refine r_iload (pc := 8) dX8_distance_8 rfl ?_
    refine r_bipush (pc := 10) (v := iv 16) dX8_distance_10 (by decide) ?_
    have B54 : ∀ hp54 : MH, Tw Γ hp54 → True → Rn (gG D cI cJ cZ cT lo b L xs) mX8_distance d 54 [] [] hp54 n 0 0 (pR Γ n (-1) 16) := by
      intro hp54 ht54 hf54
      refine r_iconst (pc := 54) (v := iv (-1)) dX8_distance_54 (by decide) ?_
      exact r_iret (pc := 55) dX8_distance_55 rfl ⟨rfl, ht54, _, rfl, by omega, by omega⟩
    refine t_icmp_gt (pc := 12) (tgt := 54) dX8_distance_12 (by decide) (by omega) (by omega) (fun c12 => ?_) (fun c12 => ?_)
    · refine Rn.pick (lv' := []) [] rfl ?_
      exact B54 _ ht8 trivial
    · refine r_iload (pc := 15) dX8_distance_15 rfl ?_
      refine t_if_eq (pc := 17) (tgt := 54) dX8_distance_17 (by decide) (by omega) (fun c17 => ?_) (fun c17 => ?_)
      · refine Rn.pick (lv' := []) [] rfl ?_
        exact B54 _ ht8 trivial
      · refine r_iload_n (pc := 20) dX8_distance_20 (i := 3) rfl rfl ?_
        refine r_iload_n (pc := 21) dX8_distance_21 (i := 2) rfl rfl ?_
        obtain ⟨z1, hz1, bz1⟩ := shr_x v8_3 x2 (by omega) (by omega)
        refine r_ishr (pc := 22) (v := iv z1) dX8_distance_22 hz1 ?_
        refine r_iconst (pc := 23) (v := iv 1) dX8_distance_23 (by decide) ?_
        obtain ⟨z2, hz2, bz2⟩ := and_2 z1 1 (by omega) (by omega)
        refine r_iand (pc := 24) (v := iv z2) dX8_distance_24 hz2 ?_
        refine t_if_eq (pc := 25) (tgt := 31) dX8_distance_25 (by decide) (by omega) (fun c25 => ?_) (fun c25 => ?_)
        · refine r_aload_n (pc := 31) dX8_distance_31 (i := 0) rfl rfl ?_
          refine r_iload (pc := 32) dX8_distance_32 rfl ?_
          refine t_callSR (pc := 34) (as := [.ref rA, .int (iv v8_4)]) (st := []) kX8_21 dX8_distance_34 (t_X8_spread (d := d - 1) (rA := rA) (rL := rL) (x1 := v8_4) (by omega)  hrA (by omega) ht8 (by omega) ) rfl (by omega) (Nat.le_of_ble_eq_true rfl) rfl (fun hp3 y5 ht4 by5 => ?_)
          refine r_iload_n (pc := 37) dX8_distance_37 (i := 3) rfl rfl ?_
          refine r_iconst (pc := 38) (v := iv (-1)) dX8_distance_38 (by decide) ?_
          refine r_ixor (pc := 39) (v := iv (-v8_3 - 1)) dX8_distance_39 (iv_not _) ?_
          obtain ⟨z6, hz6, bz6⟩ := and_l y5 (-v8_3 - 1) (by omega) (by omega)
          refine r_iand (pc := 40) (v := iv z6) dX8_distance_40 hz6 ?_
          refine r_istore (pc := 41) (lv' := [(4, .int (iv z6)), (0, .ref rA), (2, .int (iv x2)), (3, .int (iv v8_3)), (5, .int (iv v8_5))]) dX8_distance_41 (by decide) rfl ?_
          refine r_iload_n (pc := 43) dX8_distance_43 (i := 3) rfl rfl ?_
          refine r_iload (pc := 44) dX8_distance_44 rfl ?_
          obtain ⟨z7, hz7, bz7⟩ := or_2 16 v8_3 z6 (by omega) (by omega) (by decide)
          refine r_ior (pc := 46) (v := iv z7) dX8_distance_46 hz7 ?_
          refine r_istore_n (pc := 47) (lv' := [(3, .int (iv z7)), (4, .int (iv z6)), (0, .ref rA), (2, .int (iv x2)), (5, .int (iv v8_5))]) dX8_distance_47 (i := 3) rfl (by decide) rfl ?_
          refine r_iinc (pc := 48) (v := iv (v8_5 + 1)) (lv' := [(5, .int (iv (v8_5 + 1))), (3, .int (iv z7)), (4, .int (iv z6)), (0, .ref rA), (2, .int (iv x2))]) dX8_distance_48 rfl (iv_add _ _) (by decide) rfl ?_
          refine r_goto (pc := 51) (tgt := 8) dX8_distance_51 (by decide) ?_
          refine Rn.pick (lv' := [(0, .ref rA), (2, .int (iv x2)), (3, .int (iv z7)), (4, .int (iv z6)), (5, .int (iv (v8_5 + 1)))]) [3, 4, 1, 2, 0] rfl ?_
          exact ih8 (Int.toNat (17 - (v8_5 + 1))) (by omega) _ ht4 z7 z6 (v8_5 + 1) ⟨by omega, by omega, by omega, by omega, by omega, by omega, by omega⟩ (by omega)
        · refine r_iload (pc := 28) dX8_distance_28 rfl ?_
          exact r_iret (pc := 30) dX8_distance_30 rfl ⟨rfl, ht8, _, rfl, by omega, by omega⟩
  refine Rn.pick (lv' := [(0, .ref rA), (2, .int (iv x2)), (3, .int (iv x1)), (4, .int (iv x1)), (5, .int (iv 0))]) [3, 5, 2, 1, 0] rfl ?_
  exact B8 (Int.toNat (17 - 0)) _ ht x1 x1 0 ⟨by omega, by omega, by omega, by omega, by omega, by omega, by omega⟩ (by omega)
set_option maxHeartbeats 4000000 in
set_option maxRecDepth 100000 in
theorem t_X3_allNodes {D : va_G} {cI cJ cZ cT : ClassId} {lo b L : Nat} {xs : Nat → Int32} {hp : MH} {n d : Nat} {Γ : TG} {ga : Nat} {gF : Nat} {gT : Nat} {gW : Nat} {gC : Nat} {gTl : Nat} {gHd : Nat} {gBy : Nat} {gOu : Nat} {gIn : Nat} {gJo : Nat} {gn : Nat} {gm : Nat} {gq : Nat} {gdr : Int} (hd0 : 0 ≤ d) (hg : TyG Γ cI cJ cZ ga gF gT gW gC gTl gHd gBy gOu gIn gJo gn gm gq gdr) (ht : Tw Γ hp)  : Mt (gG D cI cJ cZ cT lo b L xs) mX3_allNodes d 0 0 [.ref ga] hp n (pR Γ n 1 65535) := by
  obtain ⟨hg_O, hg_from, hg_to, hg_weight, hg_cost, hg_tail, hg_head, hg_by, hg_out, hg_in, hg_joined, hg_b⟩ := id hg
  refine Mt.of rfl (Nat.le_of_ble_eq_true rfl) ?_
  refine Rn.pick (lv' := [(0, .ref ga)]) [0] rfl ?_
  refine r_iconst (pc := 0) (v := iv 1) dX3_allNodes_0 (by decide) ?_
  refine r_aload_n (pc := 1) dX3_allNodes_1 (i := 0) rfl rfl ?_
  refine t_getE (pc := 2) (.int (iv (gn : Int))) ht hg_O fX3_49 dX3_allNodes_2 rfl ?_
  obtain ⟨z1, hz1, bz1⟩ := shl_1 1 16 (gn : Int) (by omega) (by omega) (by decide)
  refine r_ishl (pc := 5) (v := iv z1) dX3_allNodes_5 hz1 ?_
  refine r_iconst (pc := 6) (v := iv 1) dX3_allNodes_6 (by decide) ?_
  refine r_isub (pc := 7) (v := iv (z1 - 1)) dX3_allNodes_7 (iv_sub _ _) ?_
  exact r_iret (pc := 8) dX3_allNodes_8 rfl ⟨rfl, ht, _, rfl, by omega, by omega⟩
set_option maxHeartbeats 4000000 in
set_option maxRecDepth 100000 in
theorem t_X3_haveSameEnds {D : va_G} {cI cJ cZ cT : ClassId} {lo b L : Nat} {xs : Nat → Int32} {hp : MH} {n d : Nat} {Γ : TG} {ga : Nat} {gF : Nat} {gT : Nat} {gW : Nat} {gC : Nat} {gTl : Nat} {gHd : Nat} {gBy : Nat} {gOu : Nat} {gIn : Nat} {gJo : Nat} {gn : Nat} {gm : Nat} {gq : Nat} {gdr : Int} {x1 x2 : Int} (hd0 : 0 ≤ d) (hg : TyG Γ cI cJ cZ ga gF gT gW gC gTl gHd gBy gOu gIn gJo gn gm gq gdr) (ht : Tw Γ hp) (hx1 : 0 ≤ x1 ∧ x1 ≤ 59) (hx2 : 0 ≤ x2 ∧ x2 ≤ 59) (hk : x1 < (gm : Int) ∧ x2 < (gm : Int)) : Mt (gG D cI cJ cZ cT lo b L xs) mX3_haveSameEnds d 0 0 [.ref ga, .int (iv x1), .int (iv x2)] hp n (pR Γ n 0 1) := by
  obtain ⟨hg_O, hg_from, hg_to, hg_weight, hg_cost, hg_tail, hg_head, hg_by, hg_out, hg_in, hg_joined, hg_b⟩ := id hg
  refine Mt.of rfl (Nat.le_of_ble_eq_true rfl) ?_
  refine Rn.pick (lv' := [(0, .ref ga), (1, .int (iv x1)), (2, .int (iv x2))]) [0, 1, 2] rfl ?_
  refine r_aload_n (pc := 0) dX3_haveSameEnds_0 (i := 0) rfl rfl ?_
  refine t_getE (pc := 1) (.ref gF) ht hg_O fX3_36 dX3_haveSameEnds_1 rfl ?_
  refine r_iload_n (pc := 4) dX3_haveSameEnds_4 (i := 1) rfl rfl ?_
  refine t_ialdR (pc := 5) (t0 := 0) ht hg_from dX3_haveSameEnds_5 rfl (by omega) (by omega) (fun y1 by1 => ?_)
  refine r_aload_n (pc := 6) dX3_haveSameEnds_6 (i := 0) rfl rfl ?_
  refine t_getE (pc := 7) (.ref gF) ht hg_O fX3_36 dX3_haveSameEnds_7 rfl ?_
  refine r_iload_n (pc := 10) dX3_haveSameEnds_10 (i := 2) rfl rfl ?_
  refine t_ialdR (pc := 11) (t0 := 0) ht hg_from dX3_haveSameEnds_11 rfl (by omega) (by omega) (fun y2 by2 => ?_)
  have B72 : ∀ hp72 : MH, Tw Γ hp72 → ∀  (u72_0 : Int), 0 ≤ u72_0 ∧ u72_0 ≤ 1 → Rn (gG D cI cJ cZ cT lo b L xs) mX3_haveSameEnds d 72 [] [.int (iv u72_0)] hp72 n 0 0 (pR Γ n 0 1) := by
    intro hp72 ht72 u72_0 hf72
    exact r_zret (pc := 72) dX3_haveSameEnds_72 rfl (iv_nar (by omega)) ⟨rfl, ht72, _, rfl, by omega, by omega⟩
  have B67 : ∀ hp67 : MH, Tw Γ hp67 → True → Rn (gG D cI cJ cZ cT lo b L xs) mX3_haveSameEnds d 67 [] [] hp67 n 0 0 (pR Γ n 0 1) := by
    intro hp67 ht67 hf67
    refine r_iconst (pc := 67) (v := iv 1) dX3_haveSameEnds_67 (by decide) ?_
    refine r_goto (pc := 68) (tgt := 72) dX3_haveSameEnds_68 (by decide) ?_
    refine Rn.pick (lv' := []) [] rfl ?_
    exact B72 _ ht67 1 ⟨by omega, by omega⟩
  have B30 : ∀ hp30 : MH, Tw Γ hp30 → True → Rn (gG D cI cJ cZ cT lo b L xs) mX3_haveSameEnds d 30 [(0, .ref ga), (1, .int (iv x1)), (2, .int (iv x2))] [] hp30 n 0 0 (pR Γ n 0 1) := by
    intro hp30 ht30 hf30
    refine r_aload_n (pc := 30) dX3_haveSameEnds_30 (i := 0) rfl rfl ?_
    refine t_getE (pc := 31) (.int (iv gdr)) ht30 hg_O fX3_19 dX3_haveSameEnds_31 rfl ?_
    have B71 : ∀ hp71 : MH, Tw Γ hp71 → True → Rn (gG D cI cJ cZ cT lo b L xs) mX3_haveSameEnds d 71 [] [] hp71 n 0 0 (pR Γ n 0 1) := by
      intro hp71 ht71 hf71
      refine r_iconst (pc := 71) (v := iv 0) dX3_haveSameEnds_71 (by decide) ?_
      refine Rn.pick (lv' := []) [] rfl ?_
      exact B72 _ ht71 0 ⟨by omega, by omega⟩
    refine t_if_ne (pc := 34) (tgt := 71) dX3_haveSameEnds_34 (by decide) (by omega) (fun c34 => ?_) (fun c34 => ?_)
    · refine Rn.pick (lv' := []) [] rfl ?_
      exact B71 _ ht30 trivial
    · refine r_aload_n (pc := 37) dX3_haveSameEnds_37 (i := 0) rfl rfl ?_
      refine t_getE (pc := 38) (.ref gF) ht30 hg_O fX3_36 dX3_haveSameEnds_38 rfl ?_
      refine r_iload_n (pc := 41) dX3_haveSameEnds_41 (i := 1) rfl rfl ?_
      refine t_ialdR (pc := 42) (t0 := 0) ht30 hg_from dX3_haveSameEnds_42 rfl (by omega) (by omega) (fun y3 by3 => ?_)
      refine r_aload_n (pc := 43) dX3_haveSameEnds_43 (i := 0) rfl rfl ?_
      refine t_getE (pc := 44) (.ref gT) ht30 hg_O fX3_40 dX3_haveSameEnds_44 rfl ?_
      refine r_iload_n (pc := 47) dX3_haveSameEnds_47 (i := 2) rfl rfl ?_
      refine t_ialdR (pc := 48) (t0 := 0) ht30 hg_to dX3_haveSameEnds_48 rfl (by omega) (by omega) (fun y4 by4 => ?_)
      refine t_icmp_ne (pc := 49) (tgt := 71) dX3_haveSameEnds_49 (by decide) (by omega) (by omega) (fun c49 => ?_) (fun c49 => ?_)
      · refine Rn.pick (lv' := []) [] rfl ?_
        exact B71 _ ht30 trivial
      · refine r_aload_n (pc := 52) dX3_haveSameEnds_52 (i := 0) rfl rfl ?_
        refine t_getE (pc := 53) (.ref gT) ht30 hg_O fX3_40 dX3_haveSameEnds_53 rfl ?_
        refine r_iload_n (pc := 56) dX3_haveSameEnds_56 (i := 1) rfl rfl ?_
        refine t_ialdR (pc := 57) (t0 := 0) ht30 hg_to dX3_haveSameEnds_57 rfl (by omega) (by omega) (fun y5 by5 => ?_)
        refine r_aload_n (pc := 58) dX3_haveSameEnds_58 (i := 0) rfl rfl ?_
        refine t_getE (pc := 59) (.ref gF) ht30 hg_O fX3_36 dX3_haveSameEnds_59 rfl ?_
        refine r_iload_n (pc := 62) dX3_haveSameEnds_62 (i := 2) rfl rfl ?_
        refine t_ialdR (pc := 63) (t0 := 0) ht30 hg_from dX3_haveSameEnds_63 rfl (by omega) (by omega) (fun y6 by6 => ?_)
        refine t_icmp_ne (pc := 64) (tgt := 71) dX3_haveSameEnds_64 (by decide) (by omega) (by omega) (fun c64 => ?_) (fun c64 => ?_)
        · refine Rn.pick (lv' := []) [] rfl ?_
          exact B71 _ ht30 trivial
        · refine Rn.pick (lv' := []) [] rfl ?_
          exact B67 _ ht30 trivial
  refine t_icmp_ne (pc := 12) (tgt := 30) dX3_haveSameEnds_12 (by decide) (by omega) (by omega) (fun c12 => ?_) (fun c12 => ?_)
  · refine Rn.pick (lv' := [(0, .ref ga), (1, .int (iv x1)), (2, .int (iv x2))]) [0, 1, 2] rfl ?_
    exact B30 _ ht trivial
  · refine r_aload_n (pc := 15) dX3_haveSameEnds_15 (i := 0) rfl rfl ?_
    refine t_getE (pc := 16) (.ref gT) ht hg_O fX3_40 dX3_haveSameEnds_16 rfl ?_
    refine r_iload_n (pc := 19) dX3_haveSameEnds_19 (i := 1) rfl rfl ?_
    refine t_ialdR (pc := 20) (t0 := 0) ht hg_to dX3_haveSameEnds_20 rfl (by omega) (by omega) (fun y7 by7 => ?_)
    refine r_aload_n (pc := 21) dX3_haveSameEnds_21 (i := 0) rfl rfl ?_
    refine t_getE (pc := 22) (.ref gT) ht hg_O fX3_40 dX3_haveSameEnds_22 rfl ?_
    refine r_iload_n (pc := 25) dX3_haveSameEnds_25 (i := 2) rfl rfl ?_
    refine t_ialdR (pc := 26) (t0 := 0) ht hg_to dX3_haveSameEnds_26 rfl (by omega) (by omega) (fun y8 by8 => ?_)
    refine t_icmp_eq (pc := 27) (tgt := 67) dX3_haveSameEnds_27 (by decide) (by omega) (by omega) (fun c27 => ?_) (fun c27 => ?_)
    · refine Rn.pick (lv' := []) [] rfl ?_
      exact B67 _ ht trivial
    · refine Rn.pick (lv' := [(0, .ref ga), (1, .int (iv x1)), (2, .int (iv x2))]) [0, 1, 2] rfl ?_
      exact B30 _ ht trivial
set_option maxHeartbeats 4000000 in
set_option maxRecDepth 100000 in
theorem t_X3_shareNode {D : va_G} {cI cJ cZ cT : ClassId} {lo b L : Nat} {xs : Nat → Int32} {hp : MH} {n d : Nat} {Γ : TG} {ga : Nat} {gF : Nat} {gT : Nat} {gW : Nat} {gC : Nat} {gTl : Nat} {gHd : Nat} {gBy : Nat} {gOu : Nat} {gIn : Nat} {gJo : Nat} {gn : Nat} {gm : Nat} {gq : Nat} {gdr : Int} {x1 x2 : Int} (hd0 : 0 ≤ d) (hg : TyG Γ cI cJ cZ ga gF gT gW gC gTl gHd gBy gOu gIn gJo gn gm gq gdr) (ht : Tw Γ hp) (hx1 : 0 ≤ x1 ∧ x1 ≤ 59) (hx2 : 0 ≤ x2 ∧ x2 ≤ 59) (hk : x1 < (gm : Int) ∧ x2 < (gm : Int)) : Mt (gG D cI cJ cZ cT lo b L xs) mX3_shareNode d 0 0 [.ref ga, .int (iv x1), .int (iv x2)] hp n (pR Γ n 0 1) := by
  obtain ⟨hg_O, hg_from, hg_to, hg_weight, hg_cost, hg_tail, hg_head, hg_by, hg_out, hg_in, hg_joined, hg_b⟩ := id hg
  refine Mt.of rfl (Nat.le_of_ble_eq_true rfl) ?_
  refine Rn.pick (lv' := [(0, .ref ga), (1, .int (iv x1)), (2, .int (iv x2))]) [0, 1, 2] rfl ?_
  refine r_aload_n (pc := 0) dX3_shareNode_0 (i := 0) rfl rfl ?_
  refine t_getE (pc := 1) (.ref gF) ht hg_O fX3_36 dX3_shareNode_1 rfl ?_
  refine r_iload_n (pc := 4) dX3_shareNode_4 (i := 1) rfl rfl ?_
  refine t_ialdR (pc := 5) (t0 := 0) ht hg_from dX3_shareNode_5 rfl (by omega) (by omega) (fun y1 by1 => ?_)
  refine r_aload_n (pc := 6) dX3_shareNode_6 (i := 0) rfl rfl ?_
  refine t_getE (pc := 7) (.ref gF) ht hg_O fX3_36 dX3_shareNode_7 rfl ?_
  refine r_iload_n (pc := 10) dX3_shareNode_10 (i := 2) rfl rfl ?_
  refine t_ialdR (pc := 11) (t0 := 0) ht hg_from dX3_shareNode_11 rfl (by omega) (by omega) (fun y2 by2 => ?_)
  have B65 : ∀ hp65 : MH, Tw Γ hp65 → ∀  (u65_0 : Int), 0 ≤ u65_0 ∧ u65_0 ≤ 1 → Rn (gG D cI cJ cZ cT lo b L xs) mX3_shareNode d 65 [] [.int (iv u65_0)] hp65 n 0 0 (pR Γ n 0 1) := by
    intro hp65 ht65 u65_0 hf65
    exact r_zret (pc := 65) dX3_shareNode_65 rfl (iv_nar (by omega)) ⟨rfl, ht65, _, rfl, by omega, by omega⟩
  have B60 : ∀ hp60 : MH, Tw Γ hp60 → True → Rn (gG D cI cJ cZ cT lo b L xs) mX3_shareNode d 60 [] [] hp60 n 0 0 (pR Γ n 0 1) := by
    intro hp60 ht60 hf60
    refine r_iconst (pc := 60) (v := iv 1) dX3_shareNode_60 (by decide) ?_
    refine r_goto (pc := 61) (tgt := 65) dX3_shareNode_61 (by decide) ?_
    refine Rn.pick (lv' := []) [] rfl ?_
    exact B65 _ ht60 1 ⟨by omega, by omega⟩
  refine t_icmp_eq (pc := 12) (tgt := 60) dX3_shareNode_12 (by decide) (by omega) (by omega) (fun c12 => ?_) (fun c12 => ?_)
  · refine Rn.pick (lv' := []) [] rfl ?_
    exact B60 _ ht trivial
  · refine r_aload_n (pc := 15) dX3_shareNode_15 (i := 0) rfl rfl ?_
    refine t_getE (pc := 16) (.ref gF) ht hg_O fX3_36 dX3_shareNode_16 rfl ?_
    refine r_iload_n (pc := 19) dX3_shareNode_19 (i := 1) rfl rfl ?_
    refine t_ialdR (pc := 20) (t0 := 0) ht hg_from dX3_shareNode_20 rfl (by omega) (by omega) (fun y3 by3 => ?_)
    refine r_aload_n (pc := 21) dX3_shareNode_21 (i := 0) rfl rfl ?_
    refine t_getE (pc := 22) (.ref gT) ht hg_O fX3_40 dX3_shareNode_22 rfl ?_
    refine r_iload_n (pc := 25) dX3_shareNode_25 (i := 2) rfl rfl ?_
    refine t_ialdR (pc := 26) (t0 := 0) ht hg_to dX3_shareNode_26 rfl (by omega) (by omega) (fun y4 by4 => ?_)
    refine t_icmp_eq (pc := 27) (tgt := 60) dX3_shareNode_27 (by decide) (by omega) (by omega) (fun c27 => ?_) (fun c27 => ?_)
    · refine Rn.pick (lv' := []) [] rfl ?_
      exact B60 _ ht trivial
    · refine r_aload_n (pc := 30) dX3_shareNode_30 (i := 0) rfl rfl ?_
      refine t_getE (pc := 31) (.ref gT) ht hg_O fX3_40 dX3_shareNode_31 rfl ?_
      refine r_iload_n (pc := 34) dX3_shareNode_34 (i := 1) rfl rfl ?_
      refine t_ialdR (pc := 35) (t0 := 0) ht hg_to dX3_shareNode_35 rfl (by omega) (by omega) (fun y5 by5 => ?_)
      refine r_aload_n (pc := 36) dX3_shareNode_36 (i := 0) rfl rfl ?_
      refine t_getE (pc := 37) (.ref gF) ht hg_O fX3_36 dX3_shareNode_37 rfl ?_
      refine r_iload_n (pc := 40) dX3_shareNode_40 (i := 2) rfl rfl ?_
      refine t_ialdR (pc := 41) (t0 := 0) ht hg_from dX3_shareNode_41 rfl (by omega) (by omega) (fun y6 by6 => ?_)
      refine t_icmp_eq (pc := 42) (tgt := 60) dX3_shareNode_42 (by decide) (by omega) (by omega) (fun c42 => ?_) (fun c42 => ?_)
      · refine Rn.pick (lv' := []) [] rfl ?_
        exact B60 _ ht trivial
      · refine r_aload_n (pc := 45) dX3_shareNode_45 (i := 0) rfl rfl ?_
        refine t_getE (pc := 46) (.ref gT) ht hg_O fX3_40 dX3_shareNode_46 rfl ?_
        refine r_iload_n (pc := 49) dX3_shareNode_49 (i := 1) rfl rfl ?_
        refine t_ialdR (pc := 50) (t0 := 0) ht hg_to dX3_shareNode_50 rfl (by omega) (by omega) (fun y7 by7 => ?_)
        refine r_aload_n (pc := 51) dX3_shareNode_51 (i := 0) rfl rfl ?_
        refine t_getE (pc := 52) (.ref gT) ht hg_O fX3_40 dX3_shareNode_52 rfl ?_
        refine r_iload_n (pc := 55) dX3_shareNode_55 (i := 2) rfl rfl ?_
        refine t_ialdR (pc := 56) (t0 := 0) ht hg_to dX3_shareNode_56 rfl (by omega) (by omega) (fun y8 by8 => ?_)
        refine t_icmp_ne (pc := 57) (tgt := 64) dX3_shareNode_57 (by decide) (by omega) (by omega) (fun c57 => ?_) (fun c57 => ?_)
        · refine r_iconst (pc := 64) (v := iv 0) dX3_shareNode_64 (by decide) ?_
          refine Rn.pick (lv' := []) [] rfl ?_
          exact B65 _ ht 0 ⟨by omega, by omega⟩
        · refine Rn.pick (lv' := []) [] rfl ?_
          exact B60 _ ht trivial
set_option maxHeartbeats 4000000 in
set_option maxRecDepth 100000 in
theorem t_X3_hasTwin {D : va_G} {cI cJ cZ cT : ClassId} {lo b L : Nat} {xs : Nat → Int32} {hp : MH} {n d : Nat} {Γ : TG} {ga : Nat} {gF : Nat} {gT : Nat} {gW : Nat} {gC : Nat} {gTl : Nat} {gHd : Nat} {gBy : Nat} {gOu : Nat} {gIn : Nat} {gJo : Nat} {gn : Nat} {gm : Nat} {gq : Nat} {gdr : Int} {x1 : Int} (hd0 : 0 ≤ d) (hg : TyG Γ cI cJ cZ ga gF gT gW gC gTl gHd gBy gOu gIn gJo gn gm gq gdr) (ht : Tw Γ hp) (hx1 : 0 ≤ x1 ∧ x1 ≤ 59) (hk : x1 < (gm : Int)) : Mt (gG D cI cJ cZ cT lo b L xs) mX3_hasTwin d 0 0 [.ref ga, .int (iv x1)] hp n (pR Γ n 0 1) := by
  obtain ⟨hg_O, hg_from, hg_to, hg_weight, hg_cost, hg_tail, hg_head, hg_by, hg_out, hg_in, hg_joined, hg_b⟩ := id hg
  refine Mt.of rfl (Nat.le_of_ble_eq_true rfl) ?_
  refine Rn.pick (lv' := [(0, .ref ga), (1, .int (iv x1))]) [0, 1] rfl ?_
  refine r_iconst (pc := 0) (v := iv 0) dX3_hasTwin_0 (by decide) ?_
  refine r_istore_n (pc := 1) (lv' := [(2, .int (iv 0)), (0, .ref ga), (1, .int (iv x1))]) dX3_hasTwin_1 (i := 2) rfl (by decide) rfl ?_
  have B2 : ∀ k : Nat, ∀ hp2 : MH, Tw Γ hp2 → ∀  (v2_2 : Int), 0 ≤ v2_2 ∧ v2_2 ≤ 60 → 60 - v2_2 ≤ (k : Int) → Rn (gG D cI cJ cZ cT lo b L xs) mX3_hasTwin d 2 [(0, .ref ga), (1, .int (iv x1)), (2, .int (iv v2_2))] [] hp2 n 0 0 (pR Γ n 0 1) := by
    refine lpS _ ?_
    intro k2 ih2 hp2 ht2 v2_2 hf2 hm2
    refine r_iload_n (pc := 2) dX3_hasTwin_2 (i := 2) rfl rfl ?_
    refine r_aload_n (pc := 3) dX3_hasTwin_3 (i := 0) rfl rfl ?_
    refine t_getE (pc := 4) (.int (iv (gm : Int))) ht2 hg_O fX3_25 dX3_hasTwin_4 rfl ?_
    refine t_icmp_ge (pc := 7) (tgt := 105) dX3_hasTwin_7 (by decide) (by omega) (by omega) (fun c7 => ?_) (fun c7 => ?_)
    · refine r_iconst (pc := 105) (v := iv 0) dX3_hasTwin_105 (by decide) ?_
      exact r_zret (pc := 106) dX3_hasTwin_106 rfl (iv_nar (by omega)) ⟨rfl, ht2, _, rfl, by omega, by omega⟩
    · refine r_aload_n (pc := 10) dX3_hasTwin_10 (i := 0) rfl rfl ?_
      refine t_getE (pc := 11) (.ref gF) ht2 hg_O fX3_36 dX3_hasTwin_11 rfl ?_
      refine r_iload_n (pc := 14) dX3_hasTwin_14 (i := 1) rfl rfl ?_
      refine t_ialdR (pc := 15) (t0 := 0) ht2 hg_from dX3_hasTwin_15 rfl (by omega) (by omega) (fun y1 by1 => ?_)
      refine r_aload_n (pc := 16) dX3_hasTwin_16 (i := 0) rfl rfl ?_
      refine t_getE (pc := 17) (.ref gF) ht2 hg_O fX3_36 dX3_hasTwin_17 rfl ?_
      refine r_iload_n (pc := 20) dX3_hasTwin_20 (i := 2) rfl rfl ?_
      refine t_ialdR (pc := 21) (t0 := 0) ht2 hg_from dX3_hasTwin_21 rfl (by omega) (by omega) (fun y2 by2 => ?_)
      have B45 : ∀ hp45 : MH, Tw Γ hp45 → ∀  (u45_0 : Int), 0 ≤ u45_0 ∧ u45_0 ≤ 1 → Rn (gG D cI cJ cZ cT lo b L xs) mX3_hasTwin d 45 [(0, .ref ga), (1, .int (iv x1)), (2, .int (iv v2_2))] [.int (iv u45_0)] hp45 n 0 0 (pR Γ n 0 1) := by
        intro hp45 ht45 u45_0 hf45
        refine r_istore_n (pc := 45) (lv' := [(3, .int (iv u45_0)), (0, .ref ga), (1, .int (iv x1)), (2, .int (iv v2_2))]) dX3_hasTwin_45 (i := 3) rfl (by decide) rfl ?_
        refine r_aload_n (pc := 46) dX3_hasTwin_46 (i := 0) rfl rfl ?_
        refine t_getE (pc := 47) (.ref gF) ht45 hg_O fX3_36 dX3_hasTwin_47 rfl ?_
        refine r_iload_n (pc := 50) dX3_hasTwin_50 (i := 1) rfl rfl ?_
        refine t_ialdR (pc := 51) (t0 := 0) ht45 hg_from dX3_hasTwin_51 rfl (by omega) (by omega) (fun y3 by3 => ?_)
        refine r_aload_n (pc := 52) dX3_hasTwin_52 (i := 0) rfl rfl ?_
        refine t_getE (pc := 53) (.ref gT) ht45 hg_O fX3_40 dX3_hasTwin_53 rfl ?_
        refine r_iload_n (pc := 56) dX3_hasTwin_56 (i := 2) rfl rfl ?_
        refine t_ialdR (pc := 57) (t0 := 0) ht45 hg_to dX3_hasTwin_57 rfl (by omega) (by omega) (fun y4 by4 => ?_)
        have B81 : ∀ hp81 : MH, Tw Γ hp81 → ∀  (u81_0 : Int), 0 ≤ u81_0 ∧ u81_0 ≤ 1 → Rn (gG D cI cJ cZ cT lo b L xs) mX3_hasTwin d 81 [(0, .ref ga), (1, .int (iv x1)), (2, .int (iv v2_2)), (3, .int (iv u45_0))] [.int (iv u81_0)] hp81 n 0 0 (pR Γ n 0 1) := by
          intro hp81 ht81 u81_0 hf81
          refine r_istore (pc := 81) (lv' := [(4, .int (iv u81_0)), (0, .ref ga), (1, .int (iv x1)), (2, .int (iv v2_2)), (3, .int (iv u45_0))]) dX3_hasTwin_81 (by decide) rfl ?_
          refine r_iload_n (pc := 83) dX3_hasTwin_83 (i := 2) rfl rfl ?_
          refine r_iload_n (pc := 84) dX3_hasTwin_84 (i := 1) rfl rfl ?_
          have B99 : ∀ hp99 : MH, Tw Γ hp99 → True → Rn (gG D cI cJ cZ cT lo b L xs) mX3_hasTwin d 99 [(0, .ref ga), (1, .int (iv x1)), (2, .int (iv v2_2))] [] hp99 n 0 0 (pR Γ n 0 1) := by
            intro hp99 ht99 hf99
            refine r_iinc (pc := 99) (v := iv (v2_2 + 1)) (lv' := [(2, .int (iv (v2_2 + 1))), (0, .ref ga), (1, .int (iv x1))]) dX3_hasTwin_99 rfl (iv_add _ _) (by decide) rfl ?_
            refine r_goto (pc := 102) (tgt := 2) dX3_hasTwin_102 (by decide) ?_
            refine Rn.pick (lv' := [(0, .ref ga), (1, .int (iv x1)), (2, .int (iv (v2_2 + 1)))]) [1, 2, 0] rfl ?_
            exact ih2 (Int.toNat (60 - (v2_2 + 1))) (by omega) _ ht99 (v2_2 + 1) ⟨by omega, by omega⟩ (by omega)
          refine t_icmp_eq (pc := 85) (tgt := 99) dX3_hasTwin_85 (by decide) (by omega) (by omega) (fun c85 => ?_) (fun c85 => ?_)
          · refine Rn.pick (lv' := [(0, .ref ga), (1, .int (iv x1)), (2, .int (iv v2_2))]) [1, 2, 3] rfl ?_
            exact B99 _ ht81 trivial
          · refine r_iload_n (pc := 88) dX3_hasTwin_88 (i := 3) rfl rfl ?_
            have B97 : ∀ hp97 : MH, Tw Γ hp97 → True → Rn (gG D cI cJ cZ cT lo b L xs) mX3_hasTwin d 97 [] [] hp97 n 0 0 (pR Γ n 0 1) := by
              intro hp97 ht97 hf97
              refine r_iconst (pc := 97) (v := iv 1) dX3_hasTwin_97 (by decide) ?_
              exact r_zret (pc := 98) dX3_hasTwin_98 rfl (iv_nar (by omega)) ⟨rfl, ht97, _, rfl, by omega, by omega⟩
            refine t_if_ne (pc := 89) (tgt := 97) dX3_hasTwin_89 (by decide) (by omega) (fun c89 => ?_) (fun c89 => ?_)
            · refine Rn.pick (lv' := []) [] rfl ?_
              exact B97 _ ht81 trivial
            · refine r_iload (pc := 92) dX3_hasTwin_92 rfl ?_
              refine t_if_eq (pc := 94) (tgt := 99) dX3_hasTwin_94 (by decide) (by omega) (fun c94 => ?_) (fun c94 => ?_)
              · refine Rn.pick (lv' := [(0, .ref ga), (1, .int (iv x1)), (2, .int (iv v2_2))]) [1, 2, 3] rfl ?_
                exact B99 _ ht81 trivial
              · refine Rn.pick (lv' := []) [] rfl ?_
                exact B97 _ ht81 trivial
        have B80 : ∀ hp80 : MH, Tw Γ hp80 → True → Rn (gG D cI cJ cZ cT lo b L xs) mX3_hasTwin d 80 [(0, .ref ga), (1, .int (iv x1)), (2, .int (iv v2_2)), (3, .int (iv u45_0))] [] hp80 n 0 0 (pR Γ n 0 1) := by
          intro hp80 ht80 hf80
          refine r_iconst (pc := 80) (v := iv 0) dX3_hasTwin_80 (by decide) ?_
          refine Rn.pick (lv' := [(0, .ref ga), (1, .int (iv x1)), (2, .int (iv v2_2)), (3, .int (iv u45_0))]) [0, 1, 2, 3] rfl ?_
          exact B81 _ ht80 0 ⟨by omega, by omega⟩
        refine t_icmp_ne (pc := 58) (tgt := 80) dX3_hasTwin_58 (by decide) (by omega) (by omega) (fun c58 => ?_) (fun c58 => ?_)
        · refine Rn.pick (lv' := [(0, .ref ga), (1, .int (iv x1)), (2, .int (iv v2_2)), (3, .int (iv u45_0))]) [1, 2, 3, 0] rfl ?_
          exact B80 _ ht45 trivial
        · refine r_aload_n (pc := 61) dX3_hasTwin_61 (i := 0) rfl rfl ?_
          refine t_getE (pc := 62) (.ref gT) ht45 hg_O fX3_40 dX3_hasTwin_62 rfl ?_
          refine r_iload_n (pc := 65) dX3_hasTwin_65 (i := 1) rfl rfl ?_
          refine t_ialdR (pc := 66) (t0 := 0) ht45 hg_to dX3_hasTwin_66 rfl (by omega) (by omega) (fun y5 by5 => ?_)
          refine r_aload_n (pc := 67) dX3_hasTwin_67 (i := 0) rfl rfl ?_
          refine t_getE (pc := 68) (.ref gF) ht45 hg_O fX3_36 dX3_hasTwin_68 rfl ?_
          refine r_iload_n (pc := 71) dX3_hasTwin_71 (i := 2) rfl rfl ?_
          refine t_ialdR (pc := 72) (t0 := 0) ht45 hg_from dX3_hasTwin_72 rfl (by omega) (by omega) (fun y6 by6 => ?_)
          refine t_icmp_ne (pc := 73) (tgt := 80) dX3_hasTwin_73 (by decide) (by omega) (by omega) (fun c73 => ?_) (fun c73 => ?_)
          · refine Rn.pick (lv' := [(0, .ref ga), (1, .int (iv x1)), (2, .int (iv v2_2)), (3, .int (iv u45_0))]) [1, 2, 3, 0] rfl ?_
            exact B80 _ ht45 trivial
          · refine r_iconst (pc := 76) (v := iv 1) dX3_hasTwin_76 (by decide) ?_
            refine r_goto (pc := 77) (tgt := 81) dX3_hasTwin_77 (by decide) ?_
            refine Rn.pick (lv' := [(0, .ref ga), (1, .int (iv x1)), (2, .int (iv v2_2)), (3, .int (iv u45_0))]) [1, 2, 3, 0] rfl ?_
            exact B81 _ ht45 1 ⟨by omega, by omega⟩
      have B44 : ∀ hp44 : MH, Tw Γ hp44 → True → Rn (gG D cI cJ cZ cT lo b L xs) mX3_hasTwin d 44 [(0, .ref ga), (1, .int (iv x1)), (2, .int (iv v2_2))] [] hp44 n 0 0 (pR Γ n 0 1) := by
        intro hp44 ht44 hf44
        refine r_iconst (pc := 44) (v := iv 0) dX3_hasTwin_44 (by decide) ?_
        refine Rn.pick (lv' := [(0, .ref ga), (1, .int (iv x1)), (2, .int (iv v2_2))]) [0, 1, 2] rfl ?_
        exact B45 _ ht44 0 ⟨by omega, by omega⟩
      refine t_icmp_ne (pc := 22) (tgt := 44) dX3_hasTwin_22 (by decide) (by omega) (by omega) (fun c22 => ?_) (fun c22 => ?_)
      · refine Rn.pick (lv' := [(0, .ref ga), (1, .int (iv x1)), (2, .int (iv v2_2))]) [0, 1, 2] rfl ?_
        exact B44 _ ht2 trivial
      · refine r_aload_n (pc := 25) dX3_hasTwin_25 (i := 0) rfl rfl ?_
        refine t_getE (pc := 26) (.ref gT) ht2 hg_O fX3_40 dX3_hasTwin_26 rfl ?_
        refine r_iload_n (pc := 29) dX3_hasTwin_29 (i := 1) rfl rfl ?_
        refine t_ialdR (pc := 30) (t0 := 0) ht2 hg_to dX3_hasTwin_30 rfl (by omega) (by omega) (fun y7 by7 => ?_)
        refine r_aload_n (pc := 31) dX3_hasTwin_31 (i := 0) rfl rfl ?_
        refine t_getE (pc := 32) (.ref gT) ht2 hg_O fX3_40 dX3_hasTwin_32 rfl ?_
        refine r_iload_n (pc := 35) dX3_hasTwin_35 (i := 2) rfl rfl ?_
        refine t_ialdR (pc := 36) (t0 := 0) ht2 hg_to dX3_hasTwin_36 rfl (by omega) (by omega) (fun y8 by8 => ?_)
        refine t_icmp_ne (pc := 37) (tgt := 44) dX3_hasTwin_37 (by decide) (by omega) (by omega) (fun c37 => ?_) (fun c37 => ?_)
        · refine Rn.pick (lv' := [(0, .ref ga), (1, .int (iv x1)), (2, .int (iv v2_2))]) [0, 1, 2] rfl ?_
          exact B44 _ ht2 trivial
        · refine r_iconst (pc := 40) (v := iv 1) dX3_hasTwin_40 (by decide) ?_
          refine r_goto (pc := 41) (tgt := 45) dX3_hasTwin_41 (by decide) ?_
          refine Rn.pick (lv' := [(0, .ref ga), (1, .int (iv x1)), (2, .int (iv v2_2))]) [0, 1, 2] rfl ?_
          exact B45 _ ht2 1 ⟨by omega, by omega⟩
  refine Rn.pick (lv' := [(0, .ref ga), (1, .int (iv x1)), (2, .int (iv 0))]) [1, 2, 0] rfl ?_
  exact B2 (Int.toNat (60 - 0)) _ ht 0 ⟨by omega, by omega⟩ (by omega)
set_option maxHeartbeats 4000000 in
set_option maxRecDepth 100000 in
theorem t_X8_firstFree {D : va_G} {cI cJ cZ cT : ClassId} {lo b L : Nat} {xs : Nat → Int32} {hp : MH} {n d : Nat} {Γ : TG} {ga : Nat} {gF : Nat} {gT : Nat} {gW : Nat} {gC : Nat} {gTl : Nat} {gHd : Nat} {gBy : Nat} {gOu : Nat} {gIn : Nat} {gJo : Nat} {gn : Nat} {gm : Nat} {gq : Nat} {gdr : Int} {x1 : Int} (hd0 : 0 ≤ d) (hg : TyG Γ cI cJ cZ ga gF gT gW gC gTl gHd gBy gOu gIn gJo gn gm gq gdr) (ht : Tw Γ hp) (hx1 : 0 ≤ x1 ∧ x1 ≤ 65535) : Mt (gG D cI cJ cZ cT lo b L xs) mX8_firstFree d 0 0 [.ref ga, .int (iv x1)] hp n (pR Γ n (-1) 15) := by
  obtain ⟨hg_O, hg_from, hg_to, hg_weight, hg_cost, hg_tail, hg_head, hg_by, hg_out, hg_in, hg_joined, hg_b⟩ := id hg
  refine Mt.of rfl (Nat.le_of_ble_eq_true rfl) ?_
  refine Rn.pick (lv' := [(0, .ref ga), (1, .int (iv x1))]) [0, 1] rfl ?_
  refine r_iconst (pc := 0) (v := iv 0) dX8_firstFree_0 (by decide) ?_
  refine r_istore_n (pc := 1) (lv' := [(2, .int (iv 0)), (0, .ref ga), (1, .int (iv x1))]) dX8_firstFree_1 (i := 2) rfl (by decide) rfl ?_
  have B2 : ∀ k : Nat, ∀ hp2 : MH, Tw Γ hp2 → ∀  (v2_2 : Int), 0 ≤ v2_2 ∧ v2_2 ≤ 16 → 16 - v2_2 ≤ (k : Int) → Rn (gG D cI cJ cZ cT lo b L xs) mX8_firstFree d 2 [(0, .ref ga), (1, .int (iv x1)), (2, .int (iv v2_2))] [] hp2 n 0 0 (pR Γ n (-1) 15) := by
    refine lpS _ ?_
    intro k2 ih2 hp2 ht2 v2_2 hf2 hm2
    refine r_iload_n (pc := 2) dX8_firstFree_2 (i := 2) rfl rfl ?_
    refine r_aload_n (pc := 3) dX8_firstFree_3 (i := 0) rfl rfl ?_
    refine t_getE (pc := 4) (.int (iv (gn : Int))) ht2 hg_O fX8_35 dX8_firstFree_4 rfl ?_
    refine t_icmp_ge (pc := 7) (tgt := 39) dX8_firstFree_7 (by decide) (by omega) (by omega) (fun c7 => ?_) (fun c7 => ?_)
    · refine r_iconst (pc := 39) (v := iv (-1)) dX8_firstFree_39 (by decide) ?_
      exact r_iret (pc := 40) dX8_firstFree_40 rfl ⟨rfl, ht2, _, rfl, by omega, by omega⟩
    · refine r_iload_n (pc := 10) dX8_firstFree_10 (i := 1) rfl rfl ?_
      refine r_iload_n (pc := 11) dX8_firstFree_11 (i := 2) rfl rfl ?_
      obtain ⟨z1, hz1, bz1⟩ := shr_x x1 v2_2 (by omega) (by omega)
      refine r_ishr (pc := 12) (v := iv z1) dX8_firstFree_12 hz1 ?_
      refine r_iconst (pc := 13) (v := iv 1) dX8_firstFree_13 (by decide) ?_
      obtain ⟨z2, hz2, bz2⟩ := and_2 z1 1 (by omega) (by omega)
      refine r_iand (pc := 14) (v := iv z2) dX8_firstFree_14 hz2 ?_
      have B33 : ∀ hp33 : MH, Tw Γ hp33 → True → Rn (gG D cI cJ cZ cT lo b L xs) mX8_firstFree d 33 [(0, .ref ga), (1, .int (iv x1)), (2, .int (iv v2_2))] [] hp33 n 0 0 (pR Γ n (-1) 15) := by
        intro hp33 ht33 hf33
        refine r_iinc (pc := 33) (v := iv (v2_2 + 1)) (lv' := [(2, .int (iv (v2_2 + 1))), (0, .ref ga), (1, .int (iv x1))]) dX8_firstFree_33 rfl (iv_add _ _) (by decide) rfl ?_
        refine r_goto (pc := 36) (tgt := 2) dX8_firstFree_36 (by decide) ?_
        refine Rn.pick (lv' := [(0, .ref ga), (1, .int (iv x1)), (2, .int (iv (v2_2 + 1)))]) [1, 2, 0] rfl ?_
        exact ih2 (Int.toNat (16 - (v2_2 + 1))) (by omega) _ ht33 (v2_2 + 1) ⟨by omega, by omega⟩ (by omega)
      refine t_if_ne (pc := 15) (tgt := 33) dX8_firstFree_15 (by decide) (by omega) (fun c15 => ?_) (fun c15 => ?_)
      · refine Rn.pick (lv' := [(0, .ref ga), (1, .int (iv x1)), (2, .int (iv v2_2))]) [0, 1, 2] rfl ?_
        exact B33 _ ht2 trivial
      · refine r_aload_n (pc := 18) dX8_firstFree_18 (i := 0) rfl rfl ?_
        refine t_getE (pc := 19) (.ref gIn) ht2 hg_O fX8_42 dX8_firstFree_19 rfl ?_
        refine r_iload_n (pc := 22) dX8_firstFree_22 (i := 2) rfl rfl ?_
        refine t_ialdR (pc := 23) (t0 := 0) ht2 hg_in dX8_firstFree_23 rfl (by omega) (by omega) (fun y3 by3 => ?_)
        refine r_iload_n (pc := 24) dX8_firstFree_24 (i := 1) rfl rfl ?_
        refine r_iconst (pc := 25) (v := iv (-1)) dX8_firstFree_25 (by decide) ?_
        refine r_ixor (pc := 26) (v := iv (-x1 - 1)) dX8_firstFree_26 (iv_not _) ?_
        obtain ⟨z4, hz4, bz4⟩ := and_l y3 (-x1 - 1) (by omega) (by omega)
        refine r_iand (pc := 27) (v := iv z4) dX8_firstFree_27 hz4 ?_
        refine t_if_ne (pc := 28) (tgt := 33) dX8_firstFree_28 (by decide) (by omega) (fun c28 => ?_) (fun c28 => ?_)
        · refine Rn.pick (lv' := [(0, .ref ga), (1, .int (iv x1)), (2, .int (iv v2_2))]) [0, 1, 2] rfl ?_
          exact B33 _ ht2 trivial
        · refine r_iload_n (pc := 31) dX8_firstFree_31 (i := 2) rfl rfl ?_
          exact r_iret (pc := 32) dX8_firstFree_32 rfl ⟨rfl, ht2, _, rfl, by omega, by omega⟩
  refine Rn.pick (lv' := [(0, .ref ga), (1, .int (iv x1)), (2, .int (iv 0))]) [1, 2, 0] rfl ?_
  exact B2 (Int.toNat (16 - 0)) _ ht 0 ⟨by omega, by omega⟩ (by omega)
set_option maxHeartbeats 4000000 in
set_option maxRecDepth 100000 in
theorem t_X8_order {D : va_G} {cI cJ cZ cT : ClassId} {lo b L : Nat} {xs : Nat → Int32} {hp : MH} {n d : Nat} {Γ : TG} {ga : Nat} {gF : Nat} {gT : Nat} {gW : Nat} {gC : Nat} {gTl : Nat} {gHd : Nat} {gBy : Nat} {gOu : Nat} {gIn : Nat} {gJo : Nat} {gn : Nat} {gm : Nat} {gq : Nat} {gdr : Int} {x1 : Int} (hd0 : 1 ≤ d) (hg : TyG Γ cI cJ cZ ga gF gT gW gC gTl gHd gBy gOu gIn gJo gn gm gq gdr) (ht : Tw Γ hp) (hx1 : 0 ≤ x1 ∧ x1 ≤ 15) : Mt (gG D cI cJ cZ cT lo b L xs) mX8_order d 0 0 [.ref ga, .int (iv x1)] hp n (pR Γ n (-1) 15) := by
  obtain ⟨hg_O, hg_from, hg_to, hg_weight, hg_cost, hg_tail, hg_head, hg_by, hg_out, hg_in, hg_joined, hg_b⟩ := id hg
  refine Mt.of rfl (Nat.le_of_ble_eq_true rfl) ?_
  refine Rn.pick (lv' := [(0, .ref ga), (1, .int (iv x1))]) [0, 1] rfl ?_
  refine r_aload_n (pc := 0) dX8_order_0 (i := 0) rfl rfl ?_
  refine t_getE (pc := 1) (.int (iv gdr)) ht hg_O fX8_25 dX8_order_1 rfl ?_
  have B16 : ∀ hp16 : MH, Tw Γ hp16 → True → Rn (gG D cI cJ cZ cT lo b L xs) mX8_order d 16 [(0, .ref ga), (1, .int (iv x1))] [] hp16 n 0 0 (pR Γ n (-1) 15) := by
    intro hp16 ht16 hf16
    refine r_iconst (pc := 16) (v := iv 0) dX8_order_16 (by decide) ?_
    refine r_istore_n (pc := 17) (lv' := [(2, .int (iv 0)), (0, .ref ga), (1, .int (iv x1))]) dX8_order_17 (i := 2) rfl (by decide) rfl ?_
    refine r_iconst (pc := 18) (v := iv (-1)) dX8_order_18 (by decide) ?_
    refine r_istore_n (pc := 19) (lv' := [(3, .int (iv (-1))), (2, .int (iv 0)), (0, .ref ga), (1, .int (iv x1))]) dX8_order_19 (i := 3) rfl (by decide) rfl ?_
    refine r_iconst (pc := 20) (v := iv 0) dX8_order_20 (by decide) ?_
    refine r_istore (pc := 21) (lv' := [(4, .int (iv 0)), (3, .int (iv (-1))), (2, .int (iv 0)), (0, .ref ga), (1, .int (iv x1))]) dX8_order_21 (by decide) rfl ?_
    have B23 : ∀ k : Nat, ∀ hp23 : MH, Tw Γ hp23 → ∀  (v23_2 : Int) (v23_3 : Int) (v23_4 : Int), 0 ≤ v23_2 ∧ v23_2 ≤ 65535 ∧ (-1) ≤ v23_3 ∧ v23_3 ≤ 15 ∧ 0 ≤ v23_4 ∧ v23_4 ≤ 16 → 16 - v23_4 ≤ (k : Int) → Rn (gG D cI cJ cZ cT lo b L xs) mX8_order d 23 [(0, .ref ga), (1, .int (iv x1)), (2, .int (iv v23_2)), (3, .int (iv v23_3)), (4, .int (iv v23_4))] [] hp23 n 0 0 (pR Γ n (-1) 15) := by
      refine lpS _ ?_
      intro k23 ih23 hp23 ht23 v23_2 v23_3 v23_4 hf23 hm23
      refine r_iload (pc := 23) dX8_order_23 rfl ?_
      refine r_aload_n (pc := 25) dX8_order_25 (i := 0) rfl rfl ?_
      refine t_getE (pc := 26) (.int (iv (gn : Int))) ht23 hg_O fX8_35 dX8_order_26 rfl ?_
      refine t_icmp_ge (pc := 29) (tgt := 72) dX8_order_29 (by decide) (by omega) (by omega) (fun c29 => ?_) (fun c29 => ?_)
      · refine r_iload_n (pc := 72) dX8_order_72 (i := 3) rfl rfl ?_
        exact r_iret (pc := 73) dX8_order_73 rfl ⟨rfl, ht23, _, rfl, by omega, by omega⟩
      · refine r_aload_n (pc := 32) dX8_order_32 (i := 0) rfl rfl ?_
        refine r_iload_n (pc := 33) dX8_order_33 (i := 2) rfl rfl ?_
        refine t_callSR (pc := 34) (as := [.ref ga, .int (iv v23_2)]) (st := []) kX8_38 dX8_order_34 (t_X8_firstFree (d := d - 1) (x1 := v23_2) (by omega) hg  ht23 (by omega) ) rfl (by omega) (Nat.le_of_ble_eq_true rfl) rfl (fun hp1 y3 ht2 by3 => ?_)
        refine r_istore (pc := 37) (lv' := [(5, .int (iv y3)), (0, .ref ga), (1, .int (iv x1)), (2, .int (iv v23_2)), (3, .int (iv v23_3)), (4, .int (iv v23_4))]) dX8_order_37 (by decide) rfl ?_
        refine r_iload (pc := 39) dX8_order_39 rfl ?_
        refine t_if_ge (pc := 41) (tgt := 46) dX8_order_41 (by decide) (by omega) (fun c41 => ?_) (fun c41 => ?_)
        · refine r_iload_n (pc := 46) dX8_order_46 (i := 2) rfl rfl ?_
          refine r_iconst (pc := 47) (v := iv 1) dX8_order_47 (by decide) ?_
          refine r_iload (pc := 48) dX8_order_48 rfl ?_
          obtain ⟨z4, hz4, bz4⟩ := shl_1 0 15 y3 (by omega) (by omega) (by decide)
          refine r_ishl (pc := 50) (v := iv z4) dX8_order_50 hz4 ?_
          obtain ⟨z5, hz5, bz5⟩ := or_2 16 v23_2 z4 (by omega) (by omega) (by decide)
          refine r_ior (pc := 51) (v := iv z5) dX8_order_51 hz5 ?_
          refine r_istore_n (pc := 52) (lv' := [(2, .int (iv z5)), (5, .int (iv y3)), (0, .ref ga), (1, .int (iv x1)), (3, .int (iv v23_3)), (4, .int (iv v23_4))]) dX8_order_52 (i := 2) rfl (by decide) rfl ?_
          refine r_iload (pc := 53) dX8_order_53 rfl ?_
          refine r_iload_n (pc := 55) dX8_order_55 (i := 1) rfl rfl ?_
          have B65 : ∀ hp65 : MH, Tw Γ hp65 → ∀  (u65_0 : Int), (-1) ≤ u65_0 ∧ u65_0 ≤ 15 → Rn (gG D cI cJ cZ cT lo b L xs) mX8_order d 65 [(0, .ref ga), (1, .int (iv x1)), (2, .int (iv z5)), (4, .int (iv v23_4))] [.int (iv u65_0)] hp65 n 0 0 (pR Γ n (-1) 15) := by
            intro hp65 ht65 u65_0 hf65
            refine r_istore_n (pc := 65) (lv' := [(3, .int (iv u65_0)), (0, .ref ga), (1, .int (iv x1)), (2, .int (iv z5)), (4, .int (iv v23_4))]) dX8_order_65 (i := 3) rfl (by decide) rfl ?_
            refine r_iinc (pc := 66) (v := iv (v23_4 + 1)) (lv' := [(4, .int (iv (v23_4 + 1))), (3, .int (iv u65_0)), (0, .ref ga), (1, .int (iv x1)), (2, .int (iv z5))]) dX8_order_66 rfl (iv_add _ _) (by decide) rfl ?_
            refine r_goto (pc := 69) (tgt := 23) dX8_order_69 (by decide) ?_
            refine Rn.pick (lv' := [(0, .ref ga), (1, .int (iv x1)), (2, .int (iv z5)), (3, .int (iv u65_0)), (4, .int (iv (v23_4 + 1)))]) [2, 3, 4, 1, 0] rfl ?_
            exact ih23 (Int.toNat (16 - (v23_4 + 1))) (by omega) _ ht65 z5 u65_0 (v23_4 + 1) ⟨by omega, by omega, by omega, by omega, by omega, by omega⟩ (by omega)
          refine t_icmp_ne (pc := 56) (tgt := 64) dX8_order_56 (by decide) (by omega) (by omega) (fun c56 => ?_) (fun c56 => ?_)
          · refine r_iload_n (pc := 64) dX8_order_64 (i := 3) rfl rfl ?_
            refine Rn.pick (lv' := [(0, .ref ga), (1, .int (iv x1)), (2, .int (iv z5)), (4, .int (iv v23_4))]) [2, 3, 0, 5] rfl ?_
            exact B65 _ ht2 v23_3 ⟨by omega, by omega⟩
          · refine r_iload (pc := 59) dX8_order_59 rfl ?_
            refine r_goto (pc := 61) (tgt := 65) dX8_order_61 (by decide) ?_
            refine Rn.pick (lv' := [(0, .ref ga), (1, .int (iv x1)), (2, .int (iv z5)), (4, .int (iv v23_4))]) [2, 3, 0, 5] rfl ?_
            exact B65 _ ht2 y3 ⟨by omega, by omega⟩
        · refine r_iconst (pc := 44) (v := iv (-1)) dX8_order_44 (by decide) ?_
          exact r_iret (pc := 45) dX8_order_45 rfl ⟨rfl, ht2, _, rfl, by omega, by omega⟩
    refine Rn.pick (lv' := [(0, .ref ga), (1, .int (iv x1)), (2, .int (iv 0)), (3, .int (iv (-1))), (4, .int (iv 0))]) [3, 4, 2, 1, 0] rfl ?_
    exact B23 (Int.toNat (16 - 0)) _ ht16 0 (-1) 0 ⟨by omega, by omega, by omega, by omega, by omega, by omega⟩ (by omega)
  refine t_if_ne (pc := 4) (tgt := 16) dX8_order_4 (by decide) (by omega) (fun c4 => ?_) (fun c4 => ?_)
  · refine Rn.pick (lv' := [(0, .ref ga), (1, .int (iv x1))]) [0, 1] rfl ?_
    exact B16 _ ht trivial
  · refine r_aload_n (pc := 7) dX8_order_7 (i := 0) rfl rfl ?_
    refine t_getE (pc := 8) (.int (iv (gm : Int))) ht hg_O fX8_31 dX8_order_8 rfl ?_
    refine t_if_le (pc := 11) (tgt := 16) dX8_order_11 (by decide) (by omega) (fun c11 => ?_) (fun c11 => ?_)
    · refine Rn.pick (lv' := [(0, .ref ga), (1, .int (iv x1))]) [0, 1] rfl ?_
      exact B16 _ ht trivial
    · refine r_iconst (pc := 14) (v := iv (-1)) dX8_order_14 (by decide) ?_
      exact r_iret (pc := 15) dX8_order_15 rfl ⟨rfl, ht, _, rfl, by omega, by omega⟩
set_option maxHeartbeats 4000000 in
set_option maxRecDepth 100000 in
theorem t_X8_directedRing {D : va_G} {cI cJ cZ cT : ClassId} {lo b L : Nat} {xs : Nat → Int32} {hp : MH} {n d : Nat} {Γ : TG} {ga : Nat} {gF : Nat} {gT : Nat} {gW : Nat} {gC : Nat} {gTl : Nat} {gHd : Nat} {gBy : Nat} {gOu : Nat} {gIn : Nat} {gJo : Nat} {gn : Nat} {gm : Nat} {gq : Nat} {gdr : Int} (hd0 : 2 ≤ d) (hg : TyG Γ cI cJ cZ ga gF gT gW gC gTl gHd gBy gOu gIn gJo gn gm gq gdr) (ht : Tw Γ hp)  : Mt (gG D cI cJ cZ cT lo b L xs) mX8_directedRing d 0 0 [.ref ga] hp n (pR Γ n 0 17) := by
  obtain ⟨hg_O, hg_from, hg_to, hg_weight, hg_cost, hg_tail, hg_head, hg_by, hg_out, hg_in, hg_joined, hg_b⟩ := id hg
  refine Mt.of rfl (Nat.le_of_ble_eq_true rfl) ?_
  refine Rn.pick (lv' := [(0, .ref ga)]) [0] rfl ?_
  refine r_iconst (pc := 0) (v := iv 0) dX8_directedRing_0 (by decide) ?_
  refine r_istore_n (pc := 1) (lv' := [(1, .int (iv 0)), (0, .ref ga)]) dX8_directedRing_1 (i := 1) rfl (by decide) rfl ?_
  refine r_iconst (pc := 2) (v := iv 0) dX8_directedRing_2 (by decide) ?_
  refine r_istore_n (pc := 3) (lv' := [(2, .int (iv 0)), (1, .int (iv 0)), (0, .ref ga)]) dX8_directedRing_3 (i := 2) rfl (by decide) rfl ?_
  have B4 : ∀ k : Nat, ∀ hp4 : MH, Tw Γ hp4 → ∀  (v4_1 : Int) (v4_2 : Int), 0 ≤ v4_1 ∧ v4_1 ≤ 17 ∧ 0 ≤ v4_2 ∧ v4_2 ≤ 16 → 16 - v4_2 ≤ (k : Int) → Rn (gG D cI cJ cZ cT lo b L xs) mX8_directedRing d 4 [(0, .ref ga), (1, .int (iv v4_1)), (2, .int (iv v4_2))] [] hp4 n 0 0 (pR Γ n 0 17) := by
    refine lpS _ ?_
    intro k4 ih4 hp4 ht4 v4_1 v4_2 hf4 hm4
    refine r_iload_n (pc := 4) dX8_directedRing_4 (i := 2) rfl rfl ?_
    refine r_aload_n (pc := 5) dX8_directedRing_5 (i := 0) rfl rfl ?_
    refine t_getE (pc := 6) (.int (iv (gn : Int))) ht4 hg_O fX8_35 dX8_directedRing_6 rfl ?_
    refine t_icmp_ge (pc := 9) (tgt := 52) dX8_directedRing_9 (by decide) (by omega) (by omega) (fun c9 => ?_) (fun c9 => ?_)
    · refine r_iload_n (pc := 52) dX8_directedRing_52 (i := 1) rfl rfl ?_
      exact r_iret (pc := 53) dX8_directedRing_53 rfl ⟨rfl, ht4, _, rfl, by omega, by omega⟩
    · refine r_aload_n (pc := 12) dX8_directedRing_12 (i := 0) rfl rfl ?_
      refine t_getE (pc := 13) (.ref gOu) ht4 hg_O fX8_53 dX8_directedRing_13 rfl ?_
      refine r_aload_n (pc := 16) dX8_directedRing_16 (i := 0) rfl rfl ?_
      refine t_getE (pc := 17) (.ref gOu) ht4 hg_O fX8_53 dX8_directedRing_17 rfl ?_
      refine r_iload_n (pc := 20) dX8_directedRing_20 (i := 2) rfl rfl ?_
      refine t_ialdR (pc := 21) (t0 := 0) ht4 hg_out dX8_directedRing_21 rfl (by omega) (by omega) (fun y1 by1 => ?_)
      refine r_iload_n (pc := 22) dX8_directedRing_22 (i := 2) rfl rfl ?_
      refine t_callSR (pc := 23) (as := [.ref gOu, .int (iv y1), .int (iv v4_2)]) (st := []) kX8_56 dX8_directedRing_23 (t_X8_distance (d := d - 1) (rA := gOu) (rL := gn) (x1 := y1) (x2 := v4_2) (by omega)  hg_out (by omega) ht4 (by omega) (by omega) ) rfl (by omega) (Nat.le_of_ble_eq_true rfl) rfl (fun hp2 y4 ht3 by4 => ?_)
      refine r_istore_n (pc := 26) (lv' := [(3, .int (iv y4)), (0, .ref ga), (1, .int (iv v4_1)), (2, .int (iv v4_2))]) dX8_directedRing_26 (i := 3) rfl (by decide) rfl ?_
      refine r_iload_n (pc := 27) dX8_directedRing_27 (i := 3) rfl rfl ?_
      have B46 : ∀ hp46 : MH, Tw Γ hp46 → ∀  (v46_1 : Int), 0 ≤ v46_1 ∧ v46_1 ≤ 17 → Rn (gG D cI cJ cZ cT lo b L xs) mX8_directedRing d 46 [(0, .ref ga), (1, .int (iv v46_1)), (2, .int (iv v4_2))] [] hp46 n 0 0 (pR Γ n 0 17) := by
        intro hp46 ht46 v46_1 hf46
        refine r_iinc (pc := 46) (v := iv (v4_2 + 1)) (lv' := [(2, .int (iv (v4_2 + 1))), (0, .ref ga), (1, .int (iv v46_1))]) dX8_directedRing_46 rfl (iv_add _ _) (by decide) rfl ?_
        refine r_goto (pc := 49) (tgt := 4) dX8_directedRing_49 (by decide) ?_
        refine Rn.pick (lv' := [(0, .ref ga), (1, .int (iv v46_1)), (2, .int (iv (v4_2 + 1)))]) [1, 2, 0] rfl ?_
        exact ih4 (Int.toNat (16 - (v4_2 + 1))) (by omega) _ ht46 v46_1 (v4_2 + 1) ⟨by omega, by omega, by omega, by omega⟩ (by omega)
      refine t_if_lt (pc := 28) (tgt := 46) dX8_directedRing_28 (by decide) (by omega) (fun c28 => ?_) (fun c28 => ?_)
      · refine Rn.pick (lv' := [(0, .ref ga), (1, .int (iv v4_1)), (2, .int (iv v4_2))]) [1, 2, 3] rfl ?_
        exact B46 _ ht3 v4_1 ⟨by omega, by omega⟩
      · refine r_iload_n (pc := 31) dX8_directedRing_31 (i := 1) rfl rfl ?_
        have B42 : ∀ hp42 : MH, Tw Γ hp42 → True → Rn (gG D cI cJ cZ cT lo b L xs) mX8_directedRing d 42 [(0, .ref ga), (2, .int (iv v4_2)), (3, .int (iv y4))] [] hp42 n 0 0 (pR Γ n 0 17) := by
          intro hp42 ht42 hf42
          refine r_iload_n (pc := 42) dX8_directedRing_42 (i := 3) rfl rfl ?_
          refine r_iconst (pc := 43) (v := iv 1) dX8_directedRing_43 (by decide) ?_
          refine r_iadd (pc := 44) (v := iv (y4 + 1)) dX8_directedRing_44 (iv_add _ _) ?_
          refine r_istore_n (pc := 45) (lv' := [(1, .int (iv (y4 + 1))), (0, .ref ga), (2, .int (iv v4_2)), (3, .int (iv y4))]) dX8_directedRing_45 (i := 1) rfl (by decide) rfl ?_
          refine Rn.pick (lv' := [(0, .ref ga), (1, .int (iv (y4 + 1))), (2, .int (iv v4_2))]) [1, 0, 2] rfl ?_
          exact B46 _ ht42 (y4 + 1) ⟨by omega, by omega⟩
        refine t_if_eq (pc := 32) (tgt := 42) dX8_directedRing_32 (by decide) (by omega) (fun c32 => ?_) (fun c32 => ?_)
        · refine Rn.pick (lv' := [(0, .ref ga), (2, .int (iv v4_2)), (3, .int (iv y4))]) [1, 3, 0] rfl ?_
          exact B42 _ ht3 trivial
        · refine r_iload_n (pc := 35) dX8_directedRing_35 (i := 3) rfl rfl ?_
          refine r_iconst (pc := 36) (v := iv 1) dX8_directedRing_36 (by decide) ?_
          refine r_iadd (pc := 37) (v := iv (y4 + 1)) dX8_directedRing_37 (iv_add _ _) ?_
          refine r_iload_n (pc := 38) dX8_directedRing_38 (i := 1) rfl rfl ?_
          refine t_icmp_ge (pc := 39) (tgt := 46) dX8_directedRing_39 (by decide) (by omega) (by omega) (fun c39 => ?_) (fun c39 => ?_)
          · refine Rn.pick (lv' := [(0, .ref ga), (1, .int (iv v4_1)), (2, .int (iv v4_2))]) [1, 2, 3] rfl ?_
            exact B46 _ ht3 v4_1 ⟨by omega, by omega⟩
          · refine Rn.pick (lv' := [(0, .ref ga), (2, .int (iv v4_2)), (3, .int (iv y4))]) [1, 3, 0] rfl ?_
            exact B42 _ ht3 trivial
  refine Rn.pick (lv' := [(0, .ref ga), (1, .int (iv 0)), (2, .int (iv 0))]) [2, 1, 0] rfl ?_
  exact B4 (Int.toNat (16 - 0)) _ ht 0 0 ⟨by omega, by omega, by omega, by omega⟩ (by omega)
set_option maxHeartbeats 4000000 in
set_option maxRecDepth 100000 in
theorem t_X8_cut {D : va_G} {cI cJ cZ cT : ClassId} {lo b L : Nat} {xs : Nat → Int32} {hp : MH} {n d : Nat} {Γ : TG} {rA rL : Nat} {x1 x2 : Int} (hd0 : 0 ≤ d) (hrA : Γ rA = some (tI cI rL (rg 0 65535))) (hrL : rL ≤ 16) (ht : Tw Γ hp) (hx1 : 0 ≤ x1 ∧ x1 ≤ 15) (hx2 : 0 ≤ x2 ∧ x2 ≤ 15) (hxa : x1 < (rL : Int) ∧ x2 < (rL : Int)) : Mt (gG D cI cJ cZ cT lo b L xs) mX8_cut d 0 0 [.ref rA, .int (iv x1), .int (iv x2)] hp n (pV Γ n) := by
  refine Mt.of rfl (Nat.le_of_ble_eq_true rfl) ?_
  refine Rn.pick (lv' := [(0, .ref rA), (1, .int (iv x1)), (2, .int (iv x2))]) [0, 1, 2] rfl ?_
  refine r_aload_n (pc := 0) dX8_cut_0 (i := 0) rfl rfl ?_
  refine r_iload_n (pc := 1) dX8_cut_1 (i := 1) rfl rfl ?_
  refine r_dup2_11 (pc := 2) dX8_cut_2 rfl rfl ?_
  refine t_ialdR (pc := 3) (t0 := 0) ht (rd_of hrA) dX8_cut_3 rfl (by omega) (by omega) (fun y1 by1 => ?_)
  refine r_iconst (pc := 4) (v := iv 1) dX8_cut_4 (by decide) ?_
  refine r_iload_n (pc := 5) dX8_cut_5 (i := 2) rfl rfl ?_
  obtain ⟨z2, hz2, bz2⟩ := shl_1 0 15 x2 (by omega) (by omega) (by decide)
  refine r_ishl (pc := 6) (v := iv z2) dX8_cut_6 hz2 ?_
  refine r_iconst (pc := 7) (v := iv (-1)) dX8_cut_7 (by decide) ?_
  refine r_ixor (pc := 8) (v := iv (-z2 - 1)) dX8_cut_8 (iv_not _) ?_
  obtain ⟨z3, hz3, bz3⟩ := and_l y1 (-z2 - 1) (by omega) (by omega)
  refine r_iand (pc := 9) (v := iv z3) dX8_cut_9 hz3 ?_
  refine t_iastR (pc := 10) (t0 := 0) ht hrA dX8_cut_10 rfl (by omega) (by decide) (by omega) (by omega) (fun hp4 ht5 => ?_)
  refine r_aload_n (pc := 11) dX8_cut_11 (i := 0) rfl rfl ?_
  refine r_iload_n (pc := 12) dX8_cut_12 (i := 2) rfl rfl ?_
  refine r_dup2_11 (pc := 13) dX8_cut_13 rfl rfl ?_
  refine t_ialdR (pc := 14) (t0 := 0) ht5 (rd_of hrA) dX8_cut_14 rfl (by omega) (by omega) (fun y6 by6 => ?_)
  refine r_iconst (pc := 15) (v := iv 1) dX8_cut_15 (by decide) ?_
  refine r_iload_n (pc := 16) dX8_cut_16 (i := 1) rfl rfl ?_
  obtain ⟨z7, hz7, bz7⟩ := shl_1 0 15 x1 (by omega) (by omega) (by decide)
  refine r_ishl (pc := 17) (v := iv z7) dX8_cut_17 hz7 ?_
  refine r_iconst (pc := 18) (v := iv (-1)) dX8_cut_18 (by decide) ?_
  refine r_ixor (pc := 19) (v := iv (-z7 - 1)) dX8_cut_19 (iv_not _) ?_
  obtain ⟨z8, hz8, bz8⟩ := and_l y6 (-z7 - 1) (by omega) (by omega)
  refine r_iand (pc := 20) (v := iv z8) dX8_cut_20 hz8 ?_
  refine t_iastR (pc := 21) (t0 := 0) ht5 hrA dX8_cut_21 rfl (by omega) (by decide) (by omega) (by omega) (fun hp9 ht10 => ?_)
  exact r_vret (pc := 22) dX8_cut_22 rfl ⟨rfl, ht10, rfl⟩
set_option maxHeartbeats 4000000 in
set_option maxRecDepth 100000 in
theorem t_X8_ringOver {D : va_G} {cI cJ cZ cT : ClassId} {lo b L : Nat} {xs : Nat → Int32} {hp : MH} {n d : Nat} {Γ : TG} {ga : Nat} {gF : Nat} {gT : Nat} {gW : Nat} {gC : Nat} {gTl : Nat} {gHd : Nat} {gBy : Nat} {gOu : Nat} {gIn : Nat} {gJo : Nat} {gn : Nat} {gm : Nat} {gq : Nat} {gdr : Int} {rA : Nat} {x2 : Int} (hd0 : 2 ≤ d) (hg : TyG Γ cI cJ cZ ga gF gT gW gC gTl gHd gBy gOu gIn gJo gn gm gq gdr) (hrA : Γ rA = some (tI cI gn (rg 0 65535))) (ht : Tw Γ hp) (hx2 : 0 ≤ x2 ∧ x2 ≤ 59) (hk : x2 < (gm : Int)) : Mt (gG D cI cJ cZ cT lo b L xs) mX8_ringOver d 0 0 [.ref ga, .ref rA, .int (iv x2)] hp n (pR Γ n 0 17) := by
  obtain ⟨hg_O, hg_from, hg_to, hg_weight, hg_cost, hg_tail, hg_head, hg_by, hg_out, hg_in, hg_joined, hg_b⟩ := id hg
  refine Mt.of rfl (Nat.le_of_ble_eq_true rfl) ?_
  refine Rn.pick (lv' := [(0, .ref ga), (1, .ref rA), (2, .int (iv x2))]) [0, 1, 2] rfl ?_
  refine r_aload_n (pc := 0) dX8_ringOver_0 (i := 0) rfl rfl ?_
  refine t_getE (pc := 1) (.ref gF) ht hg_O fX8_72 dX8_ringOver_1 rfl ?_
  refine r_iload_n (pc := 4) dX8_ringOver_4 (i := 2) rfl rfl ?_
  refine t_ialdR (pc := 5) (t0 := 0) ht hg_from dX8_ringOver_5 rfl (by omega) (by omega) (fun y1 by1 => ?_)
  refine r_istore_n (pc := 6) (lv' := [(3, .int (iv y1)), (0, .ref ga), (1, .ref rA), (2, .int (iv x2))]) dX8_ringOver_6 (i := 3) rfl (by decide) rfl ?_
  refine r_aload_n (pc := 7) dX8_ringOver_7 (i := 0) rfl rfl ?_
  refine t_getE (pc := 8) (.ref gT) ht hg_O fX8_75 dX8_ringOver_8 rfl ?_
  refine r_iload_n (pc := 11) dX8_ringOver_11 (i := 2) rfl rfl ?_
  refine t_ialdR (pc := 12) (t0 := 0) ht hg_to dX8_ringOver_12 rfl (by omega) (by omega) (fun y2 by2 => ?_)
  refine r_istore (pc := 13) (lv' := [(4, .int (iv y2)), (3, .int (iv y1)), (0, .ref ga), (1, .ref rA), (2, .int (iv x2))]) dX8_ringOver_13 (by decide) rfl ?_
  refine r_iload_n (pc := 15) dX8_ringOver_15 (i := 3) rfl rfl ?_
  refine r_iload (pc := 16) dX8_ringOver_16 rfl ?_
  refine t_icmp_ne (pc := 18) (tgt := 23) dX8_ringOver_18 (by decide) (by omega) (by omega) (fun c18 => ?_) (fun c18 => ?_)
  · refine r_aload_n (pc := 23) dX8_ringOver_23 (i := 0) rfl rfl ?_
    refine r_iload_n (pc := 24) dX8_ringOver_24 (i := 2) rfl rfl ?_
    refine t_callVR (pc := 25) (as := [.int (iv x2)]) (st := []) ht hg_O kX8_78 rfl dX8_ringOver_25 (t_X3_hasTwin (d := d - 1) (x1 := x2) (by omega) hg  ht (by omega) (by omega)) rfl (by omega) (Nat.le_of_ble_eq_true rfl) rfl (fun hp3 y5 ht4 by5 => ?_)
    refine t_if_eq (pc := 28) (tgt := 33) dX8_ringOver_28 (by decide) (by omega) (fun c28 => ?_) (fun c28 => ?_)
    · refine r_aload_n (pc := 33) dX8_ringOver_33 (i := 1) rfl rfl ?_
      refine r_iload_n (pc := 34) dX8_ringOver_34 (i := 3) rfl rfl ?_
      refine r_iload (pc := 35) dX8_ringOver_35 rfl ?_
      refine t_callSV (pc := 37) (as := [.ref rA, .int (iv y1), .int (iv y2)]) (st := []) kX8_82 dX8_ringOver_37 (t_X8_cut (d := d - 1) (rA := rA) (rL := gn) (x1 := y1) (x2 := y2) (by omega)  hrA (by omega) ht4 (by omega) (by omega) (by omega)) rfl (by omega) (Nat.le_of_ble_eq_true rfl) rfl (fun hp6 ht7 => ?_)
      refine r_aload_n (pc := 40) dX8_ringOver_40 (i := 1) rfl rfl ?_
      refine r_iconst (pc := 41) (v := iv 1) dX8_ringOver_41 (by decide) ?_
      refine r_iload_n (pc := 42) dX8_ringOver_42 (i := 3) rfl rfl ?_
      obtain ⟨z9, hz9, bz9⟩ := shl_1 0 15 y1 (by omega) (by omega) (by decide)
      refine r_ishl (pc := 43) (v := iv z9) dX8_ringOver_43 hz9 ?_
      refine r_iload (pc := 44) dX8_ringOver_44 rfl ?_
      refine t_callSR (pc := 46) (as := [.ref rA, .int (iv z9), .int (iv y2)]) (st := []) kX8_56 dX8_ringOver_46 (t_X8_distance (d := d - 1) (rA := rA) (rL := gn) (x1 := z9) (x2 := y2) (by omega)  (rd_of hrA) (by omega) ht7 (by omega) (by omega) ) rfl (by omega) (Nat.le_of_ble_eq_true rfl) rfl (fun hp10 y12 ht11 by12 => ?_)
      refine r_istore (pc := 49) (lv' := [(5, .int (iv y12)), (4, .int (iv y2)), (3, .int (iv y1)), (0, .ref ga), (1, .ref rA), (2, .int (iv x2))]) dX8_ringOver_49 (by decide) rfl ?_
      refine r_aload_n (pc := 51) dX8_ringOver_51 (i := 1) rfl rfl ?_
      refine r_iload_n (pc := 52) dX8_ringOver_52 (i := 3) rfl rfl ?_
      refine r_dup2_11 (pc := 53) dX8_ringOver_53 rfl rfl ?_
      refine t_ialdR (pc := 54) (t0 := 0) ht11 (rd_of hrA) dX8_ringOver_54 rfl (by omega) (by omega) (fun y13 by13 => ?_)
      refine r_iconst (pc := 55) (v := iv 1) dX8_ringOver_55 (by decide) ?_
      refine r_iload (pc := 56) dX8_ringOver_56 rfl ?_
      obtain ⟨z14, hz14, bz14⟩ := shl_1 0 15 y2 (by omega) (by omega) (by decide)
      refine r_ishl (pc := 58) (v := iv z14) dX8_ringOver_58 hz14 ?_
      obtain ⟨z15, hz15, bz15⟩ := or_2 16 y13 z14 (by omega) (by omega) (by decide)
      refine r_ior (pc := 59) (v := iv z15) dX8_ringOver_59 hz15 ?_
      refine t_iastR (pc := 60) (t0 := 0) ht11 hrA dX8_ringOver_60 rfl (by omega) (by decide) (by omega) (by omega) (fun hp16 ht17 => ?_)
      refine r_aload_n (pc := 61) dX8_ringOver_61 (i := 1) rfl rfl ?_
      refine r_iload (pc := 62) dX8_ringOver_62 rfl ?_
      refine r_dup2_11 (pc := 64) dX8_ringOver_64 rfl rfl ?_
      refine t_ialdR (pc := 65) (t0 := 0) ht17 (rd_of hrA) dX8_ringOver_65 rfl (by omega) (by omega) (fun y18 by18 => ?_)
      refine r_iconst (pc := 66) (v := iv 1) dX8_ringOver_66 (by decide) ?_
      refine r_iload_n (pc := 67) dX8_ringOver_67 (i := 3) rfl rfl ?_
      obtain ⟨z19, hz19, bz19⟩ := shl_1 0 15 y1 (by omega) (by omega) (by decide)
      refine r_ishl (pc := 68) (v := iv z19) dX8_ringOver_68 hz19 ?_
      obtain ⟨z20, hz20, bz20⟩ := or_2 16 y18 z19 (by omega) (by omega) (by decide)
      refine r_ior (pc := 69) (v := iv z20) dX8_ringOver_69 hz20 ?_
      refine t_iastR (pc := 70) (t0 := 0) ht17 hrA dX8_ringOver_70 rfl (by omega) (by decide) (by omega) (by omega) (fun hp21 ht22 => ?_)
      refine r_iload (pc := 71) dX8_ringOver_71 rfl ?_
      refine r_iconst (pc := 73) (v := iv 1) dX8_ringOver_73 (by decide) ?_
      refine r_iadd (pc := 74) (v := iv (y12 + 1)) dX8_ringOver_74 (iv_add _ _) ?_
      exact r_iret (pc := 75) dX8_ringOver_75 rfl ⟨rfl, ht22, _, rfl, by omega, by omega⟩
    · refine r_iconst (pc := 31) (v := iv 2) dX8_ringOver_31 (by decide) ?_
      exact r_iret (pc := 32) dX8_ringOver_32 rfl ⟨rfl, ht4, _, rfl, by omega, by omega⟩
  · refine r_iconst (pc := 21) (v := iv 1) dX8_ringOver_21 (by decide) ?_
    exact r_iret (pc := 22) dX8_ringOver_22 rfl ⟨rfl, ht, _, rfl, by omega, by omega⟩
set_option maxHeartbeats 4000000 in
set_option maxRecDepth 100000 in
theorem t_X8_undirectedRing {D : va_G} {cI cJ cZ cT : ClassId} {lo b L : Nat} {xs : Nat → Int32} {hp : MH} {n d : Nat} {Γ : TG} {ga : Nat} {gF : Nat} {gT : Nat} {gW : Nat} {gC : Nat} {gTl : Nat} {gHd : Nat} {gBy : Nat} {gOu : Nat} {gIn : Nat} {gJo : Nat} {gn : Nat} {gm : Nat} {gq : Nat} {gdr : Int} (hd0 : 3 ≤ d) (hg : TyG Γ cI cJ cZ ga gF gT gW gC gTl gHd gBy gOu gIn gJo gn gm gq gdr) (ht : Tw Γ hp)  : Mt (gG D cI cJ cZ cT lo b L xs) mX8_undirectedRing d 1 gn [.ref ga] hp n (pR Γ (n + 1) 0 17) := by
  obtain ⟨hg_O, hg_from, hg_to, hg_weight, hg_cost, hg_tail, hg_head, hg_by, hg_out, hg_in, hg_joined, hg_b⟩ := id hg
  refine Mt.of rfl (Nat.le_of_ble_eq_true rfl) ?_
  refine Rn.pick (lv' := [(0, .ref ga)]) [0] rfl ?_
  refine r_iconst (pc := 0) (v := iv 0) dX8_undirectedRing_0 (by decide) ?_
  refine r_istore_n (pc := 1) (lv' := [(1, .int (iv 0)), (0, .ref ga)]) dX8_undirectedRing_1 (i := 1) rfl (by decide) rfl ?_
  refine r_aload_n (pc := 2) dX8_undirectedRing_2 (i := 0) rfl rfl ?_
  refine t_getE (pc := 3) (.ref gJo) ht hg_O fX8_60 dX8_undirectedRing_3 rfl ?_
  refine t_clone (pc := 6) (t0 := 0) ht hg_joined aX8_63 dX8_undirectedRing_6 rfl (Nat.le_of_ble_eq_true rfl) (by omega) (by omega) (fun hp1 Γ2 hE3 hN4 ht5 => ?_)
  refine t_castA (pc := 9) (t0 := 0) ht5 (rd_of hN4) dX8_undirectedRing_9 (tb_t (k := 711) (by decide +kernel)) rfl ?_
  refine r_astore_n (pc := 12) (lv' := [(2, .ref n), (1, .int (iv 0)), (0, .ref ga)]) dX8_undirectedRing_12 (i := 2) rfl (by decide) rfl ?_
  refine r_iconst (pc := 13) (v := iv 0) dX8_undirectedRing_13 (by decide) ?_
  refine r_istore_n (pc := 14) (lv' := [(3, .int (iv 0)), (2, .ref n), (1, .int (iv 0)), (0, .ref ga)]) dX8_undirectedRing_14 (i := 3) rfl (by decide) rfl ?_
  have B15 : ∀ k : Nat, ∀ hp15 : MH, Tw Γ2 hp15 → ∀  (v15_1 : Int) (v15_3 : Int), 0 ≤ v15_1 ∧ v15_1 ≤ 17 ∧ 0 ≤ v15_3 ∧ v15_3 ≤ 60 → 60 - v15_3 ≤ (k : Int) → Rn (gG D cI cJ cZ cT lo b L xs) mX8_undirectedRing d 15 [(0, .ref ga), (1, .int (iv v15_1)), (2, .ref n), (3, .int (iv v15_3))] [] hp15 (n + 1) (1 - 1) (gn - gn) (pR Γ (n + 1) 0 17) := by
    refine lpS _ ?_
    intro k15 ih15 hp15 ht15 v15_1 v15_3 hf15 hm15
    refine r_iload_n (pc := 15) dX8_undirectedRing_15 (i := 3) rfl rfl ?_
    refine r_aload_n (pc := 16) dX8_undirectedRing_16 (i := 0) rfl rfl ?_
    refine t_getE (pc := 17) (.int (iv (gm : Int))) ht15 (rd_ext hE3 hg_O) fX8_31 dX8_undirectedRing_17 rfl ?_
    refine t_icmp_ge (pc := 20) (tgt := 55) dX8_undirectedRing_20 (by decide) (by omega) (by omega) (fun c20 => ?_) (fun c20 => ?_)
    · refine r_iload_n (pc := 55) dX8_undirectedRing_55 (i := 1) rfl rfl ?_
      exact r_iret (pc := 56) dX8_undirectedRing_56 rfl ⟨rfl, (Tw_ext hE3 ht15), _, rfl, by omega, by omega⟩
    · refine r_aload_n (pc := 23) dX8_undirectedRing_23 (i := 0) rfl rfl ?_
      refine r_aload_n (pc := 24) dX8_undirectedRing_24 (i := 2) rfl rfl ?_
      refine r_iload_n (pc := 25) dX8_undirectedRing_25 (i := 3) rfl rfl ?_
      refine t_callSR (pc := 26) (as := [.ref ga, .ref n, .int (iv v15_3)]) (st := []) kX8_68 dX8_undirectedRing_26 (t_X8_ringOver (d := d - 1) (rA := n) (x2 := v15_3) (by omega) (TyG.ext hE3 hg) hN4 ht15 (by omega) (by omega)) rfl (by omega) (Nat.le_of_ble_eq_true rfl) rfl (fun hp6 y8 ht7 by8 => ?_)
      refine r_istore (pc := 29) (lv' := [(4, .int (iv y8)), (0, .ref ga), (1, .int (iv v15_1)), (2, .ref n), (3, .int (iv v15_3))]) dX8_undirectedRing_29 (by decide) rfl ?_
      refine r_iload (pc := 31) dX8_undirectedRing_31 rfl ?_
      have B49 : ∀ hp49 : MH, Tw Γ2 hp49 → ∀  (v49_1 : Int), 0 ≤ v49_1 ∧ v49_1 ≤ 17 → Rn (gG D cI cJ cZ cT lo b L xs) mX8_undirectedRing d 49 [(0, .ref ga), (1, .int (iv v49_1)), (2, .ref n), (3, .int (iv v15_3))] [] hp49 (n + 1) (1 - 1) (gn - gn) (pR Γ (n + 1) 0 17) := by
        intro hp49 ht49 v49_1 hf49
        refine r_iinc (pc := 49) (v := iv (v15_3 + 1)) (lv' := [(3, .int (iv (v15_3 + 1))), (0, .ref ga), (1, .int (iv v49_1)), (2, .ref n)]) dX8_undirectedRing_49 rfl (iv_add _ _) (by decide) rfl ?_
        refine r_goto (pc := 52) (tgt := 15) dX8_undirectedRing_52 (by decide) ?_
        refine Rn.pick (lv' := [(0, .ref ga), (1, .int (iv v49_1)), (2, .ref n), (3, .int (iv (v15_3 + 1)))]) [1, 2, 3, 0] rfl ?_
        exact ih15 (Int.toNat (60 - (v15_3 + 1))) (by omega) _ ht49 v49_1 (v15_3 + 1) ⟨by omega, by omega, by omega, by omega⟩ (by omega)
      refine t_if_le (pc := 33) (tgt := 49) dX8_undirectedRing_33 (by decide) (by omega) (fun c33 => ?_) (fun c33 => ?_)
      · refine Rn.pick (lv' := [(0, .ref ga), (1, .int (iv v15_1)), (2, .ref n), (3, .int (iv v15_3))]) [1, 2, 3, 4] rfl ?_
        exact B49 _ ht7 v15_1 ⟨by omega, by omega⟩
      · refine r_iload_n (pc := 36) dX8_undirectedRing_36 (i := 1) rfl rfl ?_
        have B46 : ∀ hp46 : MH, Tw Γ2 hp46 → True → Rn (gG D cI cJ cZ cT lo b L xs) mX8_undirectedRing d 46 [(0, .ref ga), (2, .ref n), (3, .int (iv v15_3)), (4, .int (iv y8))] [] hp46 (n + 1) (1 - 1) (gn - gn) (pR Γ (n + 1) 0 17) := by
          intro hp46 ht46 hf46
          refine r_iload (pc := 46) dX8_undirectedRing_46 rfl ?_
          refine r_istore_n (pc := 48) (lv' := [(1, .int (iv y8)), (0, .ref ga), (2, .ref n), (3, .int (iv v15_3)), (4, .int (iv y8))]) dX8_undirectedRing_48 (i := 1) rfl (by decide) rfl ?_
          refine Rn.pick (lv' := [(0, .ref ga), (1, .int (iv y8)), (2, .ref n), (3, .int (iv v15_3))]) [1, 0, 2, 3] rfl ?_
          exact B49 _ ht46 y8 ⟨by omega, by omega⟩
        refine t_if_eq (pc := 37) (tgt := 46) dX8_undirectedRing_37 (by decide) (by omega) (fun c37 => ?_) (fun c37 => ?_)
        · refine Rn.pick (lv' := [(0, .ref ga), (2, .ref n), (3, .int (iv v15_3)), (4, .int (iv y8))]) [1, 3, 4, 0] rfl ?_
          exact B46 _ ht7 trivial
        · refine r_iload (pc := 40) dX8_undirectedRing_40 rfl ?_
          refine r_iload_n (pc := 42) dX8_undirectedRing_42 (i := 1) rfl rfl ?_
          refine t_icmp_ge (pc := 43) (tgt := 49) dX8_undirectedRing_43 (by decide) (by omega) (by omega) (fun c43 => ?_) (fun c43 => ?_)
          · refine Rn.pick (lv' := [(0, .ref ga), (1, .int (iv v15_1)), (2, .ref n), (3, .int (iv v15_3))]) [1, 2, 3, 4] rfl ?_
            exact B49 _ ht7 v15_1 ⟨by omega, by omega⟩
          · refine Rn.pick (lv' := [(0, .ref ga), (2, .ref n), (3, .int (iv v15_3)), (4, .int (iv y8))]) [1, 3, 4, 0] rfl ?_
            exact B46 _ ht7 trivial
  refine Rn.pick (lv' := [(0, .ref ga), (1, .int (iv 0)), (2, .ref n), (3, .int (iv 0))]) [3, 2, 1, 0] rfl ?_
  exact B15 (Int.toNat (60 - 0)) _ ht5 0 0 ⟨by omega, by omega, by omega, by omega⟩ (by omega)
set_option maxHeartbeats 4000000 in
set_option maxRecDepth 100000 in
theorem t_X8_side {D : va_G} {cI cJ cZ cT : ClassId} {lo b L : Nat} {xs : Nat → Int32} {hp : MH} {n d : Nat} {Γ : TG} {ga : Nat} {gF : Nat} {gT : Nat} {gW : Nat} {gC : Nat} {gTl : Nat} {gHd : Nat} {gBy : Nat} {gOu : Nat} {gIn : Nat} {gJo : Nat} {gn : Nat} {gm : Nat} {gq : Nat} {gdr : Int} {x1 : Int} (hd0 : 1 ≤ d) (hg : TyG Γ cI cJ cZ ga gF gT gW gC gTl gHd gBy gOu gIn gJo gn gm gq gdr) (ht : Tw Γ hp) (hx1 : 0 ≤ x1 ∧ x1 ≤ 15) : Mt (gG D cI cJ cZ cT lo b L xs) mX8_side d 0 0 [.ref ga, .int (iv x1)] hp n (pR Γ n (-1) 1) := by
  obtain ⟨hg_O, hg_from, hg_to, hg_weight, hg_cost, hg_tail, hg_head, hg_by, hg_out, hg_in, hg_joined, hg_b⟩ := id hg
  refine Mt.of rfl (Nat.le_of_ble_eq_true rfl) ?_
  refine Rn.pick (lv' := [(0, .ref ga), (1, .int (iv x1))]) [0, 1] rfl ?_
  refine r_iconst (pc := 0) (v := iv 0) dX8_side_0 (by decide) ?_
  refine r_istore_n (pc := 1) (lv' := [(2, .int (iv 0)), (0, .ref ga), (1, .int (iv x1))]) dX8_side_1 (i := 2) rfl (by decide) rfl ?_
  refine r_iconst (pc := 2) (v := iv 0) dX8_side_2 (by decide) ?_
  refine r_istore_n (pc := 3) (lv' := [(3, .int (iv 0)), (2, .int (iv 0)), (0, .ref ga), (1, .int (iv x1))]) dX8_side_3 (i := 3) rfl (by decide) rfl ?_
  refine r_iconst (pc := 4) (v := iv 0) dX8_side_4 (by decide) ?_
  refine r_istore (pc := 5) (lv' := [(4, .int (iv 0)), (3, .int (iv 0)), (2, .int (iv 0)), (0, .ref ga), (1, .int (iv x1))]) dX8_side_5 (by decide) rfl ?_
  have B7 : ∀ k : Nat, ∀ hp7 : MH, Tw Γ hp7 → ∀  (v7_2 : Int) (v7_3 : Int) (v7_4 : Int), 0 ≤ v7_2 ∧ v7_2 ≤ 65535 ∧ 0 ≤ v7_3 ∧ v7_3 ≤ 65535 ∧ 0 ≤ v7_4 ∧ v7_4 ≤ 16 → 16 - v7_4 ≤ (k : Int) → Rn (gG D cI cJ cZ cT lo b L xs) mX8_side d 7 [(0, .ref ga), (1, .int (iv x1)), (2, .int (iv v7_2)), (3, .int (iv v7_3)), (4, .int (iv v7_4))] [] hp7 n 0 0 (pR Γ n (-1) 1) := by
    refine lpS _ ?_
    intro k7 ih7 hp7 ht7 v7_2 v7_3 v7_4 hf7 hm7
    refine r_iload (pc := 7) dX8_side_7 rfl ?_
    refine r_aload_n (pc := 9) dX8_side_9 (i := 0) rfl rfl ?_
    refine t_getE (pc := 10) (.int (iv (gn : Int))) ht7 hg_O fX8_35 dX8_side_10 rfl ?_
    refine t_icmp_ge (pc := 13) (tgt := 115) dX8_side_13 (by decide) (by omega) (by omega) (fun c13 => ?_) (fun c13 => ?_)
    · refine r_iconst (pc := 115) (v := iv 0) dX8_side_115 (by decide) ?_
      refine r_istore (pc := 116) (lv' := [(4, .int (iv 0)), (0, .ref ga), (1, .int (iv x1)), (2, .int (iv v7_2)), (3, .int (iv v7_3))]) dX8_side_116 (by decide) rfl ?_
      have B118 : ∀ k : Nat, ∀ hp118 : MH, Tw Γ hp118 → ∀  (v118_4 : Int), 0 ≤ v118_4 ∧ v118_4 ≤ 60 → 60 - v118_4 ≤ (k : Int) → Rn (gG D cI cJ cZ cT lo b L xs) mX8_side d 118 [(0, .ref ga), (1, .int (iv x1)), (2, .int (iv v7_2)), (3, .int (iv v7_3)), (4, .int (iv v118_4))] [] hp118 n 0 0 (pR Γ n (-1) 1) := by
        refine lpS _ ?_
        intro k118 ih118 hp118 ht118 v118_4 hf118 hm118
        refine r_iload (pc := 118) dX8_side_118 rfl ?_
        refine r_aload_n (pc := 120) dX8_side_120 (i := 0) rfl rfl ?_
        refine t_getE (pc := 121) (.int (iv (gm : Int))) ht118 hg_O fX8_31 dX8_side_121 rfl ?_
        refine t_icmp_ge (pc := 124) (tgt := 160) dX8_side_124 (by decide) (by omega) (by omega) (fun c124 => ?_) (fun c124 => ?_)
        · refine r_iload_n (pc := 160) dX8_side_160 (i := 3) rfl rfl ?_
          refine r_iload_n (pc := 161) dX8_side_161 (i := 1) rfl rfl ?_
          obtain ⟨z1, hz1, bz1⟩ := shr_x v7_3 x1 (by omega) (by omega)
          refine r_ishr (pc := 162) (v := iv z1) dX8_side_162 hz1 ?_
          refine r_iconst (pc := 163) (v := iv 1) dX8_side_163 (by decide) ?_
          obtain ⟨z2, hz2, bz2⟩ := and_2 z1 1 (by omega) (by omega)
          refine r_iand (pc := 164) (v := iv z2) dX8_side_164 hz2 ?_
          exact r_iret (pc := 165) dX8_side_165 rfl ⟨rfl, ht118, _, rfl, by omega, by omega⟩
        · refine r_iload_n (pc := 127) dX8_side_127 (i := 2) rfl rfl ?_
          refine r_aload_n (pc := 128) dX8_side_128 (i := 0) rfl rfl ?_
          refine t_getE (pc := 129) (.ref gF) ht118 hg_O fX8_72 dX8_side_129 rfl ?_
          refine r_iload (pc := 132) dX8_side_132 rfl ?_
          refine t_ialdR (pc := 134) (t0 := 0) ht118 hg_from dX8_side_134 rfl (by omega) (by omega) (fun y3 by3 => ?_)
          obtain ⟨z4, hz4, bz4⟩ := shr_x v7_2 y3 (by omega) (by omega)
          refine r_ishr (pc := 135) (v := iv z4) dX8_side_135 hz4 ?_
          refine r_iconst (pc := 136) (v := iv 1) dX8_side_136 (by decide) ?_
          obtain ⟨z5, hz5, bz5⟩ := and_2 z4 1 (by omega) (by omega)
          refine r_iand (pc := 137) (v := iv z5) dX8_side_137 hz5 ?_
          refine r_iload_n (pc := 138) dX8_side_138 (i := 2) rfl rfl ?_
          refine r_aload_n (pc := 139) dX8_side_139 (i := 0) rfl rfl ?_
          refine t_getE (pc := 140) (.ref gT) ht118 hg_O fX8_75 dX8_side_140 rfl ?_
          refine r_iload (pc := 143) dX8_side_143 rfl ?_
          refine t_ialdR (pc := 145) (t0 := 0) ht118 hg_to dX8_side_145 rfl (by omega) (by omega) (fun y6 by6 => ?_)
          obtain ⟨z7, hz7, bz7⟩ := shr_x v7_2 y6 (by omega) (by omega)
          refine r_ishr (pc := 146) (v := iv z7) dX8_side_146 hz7 ?_
          refine r_iconst (pc := 147) (v := iv 1) dX8_side_147 (by decide) ?_
          obtain ⟨z8, hz8, bz8⟩ := and_2 z7 1 (by omega) (by omega)
          refine r_iand (pc := 148) (v := iv z8) dX8_side_148 hz8 ?_
          refine t_icmp_ne (pc := 149) (tgt := 154) dX8_side_149 (by decide) (by omega) (by omega) (fun c149 => ?_) (fun c149 => ?_)
          · refine r_iinc (pc := 154) (v := iv (v118_4 + 1)) (lv' := [(4, .int (iv (v118_4 + 1))), (0, .ref ga), (1, .int (iv x1)), (2, .int (iv v7_2)), (3, .int (iv v7_3))]) dX8_side_154 rfl (iv_add _ _) (by decide) rfl ?_
            refine r_goto (pc := 157) (tgt := 118) dX8_side_157 (by decide) ?_
            refine Rn.pick (lv' := [(0, .ref ga), (1, .int (iv x1)), (2, .int (iv v7_2)), (3, .int (iv v7_3)), (4, .int (iv (v118_4 + 1)))]) [1, 2, 3, 4, 0] rfl ?_
            exact ih118 (Int.toNat (60 - (v118_4 + 1))) (by omega) _ ht118 (v118_4 + 1) ⟨by omega, by omega⟩ (by omega)
          · refine r_iconst (pc := 152) (v := iv (-1)) dX8_side_152 (by decide) ?_
            exact r_iret (pc := 153) dX8_side_153 rfl ⟨rfl, ht118, _, rfl, by omega, by omega⟩
      refine Rn.pick (lv' := [(0, .ref ga), (1, .int (iv x1)), (2, .int (iv v7_2)), (3, .int (iv v7_3)), (4, .int (iv 0))]) [1, 2, 3, 4, 0] rfl ?_
      exact B118 (Int.toNat (60 - 0)) _ ht7 0 ⟨by omega, by omega⟩ (by omega)
    · refine r_iload_n (pc := 16) dX8_side_16 (i := 2) rfl rfl ?_
      refine r_iload_n (pc := 17) dX8_side_17 (i := 3) rfl rfl ?_
      obtain ⟨z9, hz9, bz9⟩ := or_2 16 v7_2 v7_3 (by omega) (by omega) (by decide)
      refine r_ior (pc := 18) (v := iv z9) dX8_side_18 hz9 ?_
      refine r_iload (pc := 19) dX8_side_19 rfl ?_
      obtain ⟨z10, hz10, bz10⟩ := shr_x z9 v7_4 (by omega) (by omega)
      refine r_ishr (pc := 21) (v := iv z10) dX8_side_21 hz10 ?_
      refine r_iconst (pc := 22) (v := iv 1) dX8_side_22 (by decide) ?_
      obtain ⟨z11, hz11, bz11⟩ := and_2 z10 1 (by omega) (by omega)
      refine r_iand (pc := 23) (v := iv z11) dX8_side_23 hz11 ?_
      have B35 : ∀ hp35 : MH, Tw Γ hp35 → ∀  (u35_0 : Int), 0 ≤ u35_0 ∧ u35_0 ≤ 32768 → Rn (gG D cI cJ cZ cT lo b L xs) mX8_side d 35 [(0, .ref ga), (1, .int (iv x1)), (2, .int (iv v7_2)), (3, .int (iv v7_3)), (4, .int (iv v7_4))] [.int (iv u35_0)] hp35 n 0 0 (pR Γ n (-1) 1) := by
        intro hp35 ht35 u35_0 hf35
        refine r_istore (pc := 35) (lv' := [(5, .int (iv u35_0)), (0, .ref ga), (1, .int (iv x1)), (2, .int (iv v7_2)), (3, .int (iv v7_3)), (4, .int (iv v7_4))]) dX8_side_35 (by decide) rfl ?_
        refine r_iconst (pc := 37) (v := iv 0) dX8_side_37 (by decide) ?_
        refine r_istore (pc := 38) (lv' := [(6, .int (iv 0)), (5, .int (iv u35_0)), (0, .ref ga), (1, .int (iv x1)), (2, .int (iv v7_2)), (3, .int (iv v7_3)), (4, .int (iv v7_4))]) dX8_side_38 (by decide) rfl ?_
        have B40 : ∀ k : Nat, ∀ hp40 : MH, Tw Γ hp40 → ∀  (v40_2 : Int) (v40_3 : Int) (v40_5 : Int) (v40_6 : Int), 0 ≤ v40_2 ∧ v40_2 ≤ 65535 ∧ v7_2 ≤ v40_2 ∧ 0 ≤ v40_3 ∧ v40_3 ≤ 65535 ∧ v7_3 ≤ v40_3 ∧ 0 ≤ v40_5 ∧ v40_5 ≤ 65535 ∧ 0 ≤ v40_6 ∧ v40_6 ≤ 16 → 16 - v40_6 ≤ (k : Int) → Rn (gG D cI cJ cZ cT lo b L xs) mX8_side d 40 [(0, .ref ga), (1, .int (iv x1)), (2, .int (iv v40_2)), (3, .int (iv v40_3)), (4, .int (iv v7_4)), (5, .int (iv v40_5)), (6, .int (iv v40_6))] [] hp40 n 0 0 (pR Γ n (-1) 1) := by
          refine lpS _ ?_
          intro k40 ih40 hp40 ht40 v40_2 v40_3 v40_5 v40_6 hf40 hm40
          refine r_iload (pc := 40) dX8_side_40 rfl ?_
          refine r_bipush (pc := 42) (v := iv 16) dX8_side_42 (by decide) ?_
          have B109 : ∀ hp109 : MH, Tw Γ hp109 → True → Rn (gG D cI cJ cZ cT lo b L xs) mX8_side d 109 [(0, .ref ga), (1, .int (iv x1)), (2, .int (iv v40_2)), (3, .int (iv v40_3)), (4, .int (iv v7_4))] [] hp109 n 0 0 (pR Γ n (-1) 1) := by
            intro hp109 ht109 hf109
            refine r_iinc (pc := 109) (v := iv (v7_4 + 1)) (lv' := [(4, .int (iv (v7_4 + 1))), (0, .ref ga), (1, .int (iv x1)), (2, .int (iv v40_2)), (3, .int (iv v40_3))]) dX8_side_109 rfl (iv_add _ _) (by decide) rfl ?_
            refine r_goto (pc := 112) (tgt := 7) dX8_side_112 (by decide) ?_
            refine Rn.pick (lv' := [(0, .ref ga), (1, .int (iv x1)), (2, .int (iv v40_2)), (3, .int (iv v40_3)), (4, .int (iv (v7_4 + 1)))]) [1, 2, 3, 4, 0] rfl ?_
            exact ih7 (Int.toNat (16 - (v7_4 + 1))) (by omega) _ ht109 v40_2 v40_3 (v7_4 + 1) ⟨by omega, by omega, by omega, by omega, by omega, by omega⟩ (by omega)
          refine t_icmp_ge (pc := 44) (tgt := 109) dX8_side_44 (by decide) (by omega) (by omega) (fun c44 => ?_) (fun c44 => ?_)
          · refine Rn.pick (lv' := [(0, .ref ga), (1, .int (iv x1)), (2, .int (iv v40_2)), (3, .int (iv v40_3)), (4, .int (iv v7_4))]) [0, 1, 2, 3, 4] rfl ?_
            exact B109 _ ht40 trivial
          · refine r_iload (pc := 47) dX8_side_47 rfl ?_
            refine t_if_eq (pc := 49) (tgt := 109) dX8_side_49 (by decide) (by omega) (fun c49 => ?_) (fun c49 => ?_)
            · refine Rn.pick (lv' := [(0, .ref ga), (1, .int (iv x1)), (2, .int (iv v40_2)), (3, .int (iv v40_3)), (4, .int (iv v7_4))]) [0, 1, 2, 3, 4] rfl ?_
              exact B109 _ ht40 trivial
            · refine r_iload_n (pc := 52) dX8_side_52 (i := 2) rfl rfl ?_
              refine r_iload (pc := 53) dX8_side_53 rfl ?_
              refine r_iconst (pc := 55) (v := iv 2) dX8_side_55 (by decide) ?_
              obtain ⟨z12, hz12, bz12⟩ := any_i (iv v40_6 - iv v40_6 / iv 2 * iv 2)
              refine r_irem (pc := 56) (v := iv z12) dX8_side_56 (by decide) hz12 ?_
              have B66 : ∀ hp66 : MH, Tw Γ hp66 → ∀  (u66_1 : Int), 0 ≤ u66_1 ∧ u66_1 ≤ 65535 → Rn (gG D cI cJ cZ cT lo b L xs) mX8_side d 66 [(0, .ref ga), (1, .int (iv x1)), (3, .int (iv v40_3)), (4, .int (iv v7_4)), (5, .int (iv v40_5)), (6, .int (iv v40_6))] [.int (iv u66_1), .int (iv v40_2)] hp66 n 0 0 (pR Γ n (-1) 1) := by
                intro hp66 ht66 u66_1 hf66
                obtain ⟨z13, hz13, bz13⟩ := or_2 16 v40_2 u66_1 (by omega) (by omega) (by decide)
                refine r_ior (pc := 66) (v := iv z13) dX8_side_66 hz13 ?_
                refine r_istore_n (pc := 67) (lv' := [(2, .int (iv z13)), (0, .ref ga), (1, .int (iv x1)), (3, .int (iv v40_3)), (4, .int (iv v7_4)), (5, .int (iv v40_5)), (6, .int (iv v40_6))]) dX8_side_67 (i := 2) rfl (by decide) rfl ?_
                refine r_iload_n (pc := 68) dX8_side_68 (i := 3) rfl rfl ?_
                refine r_iload (pc := 69) dX8_side_69 rfl ?_
                refine r_iconst (pc := 71) (v := iv 2) dX8_side_71 (by decide) ?_
                obtain ⟨z14, hz14, bz14⟩ := any_i (iv v40_6 - iv v40_6 / iv 2 * iv 2)
                refine r_irem (pc := 72) (v := iv z14) dX8_side_72 (by decide) hz14 ?_
                have B82 : ∀ hp82 : MH, Tw Γ hp82 → ∀  (u82_1 : Int), 0 ≤ u82_1 ∧ u82_1 ≤ 65535 → Rn (gG D cI cJ cZ cT lo b L xs) mX8_side d 82 [(0, .ref ga), (1, .int (iv x1)), (2, .int (iv z13)), (4, .int (iv v7_4)), (5, .int (iv v40_5)), (6, .int (iv v40_6))] [.int (iv u82_1), .int (iv v40_3)] hp82 n 0 0 (pR Γ n (-1) 1) := by
                  intro hp82 ht82 u82_1 hf82
                  obtain ⟨z15, hz15, bz15⟩ := or_2 16 v40_3 u82_1 (by omega) (by omega) (by decide)
                  refine r_ior (pc := 82) (v := iv z15) dX8_side_82 hz15 ?_
                  refine r_istore_n (pc := 83) (lv' := [(3, .int (iv z15)), (0, .ref ga), (1, .int (iv x1)), (2, .int (iv z13)), (4, .int (iv v7_4)), (5, .int (iv v40_5)), (6, .int (iv v40_6))]) dX8_side_83 (i := 3) rfl (by decide) rfl ?_
                  refine r_aload_n (pc := 84) dX8_side_84 (i := 0) rfl rfl ?_
                  refine t_getE (pc := 85) (.ref gJo) ht82 hg_O fX8_60 dX8_side_85 rfl ?_
                  refine r_iload (pc := 88) dX8_side_88 rfl ?_
                  refine t_callSR (pc := 90) (as := [.ref gJo, .int (iv v40_5)]) (st := []) kX8_21 dX8_side_90 (t_X8_spread (d := d - 1) (rA := gJo) (rL := gn) (x1 := v40_5) (by omega)  hg_joined (by omega) ht82 (by omega) ) rfl (by omega) (Nat.le_of_ble_eq_true rfl) rfl (fun hp16 y18 ht17 by18 => ?_)
                  refine r_iload_n (pc := 93) dX8_side_93 (i := 2) rfl rfl ?_
                  refine r_iconst (pc := 94) (v := iv (-1)) dX8_side_94 (by decide) ?_
                  refine r_ixor (pc := 95) (v := iv (-z13 - 1)) dX8_side_95 (iv_not _) ?_
                  obtain ⟨z19, hz19, bz19⟩ := and_l y18 (-z13 - 1) (by omega) (by omega)
                  refine r_iand (pc := 96) (v := iv z19) dX8_side_96 hz19 ?_
                  refine r_iload_n (pc := 97) dX8_side_97 (i := 3) rfl rfl ?_
                  refine r_iconst (pc := 98) (v := iv (-1)) dX8_side_98 (by decide) ?_
                  refine r_ixor (pc := 99) (v := iv (-z15 - 1)) dX8_side_99 (iv_not _) ?_
                  obtain ⟨z20, hz20, bz20⟩ := and_l z19 (-z15 - 1) (by omega) (by omega)
                  refine r_iand (pc := 100) (v := iv z20) dX8_side_100 hz20 ?_
                  refine r_istore (pc := 101) (lv' := [(5, .int (iv z20)), (3, .int (iv z15)), (0, .ref ga), (1, .int (iv x1)), (2, .int (iv z13)), (4, .int (iv v7_4)), (6, .int (iv v40_6))]) dX8_side_101 (by decide) rfl ?_
                  refine r_iinc (pc := 103) (v := iv (v40_6 + 1)) (lv' := [(6, .int (iv (v40_6 + 1))), (5, .int (iv z20)), (3, .int (iv z15)), (0, .ref ga), (1, .int (iv x1)), (2, .int (iv z13)), (4, .int (iv v7_4))]) dX8_side_103 rfl (iv_add _ _) (by decide) rfl ?_
                  refine r_goto (pc := 106) (tgt := 40) dX8_side_106 (by decide) ?_
                  refine Rn.pick (lv' := [(0, .ref ga), (1, .int (iv x1)), (2, .int (iv z13)), (3, .int (iv z15)), (4, .int (iv v7_4)), (5, .int (iv z20)), (6, .int (iv (v40_6 + 1)))]) [3, 4, 5, 2, 6, 1, 0] rfl ?_
                  exact ih40 (Int.toNat (16 - (v40_6 + 1))) (by omega) _ ht17 z13 z15 z20 (v40_6 + 1) ⟨by omega, by omega, by omega, by omega, by omega, by omega, by omega, by omega, by omega, by omega⟩ (by omega)
                refine t_if_ne (pc := 73) (tgt := 80) dX8_side_73 (by decide) (by omega) (fun c73 => ?_) (fun c73 => ?_)
                · refine r_iload (pc := 80) dX8_side_80 rfl ?_
                  refine Rn.pick (lv' := [(0, .ref ga), (1, .int (iv x1)), (2, .int (iv z13)), (4, .int (iv v7_4)), (5, .int (iv v40_5)), (6, .int (iv v40_6))]) [1, 2, 0, 4, 5, 6] rfl ?_
                  exact B82 _ ht66 v40_5 ⟨by omega, by omega⟩
                · refine r_iconst (pc := 76) (v := iv 0) dX8_side_76 (by decide) ?_
                  refine r_goto (pc := 77) (tgt := 82) dX8_side_77 (by decide) ?_
                  refine Rn.pick (lv' := [(0, .ref ga), (1, .int (iv x1)), (2, .int (iv z13)), (4, .int (iv v7_4)), (5, .int (iv v40_5)), (6, .int (iv v40_6))]) [1, 2, 0, 4, 5, 6] rfl ?_
                  exact B82 _ ht66 0 ⟨by omega, by omega⟩
              refine t_if_ne (pc := 57) (tgt := 65) dX8_side_57 (by decide) (by omega) (fun c57 => ?_) (fun c57 => ?_)
              · refine r_iconst (pc := 65) (v := iv 0) dX8_side_65 (by decide) ?_
                refine Rn.pick (lv' := [(0, .ref ga), (1, .int (iv x1)), (3, .int (iv v40_3)), (4, .int (iv v7_4)), (5, .int (iv v40_5)), (6, .int (iv v40_6))]) [0, 1, 3, 4, 5, 6] rfl ?_
                exact B66 _ ht40 0 ⟨by omega, by omega⟩
              · refine r_iload (pc := 60) dX8_side_60 rfl ?_
                refine r_goto (pc := 62) (tgt := 66) dX8_side_62 (by decide) ?_
                refine Rn.pick (lv' := [(0, .ref ga), (1, .int (iv x1)), (3, .int (iv v40_3)), (4, .int (iv v7_4)), (5, .int (iv v40_5)), (6, .int (iv v40_6))]) [0, 1, 3, 4, 5, 6] rfl ?_
                exact B66 _ ht40 v40_5 ⟨by omega, by omega⟩
        refine Rn.pick (lv' := [(0, .ref ga), (1, .int (iv x1)), (2, .int (iv v7_2)), (3, .int (iv v7_3)), (4, .int (iv v7_4)), (5, .int (iv u35_0)), (6, .int (iv 0))]) [2, 3, 4, 5, 6, 1, 0] rfl ?_
        exact B40 (Int.toNat (16 - 0)) _ ht35 v7_2 v7_3 u35_0 0 ⟨by omega, by omega, by omega, by omega, by omega, by omega, by omega, by omega, by omega, by omega⟩ (by omega)
      refine t_if_ne (pc := 24) (tgt := 34) dX8_side_24 (by decide) (by omega) (fun c24 => ?_) (fun c24 => ?_)
      · refine r_iconst (pc := 34) (v := iv 0) dX8_side_34 (by decide) ?_
        refine Rn.pick (lv' := [(0, .ref ga), (1, .int (iv x1)), (2, .int (iv v7_2)), (3, .int (iv v7_3)), (4, .int (iv v7_4))]) [0, 1, 2, 3, 4] rfl ?_
        exact B35 _ ht7 0 ⟨by omega, by omega⟩
      · refine r_iconst (pc := 27) (v := iv 1) dX8_side_27 (by decide) ?_
        refine r_iload (pc := 28) dX8_side_28 rfl ?_
        obtain ⟨z21, hz21, bz21⟩ := shl_1 0 15 v7_4 (by omega) (by omega) (by decide)
        refine r_ishl (pc := 30) (v := iv z21) dX8_side_30 hz21 ?_
        refine r_goto (pc := 31) (tgt := 35) dX8_side_31 (by decide) ?_
        refine Rn.pick (lv' := [(0, .ref ga), (1, .int (iv x1)), (2, .int (iv v7_2)), (3, .int (iv v7_3)), (4, .int (iv v7_4))]) [0, 1, 2, 3, 4] rfl ?_
        exact B35 _ ht7 z21 ⟨by omega, by omega⟩
  refine Rn.pick (lv' := [(0, .ref ga), (1, .int (iv x1)), (2, .int (iv 0)), (3, .int (iv 0)), (4, .int (iv 0))]) [3, 4, 2, 1, 0] rfl ?_
  exact B7 (Int.toNat (16 - 0)) _ ht 0 0 0 ⟨by omega, by omega, by omega, by omega, by omega, by omega⟩ (by omega)
set_option maxHeartbeats 4000000 in
set_option maxRecDepth 100000 in
theorem t_X8_blocks {D : va_G} {cI cJ cZ cT : ClassId} {lo b L : Nat} {xs : Nat → Int32} {hp : MH} {n d : Nat} {Γ : TG} {ga : Nat} {gF : Nat} {gT : Nat} {gW : Nat} {gC : Nat} {gTl : Nat} {gHd : Nat} {gBy : Nat} {gOu : Nat} {gIn : Nat} {gJo : Nat} {gn : Nat} {gm : Nat} {gq : Nat} {gdr : Int} {x1 : Int} (hd0 : 2 ≤ d) (hg : TyG Γ cI cJ cZ ga gF gT gW gC gTl gHd gBy gOu gIn gJo gn gm gq gdr) (ht : Tw Γ hp) (hx1 : 0 ≤ x1 ∧ x1 ≤ 15) : Mt (gG D cI cJ cZ cT lo b L xs) mX8_blocks d 0 0 [.ref ga, .int (iv x1)] hp n (pR Γ n (-2147483648) 2147483647) := by
  obtain ⟨hg_O, hg_from, hg_to, hg_weight, hg_cost, hg_tail, hg_head, hg_by, hg_out, hg_in, hg_joined, hg_b⟩ := id hg
  refine Mt.of rfl (Nat.le_of_ble_eq_true rfl) ?_
  refine Rn.pick (lv' := [(0, .ref ga), (1, .int (iv x1))]) [0, 1] rfl ?_
  refine r_aload_n (pc := 0) dX8_blocks_0 (i := 0) rfl rfl ?_
  refine t_getE (pc := 1) (.ref gJo) ht hg_O fX8_60 dX8_blocks_1 rfl ?_
  refine r_iconst (pc := 4) (v := iv 1) dX8_blocks_4 (by decide) ?_
  refine r_iload_n (pc := 5) dX8_blocks_5 (i := 1) rfl rfl ?_
  obtain ⟨z1, hz1, bz1⟩ := shl_1 0 15 x1 (by omega) (by omega) (by decide)
  refine r_ishl (pc := 6) (v := iv z1) dX8_blocks_6 hz1 ?_
  refine r_aload_n (pc := 7) dX8_blocks_7 (i := 0) rfl rfl ?_
  refine t_callVR (pc := 8) (as := []) (st := [.int (iv z1), .ref gJo]) ht hg_O kX8_86 rfl dX8_blocks_8 (t_X3_allNodes (d := d - 1)  (by omega) hg  ht  ) rfl (by omega) (Nat.le_of_ble_eq_true rfl) rfl (fun hp2 y4 ht3 by4 => ?_)
  refine t_callSR (pc := 11) (as := [.ref gJo, .int (iv z1), .int (iv y4)]) (st := []) kX8_90 dX8_blocks_11 (t_X8_reach (d := d - 1) (rA := gJo) (rL := gn) (x1 := z1) (x2 := y4) (by omega)  hg_joined (by omega) ht3 (by omega) (by omega) ) rfl (by omega) (Nat.le_of_ble_eq_true rfl) rfl (fun hp5 y7 ht6 by7 => ?_)
  refine r_iconst (pc := 14) (v := iv 1) dX8_blocks_14 (by decide) ?_
  refine r_iload_n (pc := 15) dX8_blocks_15 (i := 1) rfl rfl ?_
  obtain ⟨z8, hz8, bz8⟩ := shl_1 0 15 x1 (by omega) (by omega) (by decide)
  refine r_ishl (pc := 16) (v := iv z8) dX8_blocks_16 hz8 ?_
  refine r_iconst (pc := 17) (v := iv (-1)) dX8_blocks_17 (by decide) ?_
  refine r_ixor (pc := 18) (v := iv (-z8 - 1)) dX8_blocks_18 (iv_not _) ?_
  obtain ⟨z9, hz9, bz9⟩ := and_l y7 (-z8 - 1) (by omega) (by omega)
  refine r_iand (pc := 19) (v := iv z9) dX8_blocks_19 hz9 ?_
  refine r_istore_n (pc := 20) (lv' := [(2, .int (iv z9)), (0, .ref ga), (1, .int (iv x1))]) dX8_blocks_20 (i := 2) rfl (by decide) rfl ?_
  refine r_iconst (pc := 21) (v := iv 0) dX8_blocks_21 (by decide) ?_
  refine r_istore_n (pc := 22) (lv' := [(3, .int (iv 0)), (2, .int (iv z9)), (0, .ref ga), (1, .int (iv x1))]) dX8_blocks_22 (i := 3) rfl (by decide) rfl ?_
  refine r_iconst (pc := 23) (v := iv 0) dX8_blocks_23 (by decide) ?_
  refine r_istore (pc := 24) (lv' := [(4, .int (iv 0)), (3, .int (iv 0)), (2, .int (iv z9)), (0, .ref ga), (1, .int (iv x1))]) dX8_blocks_24 (by decide) rfl ?_
  have B26 : ∀ k : Nat, ∀ hp26 : MH, Tw Γ hp26 → ∀  (v26_2 : Int) (v26_3 : Int) (v26_4 : Int), 0 ≤ v26_2 ∧ v26_2 ≤ 65535 ∧ v26_2 ≤ z9 ∧ (-2147483648) ≤ v26_3 ∧ v26_3 ≤ 2147483647 ∧ 0 ≤ v26_4 ∧ v26_4 ≤ 16 → 16 - v26_4 ≤ (k : Int) → Rn (gG D cI cJ cZ cT lo b L xs) mX8_blocks d 26 [(0, .ref ga), (2, .int (iv v26_2)), (3, .int (iv v26_3)), (4, .int (iv v26_4))] [] hp26 n 0 0 (pR Γ n (-2147483648) 2147483647) := by
    refine lpS _ ?_
    intro k26 ih26 hp26 ht26 v26_2 v26_3 v26_4 hf26 hm26
    refine r_iload (pc := 26) dX8_blocks_26 rfl ?_
    refine r_bipush (pc := 28) (v := iv 16) dX8_blocks_28 (by decide) ?_
    have B63 : ∀ hp63 : MH, Tw Γ hp63 → True → Rn (gG D cI cJ cZ cT lo b L xs) mX8_blocks d 63 [(3, .int (iv v26_3))] [] hp63 n 0 0 (pR Γ n (-2147483648) 2147483647) := by
      intro hp63 ht63 hf63
      refine r_iload_n (pc := 63) dX8_blocks_63 (i := 3) rfl rfl ?_
      exact r_iret (pc := 64) dX8_blocks_64 rfl ⟨rfl, ht63, _, rfl, by omega, by omega⟩
    refine t_icmp_ge (pc := 30) (tgt := 63) dX8_blocks_30 (by decide) (by omega) (by omega) (fun c30 => ?_) (fun c30 => ?_)
    · refine Rn.pick (lv' := [(3, .int (iv v26_3))]) [2] rfl ?_
      exact B63 _ ht26 trivial
    · refine r_iload_n (pc := 33) dX8_blocks_33 (i := 2) rfl rfl ?_
      refine t_if_eq (pc := 34) (tgt := 63) dX8_blocks_34 (by decide) (by omega) (fun c34 => ?_) (fun c34 => ?_)
      · refine Rn.pick (lv' := [(3, .int (iv v26_3))]) [2] rfl ?_
        exact B63 _ ht26 trivial
      · refine r_iload_n (pc := 37) dX8_blocks_37 (i := 2) rfl rfl ?_
        refine r_aload_n (pc := 38) dX8_blocks_38 (i := 0) rfl rfl ?_
        refine t_getE (pc := 39) (.ref gJo) ht26 hg_O fX8_60 dX8_blocks_39 rfl ?_
        refine r_iload_n (pc := 42) dX8_blocks_42 (i := 2) rfl rfl ?_
        refine r_iload_n (pc := 43) dX8_blocks_43 (i := 2) rfl rfl ?_
        refine r_ineg (pc := 44) (v := iv (-v26_2)) dX8_blocks_44 (iv_neg _) ?_
        obtain ⟨z10, hz10, bz10⟩ := and_l v26_2 (-v26_2) (by omega) (by omega)
        refine r_iand (pc := 45) (v := iv z10) dX8_blocks_45 hz10 ?_
        refine r_iload_n (pc := 46) dX8_blocks_46 (i := 2) rfl rfl ?_
        refine t_callSR (pc := 47) (as := [.ref gJo, .int (iv z10), .int (iv v26_2)]) (st := [.int (iv v26_2)]) kX8_90 dX8_blocks_47 (t_X8_reach (d := d - 1) (rA := gJo) (rL := gn) (x1 := z10) (x2 := v26_2) (by omega)  hg_joined (by omega) ht26 (by omega) (by omega) ) rfl (by omega) (Nat.le_of_ble_eq_true rfl) rfl (fun hp11 y13 ht12 by13 => ?_)
        refine r_iconst (pc := 50) (v := iv (-1)) dX8_blocks_50 (by decide) ?_
        refine r_ixor (pc := 51) (v := iv (-y13 - 1)) dX8_blocks_51 (iv_not _) ?_
        obtain ⟨z14, hz14, bz14⟩ := and_l v26_2 (-y13 - 1) (by omega) (by omega)
        refine r_iand (pc := 52) (v := iv z14) dX8_blocks_52 hz14 ?_
        refine r_istore_n (pc := 53) (lv' := [(2, .int (iv z14)), (0, .ref ga), (3, .int (iv v26_3)), (4, .int (iv v26_4))]) dX8_blocks_53 (i := 2) rfl (by decide) rfl ?_
        obtain ⟨z15, hz15, bz15⟩ := any_i (iv v26_3 + iv 1)
        refine r_iinc (pc := 54) (v := iv z15) (lv' := [(3, .int (iv z15)), (2, .int (iv z14)), (0, .ref ga), (4, .int (iv v26_4))]) dX8_blocks_54 rfl hz15 (by decide) rfl ?_
        refine r_iinc (pc := 57) (v := iv (v26_4 + 1)) (lv' := [(4, .int (iv (v26_4 + 1))), (3, .int (iv z15)), (2, .int (iv z14)), (0, .ref ga)]) dX8_blocks_57 rfl (iv_add _ _) (by decide) rfl ?_
        refine r_goto (pc := 60) (tgt := 26) dX8_blocks_60 (by decide) ?_
        refine Rn.pick (lv' := [(0, .ref ga), (2, .int (iv z14)), (3, .int (iv z15)), (4, .int (iv (v26_4 + 1)))]) [3, 2, 1, 0] rfl ?_
        exact ih26 (Int.toNat (16 - (v26_4 + 1))) (by omega) _ ht12 z14 z15 (v26_4 + 1) ⟨by omega, by omega, by omega, by omega, by omega, by omega, by omega⟩ (by omega)
  refine Rn.pick (lv' := [(0, .ref ga), (2, .int (iv z9)), (3, .int (iv 0)), (4, .int (iv 0))]) [3, 2, 1, 0] rfl ?_
  exact B26 (Int.toNat (16 - 0)) _ ht6 z9 0 0 ⟨by omega, by omega, by omega, by omega, by omega, by omega, by omega⟩ (by omega)
set_option maxHeartbeats 4000000 in
set_option maxRecDepth 100000 in
theorem t_X8_lightestArc {D : va_G} {cI cJ cZ cT : ClassId} {lo b L : Nat} {xs : Nat → Int32} {hp : MH} {n d : Nat} {Γ : TG} {ga : Nat} {gF : Nat} {gT : Nat} {gW : Nat} {gC : Nat} {gTl : Nat} {gHd : Nat} {gBy : Nat} {gOu : Nat} {gIn : Nat} {gJo : Nat} {gn : Nat} {gm : Nat} {gq : Nat} {gdr : Int} {j1 : Int64} (hd0 : 0 ≤ d) (hg : TyG Γ cI cJ cZ ga gF gT gW gC gTl gHd gBy gOu gIn gJo gn gm gq gdr) (ht : Tw Γ hp)  : Mt (gG D cI cJ cZ cT lo b L xs) mX8_lightestArc d 0 0 [.ref ga, .long j1] hp n (pI Γ n (fun r => -1 ≤ r ∧ r ≤ 59 ∧ r < (gm : Int))) := by
  obtain ⟨hg_O, hg_from, hg_to, hg_weight, hg_cost, hg_tail, hg_head, hg_by, hg_out, hg_in, hg_joined, hg_b⟩ := id hg
  refine Mt.of rfl (Nat.le_of_ble_eq_true rfl) ?_
  refine Rn.pick (lv' := [(0, .ref ga), (1, .long j1)]) [0, 1] rfl ?_
  refine r_iconst (pc := 0) (v := iv (-1)) dX8_lightestArc_0 (by decide) ?_
  refine r_istore_n (pc := 1) (lv' := [(3, .int (iv (-1))), (0, .ref ga), (1, .long j1)]) dX8_lightestArc_1 (i := 3) rfl (by decide) rfl ?_
  refine r_iconst (pc := 2) (v := iv 0) dX8_lightestArc_2 (by decide) ?_
  refine r_istore (pc := 3) (lv' := [(4, .int (iv 0)), (3, .int (iv (-1))), (0, .ref ga), (1, .long j1)]) dX8_lightestArc_3 (by decide) rfl ?_
  have B5 : ∀ k : Nat, ∀ hp5 : MH, Tw Γ hp5 → ∀  (v5_3 : Int) (v5_4 : Int), (-1) ≤ v5_3 ∧ v5_3 ≤ 59 ∧ 0 ≤ v5_4 ∧ v5_4 ≤ 60 ∧ v5_3 < (gm : Int) → 60 - v5_4 ≤ (k : Int) → Rn (gG D cI cJ cZ cT lo b L xs) mX8_lightestArc d 5 [(0, .ref ga), (1, .long j1), (3, .int (iv v5_3)), (4, .int (iv v5_4))] [] hp5 n 0 0 (pI Γ n (fun r => -1 ≤ r ∧ r ≤ 59 ∧ r < (gm : Int))) := by
    refine lpS _ ?_
    intro k5 ih5 hp5 ht5 v5_3 v5_4 hf5 hm5
    refine r_iload (pc := 5) dX8_lightestArc_5 rfl ?_
    refine r_aload_n (pc := 7) dX8_lightestArc_7 (i := 0) rfl rfl ?_
    refine t_getE (pc := 8) (.int (iv (gm : Int))) ht5 hg_O fX8_31 dX8_lightestArc_8 rfl ?_
    refine t_icmp_ge (pc := 11) (tgt := 54) dX8_lightestArc_11 (by decide) (by omega) (by omega) (fun c11 => ?_) (fun c11 => ?_)
    · refine r_iload_n (pc := 54) dX8_lightestArc_54 (i := 3) rfl rfl ?_
      exact r_iret (pc := 55) dX8_lightestArc_55 rfl ⟨rfl, ht5, _, rfl, by omega, by omega, by omega⟩
    · refine r_lload_n (pc := 14) dX8_lightestArc_14 (i := 1) rfl rfl ?_
      refine r_iload (pc := 15) dX8_lightestArc_15 rfl ?_
      refine r_lshr (pc := 17) dX8_lightestArc_17 ?_
      refine r_lconst (pc := 18) (v := 1) dX8_lightestArc_18 (by decide) ?_
      refine r_land (pc := 19) (v := (j1 >>> ((iv v5_4).toInt64 &&& 63)) &&& (1 : Int64)) dX8_lightestArc_19 rfl ?_
      refine r_lconst (pc := 20) (v := 0) dX8_lightestArc_20 (by decide) ?_
      refine r_lcmp (pc := 21) dX8_lightestArc_21 ?_
      have B48 : ∀ hp48 : MH, Tw Γ hp48 → ∀  (v48_3 : Int), (-1) ≤ v48_3 ∧ v48_3 ≤ 59 ∧ v48_3 < (gm : Int) → Rn (gG D cI cJ cZ cT lo b L xs) mX8_lightestArc d 48 [(0, .ref ga), (1, .long j1), (3, .int (iv v48_3)), (4, .int (iv v5_4))] [] hp48 n 0 0 (pI Γ n (fun r => -1 ≤ r ∧ r ≤ 59 ∧ r < (gm : Int))) := by
        intro hp48 ht48 v48_3 hf48
        refine r_iinc (pc := 48) (v := iv (v5_4 + 1)) (lv' := [(4, .int (iv (v5_4 + 1))), (0, .ref ga), (1, .long j1), (3, .int (iv v48_3))]) dX8_lightestArc_48 rfl (iv_add _ _) (by decide) rfl ?_
        refine r_goto (pc := 51) (tgt := 5) dX8_lightestArc_51 (by decide) ?_
        refine Rn.pick (lv' := [(0, .ref ga), (1, .long j1), (3, .int (iv v48_3)), (4, .int (iv (v5_4 + 1)))]) [1, 2, 3, 0] rfl ?_
        exact ih5 (Int.toNat (60 - (v5_4 + 1))) (by omega) _ ht48 v48_3 (v5_4 + 1) ⟨by omega, by omega, by omega, by omega, by omega⟩ (by omega)
      refine r_if_ne (pc := 22) (tgt := 48) dX8_lightestArc_22 (by decide) (fun c22 => ?_) (fun c22 => ?_)
      · refine Rn.pick (lv' := [(0, .ref ga), (1, .long j1), (3, .int (iv v5_3)), (4, .int (iv v5_4))]) [0, 1, 2, 3] rfl ?_
        exact B48 _ ht5 v5_3 ⟨by omega, by omega, by omega⟩
      · refine r_iload_n (pc := 25) dX8_lightestArc_25 (i := 3) rfl rfl ?_
        have B45 : ∀ hp45 : MH, Tw Γ hp45 → True → Rn (gG D cI cJ cZ cT lo b L xs) mX8_lightestArc d 45 [(0, .ref ga), (1, .long j1), (4, .int (iv v5_4))] [] hp45 n 0 0 (pI Γ n (fun r => -1 ≤ r ∧ r ≤ 59 ∧ r < (gm : Int))) := by
          intro hp45 ht45 hf45
          refine r_iload (pc := 45) dX8_lightestArc_45 rfl ?_
          refine r_istore_n (pc := 47) (lv' := [(3, .int (iv v5_4)), (0, .ref ga), (1, .long j1), (4, .int (iv v5_4))]) dX8_lightestArc_47 (i := 3) rfl (by decide) rfl ?_
          refine Rn.pick (lv' := [(0, .ref ga), (1, .long j1), (3, .int (iv v5_4)), (4, .int (iv v5_4))]) [1, 2, 0, 3] rfl ?_
          exact B48 _ ht45 v5_4 ⟨by omega, by omega, by omega⟩
        refine t_if_lt (pc := 26) (tgt := 45) dX8_lightestArc_26 (by decide) (by omega) (fun c26 => ?_) (fun c26 => ?_)
        · refine Rn.pick (lv' := [(0, .ref ga), (1, .long j1), (4, .int (iv v5_4))]) [0, 1, 3] rfl ?_
          exact B45 _ ht5 trivial
        · refine r_aload_n (pc := 29) dX8_lightestArc_29 (i := 0) rfl rfl ?_
          refine t_getE (pc := 30) (.ref gW) ht5 hg_O fX8_97 dX8_lightestArc_30 rfl ?_
          refine r_iload (pc := 33) dX8_lightestArc_33 rfl ?_
          refine t_ialdR (pc := 35) (t0 := 0) ht5 hg_weight dX8_lightestArc_35 rfl (by omega) (by omega) (fun y1 by1 => ?_)
          refine r_aload_n (pc := 36) dX8_lightestArc_36 (i := 0) rfl rfl ?_
          refine t_getE (pc := 37) (.ref gW) ht5 hg_O fX8_97 dX8_lightestArc_37 rfl ?_
          refine r_iload_n (pc := 40) dX8_lightestArc_40 (i := 3) rfl rfl ?_
          refine t_ialdR (pc := 41) (t0 := 0) ht5 hg_weight dX8_lightestArc_41 rfl (by omega) (by omega) (fun y2 by2 => ?_)
          refine t_icmp_ge (pc := 42) (tgt := 48) dX8_lightestArc_42 (by decide) (by omega) (by omega) (fun c42 => ?_) (fun c42 => ?_)
          · refine Rn.pick (lv' := [(0, .ref ga), (1, .long j1), (3, .int (iv v5_3)), (4, .int (iv v5_4))]) [0, 1, 2, 3] rfl ?_
            exact B48 _ ht5 v5_3 ⟨by omega, by omega, by omega⟩
          · refine Rn.pick (lv' := [(0, .ref ga), (1, .long j1), (4, .int (iv v5_4))]) [0, 1, 3] rfl ?_
            exact B45 _ ht5 trivial
  refine Rn.pick (lv' := [(0, .ref ga), (1, .long j1), (3, .int (iv (-1))), (4, .int (iv 0))]) [2, 3, 1, 0] rfl ?_
  exact B5 (Int.toNat (60 - 0)) _ ht (-1) 0 ⟨by omega, by omega, by omega, by omega, by omega⟩ (by omega)
set_option maxHeartbeats 4000000 in
set_option maxRecDepth 100000 in
theorem t_X8_unite {D : va_G} {cI cJ cZ cT : ClassId} {lo b L : Nat} {xs : Nat → Int32} {hp : MH} {n d : Nat} {Γ : TG} {rA rL : Nat} {x1 x2 : Int} (hd0 : 0 ≤ d) (hrA : Γ rA = some (tI cI rL (rg 0 15))) (hrL : rL ≤ 16) (ht : Tw Γ hp) (hx1 : 0 ≤ x1 ∧ x1 ≤ 15) (hx2 : 0 ≤ x2 ∧ x2 ≤ 15) : Mt (gG D cI cJ cZ cT lo b L xs) mX8_unite d 0 0 [.ref rA, .int (iv x1), .int (iv x2)] hp n (pR Γ n 0 1) := by
  refine Mt.of rfl (Nat.le_of_ble_eq_true rfl) ?_
  refine Rn.pick (lv' := [(0, .ref rA), (1, .int (iv x1)), (2, .int (iv x2))]) [0, 1, 2] rfl ?_
  refine r_iload_n (pc := 0) dX8_unite_0 (i := 1) rfl rfl ?_
  refine r_iload_n (pc := 1) dX8_unite_1 (i := 2) rfl rfl ?_
  refine t_icmp_ne (pc := 2) (tgt := 7) dX8_unite_2 (by decide) (by omega) (by omega) (fun c2 => ?_) (fun c2 => ?_)
  · refine r_iconst (pc := 7) (v := iv 0) dX8_unite_7 (by decide) ?_
    refine r_istore_n (pc := 8) (lv' := [(3, .int (iv 0)), (0, .ref rA), (1, .int (iv x1)), (2, .int (iv x2))]) dX8_unite_8 (i := 3) rfl (by decide) rfl ?_
    have B9 : ∀ k : Nat, ∀ hp9 : MH, Tw Γ hp9 → ∀  (v9_3 : Int), 0 ≤ v9_3 ∧ v9_3 ≤ 16 → 16 - v9_3 ≤ (k : Int) → Rn (gG D cI cJ cZ cT lo b L xs) mX8_unite d 9 [(0, .ref rA), (1, .int (iv x1)), (2, .int (iv x2)), (3, .int (iv v9_3))] [] hp9 n 0 0 (pR Γ n 0 1) := by
      refine lpS _ ?_
      intro k9 ih9 hp9 ht9 v9_3 hf9 hm9
      refine r_iload_n (pc := 9) dX8_unite_9 (i := 3) rfl rfl ?_
      refine r_aload_n (pc := 10) dX8_unite_10 (i := 0) rfl rfl ?_
      refine t_lenI (pc := 11) (t0 := 0) ht9 (rd_of hrA) dX8_unite_11 rfl ?_
      refine t_icmp_ge (pc := 12) (tgt := 38) dX8_unite_12 (by decide) (by omega) (by omega) (fun c12 => ?_) (fun c12 => ?_)
      · refine r_iconst (pc := 38) (v := iv 1) dX8_unite_38 (by decide) ?_
        exact r_zret (pc := 39) dX8_unite_39 rfl (iv_nar (by omega)) ⟨rfl, ht9, _, rfl, by omega, by omega⟩
      · refine r_aload_n (pc := 15) dX8_unite_15 (i := 0) rfl rfl ?_
        refine r_iload_n (pc := 16) dX8_unite_16 (i := 3) rfl rfl ?_
        refine r_aload_n (pc := 17) dX8_unite_17 (i := 0) rfl rfl ?_
        refine r_iload_n (pc := 18) dX8_unite_18 (i := 3) rfl rfl ?_
        refine t_ialdR (pc := 19) (t0 := 0) ht9 (rd_of hrA) dX8_unite_19 rfl (by omega) (by omega) (fun y1 by1 => ?_)
        refine r_iload_n (pc := 20) dX8_unite_20 (i := 2) rfl rfl ?_
        have B31 : ∀ hp31 : MH, Tw Γ hp31 → ∀  (u31_2 : Int), 0 ≤ u31_2 ∧ u31_2 ≤ 15 → Rn (gG D cI cJ cZ cT lo b L xs) mX8_unite d 31 [(0, .ref rA), (1, .int (iv x1)), (2, .int (iv x2)), (3, .int (iv v9_3))] [.int (iv u31_2), .int (iv v9_3), .ref rA] hp31 n 0 0 (pR Γ n 0 1) := by
          intro hp31 ht31 u31_2 hf31
          refine t_iastR (pc := 31) (t0 := 0) ht31 hrA dX8_unite_31 rfl (by omega) (by decide) (by omega) (by omega) (fun hp2 ht3 => ?_)
          refine r_iinc (pc := 32) (v := iv (v9_3 + 1)) (lv' := [(3, .int (iv (v9_3 + 1))), (0, .ref rA), (1, .int (iv x1)), (2, .int (iv x2))]) dX8_unite_32 rfl (iv_add _ _) (by decide) rfl ?_
          refine r_goto (pc := 35) (tgt := 9) dX8_unite_35 (by decide) ?_
          refine Rn.pick (lv' := [(0, .ref rA), (1, .int (iv x1)), (2, .int (iv x2)), (3, .int (iv (v9_3 + 1)))]) [1, 2, 3, 0] rfl ?_
          exact ih9 (Int.toNat (16 - (v9_3 + 1))) (by omega) _ ht3 (v9_3 + 1) ⟨by omega, by omega⟩ (by omega)
        refine t_icmp_ne (pc := 21) (tgt := 28) dX8_unite_21 (by decide) (by omega) (by omega) (fun c21 => ?_) (fun c21 => ?_)
        · refine r_aload_n (pc := 28) dX8_unite_28 (i := 0) rfl rfl ?_
          refine r_iload_n (pc := 29) dX8_unite_29 (i := 3) rfl rfl ?_
          refine t_ialdR (pc := 30) (t0 := 0) ht9 (rd_of hrA) dX8_unite_30 rfl (by omega) (by omega) (fun y4 by4 => ?_)
          refine Rn.pick (lv' := [(0, .ref rA), (1, .int (iv x1)), (2, .int (iv x2)), (3, .int (iv v9_3))]) [0, 1, 2, 3] rfl ?_
          exact B31 _ ht9 y4 ⟨by omega, by omega⟩
        · refine r_iload_n (pc := 24) dX8_unite_24 (i := 1) rfl rfl ?_
          refine r_goto (pc := 25) (tgt := 31) dX8_unite_25 (by decide) ?_
          refine Rn.pick (lv' := [(0, .ref rA), (1, .int (iv x1)), (2, .int (iv x2)), (3, .int (iv v9_3))]) [0, 1, 2, 3] rfl ?_
          exact B31 _ ht9 x1 ⟨by omega, by omega⟩
    refine Rn.pick (lv' := [(0, .ref rA), (1, .int (iv x1)), (2, .int (iv x2)), (3, .int (iv 0))]) [1, 2, 3, 0] rfl ?_
    exact B9 (Int.toNat (16 - 0)) _ ht 0 ⟨by omega, by omega⟩ (by omega)
  · refine r_iconst (pc := 5) (v := iv 0) dX8_unite_5 (by decide) ?_
    exact r_zret (pc := 6) dX8_unite_6 rfl (iv_nar (by omega)) ⟨rfl, ht, _, rfl, by omega, by omega⟩
set_option maxHeartbeats 4000000 in
set_option maxRecDepth 100000 in
theorem t_X8_lightArcs {D : va_G} {cI cJ cZ cT : ClassId} {lo b L : Nat} {xs : Nat → Int32} {hp : MH} {n d : Nat} {Γ : TG} {ga : Nat} {gF : Nat} {gT : Nat} {gW : Nat} {gC : Nat} {gTl : Nat} {gHd : Nat} {gBy : Nat} {gOu : Nat} {gIn : Nat} {gJo : Nat} {gn : Nat} {gm : Nat} {gq : Nat} {gdr : Int} (hd0 : 1 ≤ d) (hg : TyG Γ cI cJ cZ ga gF gT gW gC gTl gHd gBy gOu gIn gJo gn gm gq gdr) (ht : Tw Γ hp)  : Mt (gG D cI cJ cZ cT lo b L xs) mX8_lightArcs d 1 gn [.ref ga] hp n (pJ Γ (n + 1) yes64) := by
  obtain ⟨hg_O, hg_from, hg_to, hg_weight, hg_cost, hg_tail, hg_head, hg_by, hg_out, hg_in, hg_joined, hg_b⟩ := id hg
  refine Mt.of rfl (Nat.le_of_ble_eq_true rfl) ?_
  refine Rn.pick (lv' := [(0, .ref ga)]) [0] rfl ?_
  refine r_aload_n (pc := 0) dX8_lightArcs_0 (i := 0) rfl rfl ?_
  refine t_getE (pc := 1) (.int (iv (gn : Int))) ht hg_O fX8_35 dX8_lightArcs_1 rfl ?_
  refine t_newI (pc := 4) (t0 := 0) (N := gn) 0 15 ht dX8_lightArcs_4 (tb_t (k := 68) (w := Cond.arrayClass .int) (by decide +kernel)) rfl (by omega) (by omega) (by decide) (by omega) (by omega) (fun hp1 Γ2 hE3 hN4 ht5 => ?_)
  refine r_astore_n (pc := 6) (lv' := [(1, .ref n), (0, .ref ga)]) dX8_lightArcs_6 (i := 1) rfl (by decide) rfl ?_
  refine r_iconst (pc := 7) (v := iv 0) dX8_lightArcs_7 (by decide) ?_
  refine r_istore_n (pc := 8) (lv' := [(2, .int (iv 0)), (1, .ref n), (0, .ref ga)]) dX8_lightArcs_8 (i := 2) rfl (by decide) rfl ?_
  have B9 : ∀ k : Nat, ∀ hp9 : MH, Tw Γ2 hp9 → ∀  (v9_2 : Int), 0 ≤ v9_2 ∧ v9_2 ≤ 16 → 16 - v9_2 ≤ (k : Int) → Rn (gG D cI cJ cZ cT lo b L xs) mX8_lightArcs d 9 [(0, .ref ga), (1, .ref n), (2, .int (iv v9_2))] [] hp9 (n + 1) (1 - 1) (gn - gn) (pJ Γ (n + 1) yes64) := by
    refine lpS _ ?_
    intro k9 ih9 hp9 ht9 v9_2 hf9 hm9
    refine r_iload_n (pc := 9) dX8_lightArcs_9 (i := 2) rfl rfl ?_
    refine r_aload_n (pc := 10) dX8_lightArcs_10 (i := 0) rfl rfl ?_
    refine t_getE (pc := 11) (.int (iv (gn : Int))) ht9 (rd_ext hE3 hg_O) fX8_35 dX8_lightArcs_11 rfl ?_
    refine t_icmp_ge (pc := 14) (tgt := 27) dX8_lightArcs_14 (by decide) (by omega) (by omega) (fun c14 => ?_) (fun c14 => ?_)
    · refine r_lconst (pc := 27) (v := 0) dX8_lightArcs_27 (by decide) ?_
      refine r_lstore_n (pc := 28) (lv' := [(2, .long (0 : Int64)), (0, .ref ga), (1, .ref n)]) dX8_lightArcs_28 (i := 2) rfl (by decide) rfl ?_
      refine r_lconst (pc := 29) (v := 0) dX8_lightArcs_29 (by decide) ?_
      refine r_lstore (pc := 30) (lv' := [(4, .long (0 : Int64)), (2, .long (0 : Int64)), (0, .ref ga), (1, .ref n)]) dX8_lightArcs_30 (by decide) rfl ?_
      refine r_iconst (pc := 32) (v := iv 0) dX8_lightArcs_32 (by decide) ?_
      refine r_istore (pc := 33) (lv' := [(6, .int (iv 0)), (4, .long (0 : Int64)), (2, .long (0 : Int64)), (0, .ref ga), (1, .ref n)]) dX8_lightArcs_33 (by decide) rfl ?_
      have B35 : ∀ k : Nat, ∀ hp35 : MH, Tw Γ2 hp35 → ∀  (v35_6 : Int) (w35_2 : Int64) (w35_4 : Int64), 0 ≤ v35_6 ∧ v35_6 ≤ 60 → 60 - v35_6 ≤ (k : Int) → Rn (gG D cI cJ cZ cT lo b L xs) mX8_lightArcs d 35 [(0, .ref ga), (1, .ref n), (2, .long w35_2), (4, .long w35_4), (6, .int (iv v35_6))] [] hp35 (n + 1) (1 - 1) (gn - gn) (pJ Γ (n + 1) yes64) := by
        refine lpS _ ?_
        intro k35 ih35 hp35 ht35 v35_6 w35_2 w35_4 hf35 hm35
        refine r_iload (pc := 35) dX8_lightArcs_35 rfl ?_
        refine r_aload_n (pc := 37) dX8_lightArcs_37 (i := 0) rfl rfl ?_
        refine t_getE (pc := 38) (.int (iv (gm : Int))) ht35 (rd_ext hE3 hg_O) fX8_31 dX8_lightArcs_38 rfl ?_
        refine t_icmp_ge (pc := 41) (tgt := 107) dX8_lightArcs_41 (by decide) (by omega) (by omega) (fun c41 => ?_) (fun c41 => ?_)
        · refine r_lload (pc := 107) dX8_lightArcs_107 rfl ?_
          exact r_lret (pc := 109) dX8_lightArcs_109 rfl ⟨rfl, (Tw_ext hE3 ht35), _, rfl, trivial⟩
        · refine r_aload_n (pc := 44) dX8_lightArcs_44 (i := 0) rfl rfl ?_
          refine r_lload_n (pc := 45) dX8_lightArcs_45 (i := 2) rfl rfl ?_
          refine t_callSI (pc := 46) (as := [.ref ga, .long w35_2]) (st := []) kX8_100 dX8_lightArcs_46 (t_X8_lightestArc (d := d - 1) (j1 := w35_2) (by omega) (TyG.ext hE3 hg)  ht35  ) rfl (by omega) (Nat.le_of_ble_eq_true rfl) rfl (fun hp6 y8 ht7 by8 => ?_)
          obtain ⟨by81, by82, by83⟩ := by8
          refine r_istore (pc := 49) (lv' := [(7, .int (iv y8)), (0, .ref ga), (1, .ref n), (2, .long w35_2), (4, .long w35_4), (6, .int (iv v35_6))]) dX8_lightArcs_49 (by decide) rfl ?_
          refine r_iload (pc := 51) dX8_lightArcs_51 rfl ?_
          have B101 : ∀ hp101 : MH, Tw Γ2 hp101 → ∀  (w101_2 : Int64) (w101_4 : Int64), True → Rn (gG D cI cJ cZ cT lo b L xs) mX8_lightArcs d 101 [(0, .ref ga), (1, .ref n), (2, .long w101_2), (4, .long w101_4), (6, .int (iv v35_6))] [] hp101 (n + 1) (1 - 1) (gn - gn) (pJ Γ (n + 1) yes64) := by
            intro hp101 ht101 w101_2 w101_4 hf101
            refine r_iinc (pc := 101) (v := iv (v35_6 + 1)) (lv' := [(6, .int (iv (v35_6 + 1))), (0, .ref ga), (1, .ref n), (2, .long w101_2), (4, .long w101_4)]) dX8_lightArcs_101 rfl (iv_add _ _) (by decide) rfl ?_
            refine r_goto (pc := 104) (tgt := 35) dX8_lightArcs_104 (by decide) ?_
            refine Rn.pick (lv' := [(0, .ref ga), (1, .ref n), (2, .long w101_2), (4, .long w101_4), (6, .int (iv (v35_6 + 1)))]) [1, 2, 3, 4, 0] rfl ?_
            exact ih35 (Int.toNat (60 - (v35_6 + 1))) (by omega) _ ht101 (v35_6 + 1) w101_2 w101_4 ⟨by omega, by omega⟩ (by omega)
          refine t_if_lt (pc := 53) (tgt := 101) dX8_lightArcs_53 (by decide) (by omega) (fun c53 => ?_) (fun c53 => ?_)
          · refine Rn.pick (lv' := [(0, .ref ga), (1, .ref n), (2, .long w35_2), (4, .long w35_4), (6, .int (iv v35_6))]) [1, 2, 3, 4, 5] rfl ?_
            exact B101 _ ht7 w35_2 w35_4 trivial
          · refine r_lload_n (pc := 56) dX8_lightArcs_56 (i := 2) rfl rfl ?_
            refine r_lconst (pc := 57) (v := 1) dX8_lightArcs_57 (by decide) ?_
            refine r_iload (pc := 58) dX8_lightArcs_58 rfl ?_
            refine r_lshl (pc := 60) dX8_lightArcs_60 ?_
            refine r_lor (pc := 61) (v := w35_2 ||| ((1 : Int64) <<< ((iv y8).toInt64 &&& 63))) dX8_lightArcs_61 rfl ?_
            refine r_lstore_n (pc := 62) (lv' := [(2, .long (w35_2 ||| ((1 : Int64) <<< ((iv y8).toInt64 &&& 63)))), (7, .int (iv y8)), (0, .ref ga), (1, .ref n), (4, .long w35_4), (6, .int (iv v35_6))]) dX8_lightArcs_62 (i := 2) rfl (by decide) rfl ?_
            refine r_lload (pc := 63) dX8_lightArcs_63 rfl ?_
            refine r_aload_n (pc := 65) dX8_lightArcs_65 (i := 1) rfl rfl ?_
            refine r_aload_n (pc := 66) dX8_lightArcs_66 (i := 1) rfl rfl ?_
            refine r_aload_n (pc := 67) dX8_lightArcs_67 (i := 0) rfl rfl ?_
            refine t_getE (pc := 68) (.ref gF) ht7 (rd_ext hE3 hg_O) fX8_72 dX8_lightArcs_68 rfl ?_
            refine r_iload (pc := 71) dX8_lightArcs_71 rfl ?_
            refine t_ialdR (pc := 73) (t0 := 0) ht7 (rd_ext hE3 hg_from) dX8_lightArcs_73 rfl (by omega) (by omega) (fun y9 by9 => ?_)
            refine t_ialdR (pc := 74) (t0 := 0) ht7 (rd_of hN4) dX8_lightArcs_74 rfl (by omega) (by omega) (fun y10 by10 => ?_)
            refine r_aload_n (pc := 75) dX8_lightArcs_75 (i := 1) rfl rfl ?_
            refine r_aload_n (pc := 76) dX8_lightArcs_76 (i := 0) rfl rfl ?_
            refine t_getE (pc := 77) (.ref gT) ht7 (rd_ext hE3 hg_O) fX8_75 dX8_lightArcs_77 rfl ?_
            refine r_iload (pc := 80) dX8_lightArcs_80 rfl ?_
            refine t_ialdR (pc := 82) (t0 := 0) ht7 (rd_ext hE3 hg_to) dX8_lightArcs_82 rfl (by omega) (by omega) (fun y11 by11 => ?_)
            refine t_ialdR (pc := 83) (t0 := 0) ht7 (rd_of hN4) dX8_lightArcs_83 rfl (by omega) (by omega) (fun y12 by12 => ?_)
            refine t_callSR (pc := 84) (as := [.ref n, .int (iv y10), .int (iv y12)]) (st := [.long w35_4]) kX8_104 dX8_lightArcs_84 (t_X8_unite (d := d - 1) (rA := n) (rL := gn) (x1 := y10) (x2 := y12) (by omega)  hN4 (by omega) ht7 (by omega) (by omega) ) rfl (by omega) (Nat.le_of_ble_eq_true rfl) rfl (fun hp13 y15 ht14 by15 => ?_)
            have B98 : ∀ hp98 : MH, Tw Γ2 hp98 → ∀  (x98_1 : Int64), True → Rn (gG D cI cJ cZ cT lo b L xs) mX8_lightArcs d 98 [(0, .ref ga), (1, .ref n), (2, .long (w35_2 ||| ((1 : Int64) <<< ((iv y8).toInt64 &&& 63)))), (6, .int (iv v35_6))] [.long x98_1, .long w35_4] hp98 (n + 1) (1 - 1) (gn - gn) (pJ Γ (n + 1) yes64) := by
              intro hp98 ht98 x98_1 hf98
              refine r_lor (pc := 98) (v := w35_4 ||| x98_1) dX8_lightArcs_98 rfl ?_
              refine r_lstore (pc := 99) (lv' := [(4, .long (w35_4 ||| x98_1)), (0, .ref ga), (1, .ref n), (2, .long (w35_2 ||| ((1 : Int64) <<< ((iv y8).toInt64 &&& 63)))), (6, .int (iv v35_6))]) dX8_lightArcs_99 (by decide) rfl ?_
              refine Rn.pick (lv' := [(0, .ref ga), (1, .ref n), (2, .long (w35_2 ||| ((1 : Int64) <<< ((iv y8).toInt64 &&& 63)))), (4, .long (w35_4 ||| x98_1)), (6, .int (iv v35_6))]) [1, 2, 3, 0, 4] rfl ?_
              exact B101 _ ht98 (w35_2 ||| ((1 : Int64) <<< ((iv y8).toInt64 &&& 63))) (w35_4 ||| x98_1) trivial
            refine t_if_eq (pc := 87) (tgt := 97) dX8_lightArcs_87 (by decide) (by omega) (fun c87 => ?_) (fun c87 => ?_)
            · refine r_lconst (pc := 97) (v := 0) dX8_lightArcs_97 (by decide) ?_
              refine Rn.pick (lv' := [(0, .ref ga), (1, .ref n), (2, .long (w35_2 ||| ((1 : Int64) <<< ((iv y8).toInt64 &&& 63)))), (6, .int (iv v35_6))]) [2, 3, 0, 5] rfl ?_
              exact B98 _ ht14 (0 : Int64) trivial
            · refine r_lconst (pc := 90) (v := 1) dX8_lightArcs_90 (by decide) ?_
              refine r_iload (pc := 91) dX8_lightArcs_91 rfl ?_
              refine r_lshl (pc := 93) dX8_lightArcs_93 ?_
              refine r_goto (pc := 94) (tgt := 98) dX8_lightArcs_94 (by decide) ?_
              refine Rn.pick (lv' := [(0, .ref ga), (1, .ref n), (2, .long (w35_2 ||| ((1 : Int64) <<< ((iv y8).toInt64 &&& 63)))), (6, .int (iv v35_6))]) [2, 3, 0, 5] rfl ?_
              exact B98 _ ht14 ((1 : Int64) <<< ((iv y8).toInt64 &&& 63)) trivial
      refine Rn.pick (lv' := [(0, .ref ga), (1, .ref n), (2, .long (0 : Int64)), (4, .long (0 : Int64)), (6, .int (iv 0))]) [3, 4, 2, 1, 0] rfl ?_
      exact B35 (Int.toNat (60 - 0)) _ ht9 0 (0 : Int64) (0 : Int64) ⟨by omega, by omega⟩ (by omega)
    · refine r_aload_n (pc := 17) dX8_lightArcs_17 (i := 1) rfl rfl ?_
      refine r_iload_n (pc := 18) dX8_lightArcs_18 (i := 2) rfl rfl ?_
      refine r_iload_n (pc := 19) dX8_lightArcs_19 (i := 2) rfl rfl ?_
      refine t_iastR (pc := 20) (t0 := 0) ht9 hN4 dX8_lightArcs_20 rfl (by omega) (by decide) (by omega) (by omega) (fun hp16 ht17 => ?_)
      refine r_iinc (pc := 21) (v := iv (v9_2 + 1)) (lv' := [(2, .int (iv (v9_2 + 1))), (0, .ref ga), (1, .ref n)]) dX8_lightArcs_21 rfl (iv_add _ _) (by decide) rfl ?_
      refine r_goto (pc := 24) (tgt := 9) dX8_lightArcs_24 (by decide) ?_
      refine Rn.pick (lv' := [(0, .ref ga), (1, .ref n), (2, .int (iv (v9_2 + 1)))]) [1, 2, 0] rfl ?_
      exact ih9 (Int.toNat (16 - (v9_2 + 1))) (by omega) _ ht17 (v9_2 + 1) ⟨by omega, by omega⟩ (by omega)
  refine Rn.pick (lv' := [(0, .ref ga), (1, .ref n), (2, .int (iv 0))]) [2, 1, 0] rfl ?_
  exact B9 (Int.toNat (16 - 0)) _ ht5 0 ⟨by omega, by omega⟩ (by omega)
set_option maxHeartbeats 4000000 in
set_option maxRecDepth 100000 in
theorem t_X8_lightWeight {D : va_G} {cI cJ cZ cT : ClassId} {lo b L : Nat} {xs : Nat → Int32} {hp : MH} {n d : Nat} {Γ : TG} {ga : Nat} {gF : Nat} {gT : Nat} {gW : Nat} {gC : Nat} {gTl : Nat} {gHd : Nat} {gBy : Nat} {gOu : Nat} {gIn : Nat} {gJo : Nat} {gn : Nat} {gm : Nat} {gq : Nat} {gdr : Int} (hd0 : 2 ≤ d) (hg : TyG Γ cI cJ cZ ga gF gT gW gC gTl gHd gBy gOu gIn gJo gn gm gq gdr) (ht : Tw Γ hp)  : Mt (gG D cI cJ cZ cT lo b L xs) mX8_lightWeight d 1 gn [.ref ga] hp n (pJ Γ (n + 1) yes64) := by
  obtain ⟨hg_O, hg_from, hg_to, hg_weight, hg_cost, hg_tail, hg_head, hg_by, hg_out, hg_in, hg_joined, hg_b⟩ := id hg
  refine Mt.of rfl (Nat.le_of_ble_eq_true rfl) ?_
  refine Rn.pick (lv' := [(0, .ref ga)]) [0] rfl ?_
  refine r_aload_n (pc := 0) dX8_lightWeight_0 (i := 0) rfl rfl ?_
  refine t_callSJN (pc := 1) (as := [.ref ga]) (st := []) kX8_93 dX8_lightWeight_1 (t_X8_lightArcs (d := d - 1)  (by omega) hg  ht  ) rfl (by omega) (Nat.le_of_ble_eq_true rfl) rfl (by omega) (by omega) (fun hp1 y3 ht2 _ => ?_)
  refine r_lstore_n (pc := 4) (lv' := [(1, .long y3), (0, .ref ga)]) dX8_lightWeight_4 (i := 1) rfl (by decide) rfl ?_
  refine r_lconst (pc := 5) (v := 0) dX8_lightWeight_5 (by decide) ?_
  refine r_lstore_n (pc := 6) (lv' := [(3, .long (0 : Int64)), (1, .long y3), (0, .ref ga)]) dX8_lightWeight_6 (i := 3) rfl (by decide) rfl ?_
  refine r_iconst (pc := 7) (v := iv 0) dX8_lightWeight_7 (by decide) ?_
  refine r_istore (pc := 8) (lv' := [(5, .int (iv 0)), (3, .long (0 : Int64)), (1, .long y3), (0, .ref ga)]) dX8_lightWeight_8 (by decide) rfl ?_
  have B10 : ∀ k : Nat, ∀ hp10 : MH, Tw Γ hp10 → ∀  (v10_5 : Int) (w10_3 : Int64), 0 ≤ v10_5 ∧ v10_5 ≤ 60 → 60 - v10_5 ≤ (k : Int) → Rn (gG D cI cJ cZ cT lo b L xs) mX8_lightWeight d 10 [(0, .ref ga), (1, .long y3), (3, .long w10_3), (5, .int (iv v10_5))] [] hp10 (n + 1) (1 - 1) (gn - gn) (pJ Γ (n + 1) yes64) := by
    refine lpS _ ?_
    intro k10 ih10 hp10 ht10 v10_5 w10_3 hf10 hm10
    refine r_iload (pc := 10) dX8_lightWeight_10 rfl ?_
    refine r_aload_n (pc := 12) dX8_lightWeight_12 (i := 0) rfl rfl ?_
    refine t_getE (pc := 13) (.int (iv (gm : Int))) ht10 hg_O fX8_31 dX8_lightWeight_13 rfl ?_
    refine t_icmp_ge (pc := 16) (tgt := 51) dX8_lightWeight_16 (by decide) (by omega) (by omega) (fun c16 => ?_) (fun c16 => ?_)
    · refine r_lload_n (pc := 51) dX8_lightWeight_51 (i := 3) rfl rfl ?_
      exact r_lret (pc := 52) dX8_lightWeight_52 rfl ⟨rfl, ht10, _, rfl, trivial⟩
    · refine r_lload_n (pc := 19) dX8_lightWeight_19 (i := 3) rfl rfl ?_
      refine r_lload_n (pc := 20) dX8_lightWeight_20 (i := 1) rfl rfl ?_
      refine r_iload (pc := 21) dX8_lightWeight_21 rfl ?_
      refine r_lshr (pc := 23) dX8_lightWeight_23 ?_
      refine r_lconst (pc := 24) (v := 1) dX8_lightWeight_24 (by decide) ?_
      refine r_land (pc := 25) (v := (y3 >>> ((iv v10_5).toInt64 &&& 63)) &&& (1 : Int64)) dX8_lightWeight_25 rfl ?_
      refine r_lconst (pc := 26) (v := 0) dX8_lightWeight_26 (by decide) ?_
      refine r_lcmp (pc := 27) dX8_lightWeight_27 ?_
      have B43 : ∀ hp43 : MH, Tw Γ hp43 → ∀  (x43_1 : Int64), True → Rn (gG D cI cJ cZ cT lo b L xs) mX8_lightWeight d 43 [(0, .ref ga), (1, .long y3), (5, .int (iv v10_5))] [.long x43_1, .long w10_3] hp43 (n + 1) (1 - 1) (gn - gn) (pJ Γ (n + 1) yes64) := by
        intro hp43 ht43 x43_1 hf43
        refine r_ladd (pc := 43) (v := w10_3 + x43_1) dX8_lightWeight_43 rfl ?_
        refine r_lstore_n (pc := 44) (lv' := [(3, .long (w10_3 + x43_1)), (0, .ref ga), (1, .long y3), (5, .int (iv v10_5))]) dX8_lightWeight_44 (i := 3) rfl (by decide) rfl ?_
        refine r_iinc (pc := 45) (v := iv (v10_5 + 1)) (lv' := [(5, .int (iv (v10_5 + 1))), (3, .long (w10_3 + x43_1)), (0, .ref ga), (1, .long y3)]) dX8_lightWeight_45 rfl (iv_add _ _) (by decide) rfl ?_
        refine r_goto (pc := 48) (tgt := 10) dX8_lightWeight_48 (by decide) ?_
        refine Rn.pick (lv' := [(0, .ref ga), (1, .long y3), (3, .long (w10_3 + x43_1)), (5, .int (iv (v10_5 + 1)))]) [2, 3, 1, 0] rfl ?_
        exact ih10 (Int.toNat (60 - (v10_5 + 1))) (by omega) _ ht43 (v10_5 + 1) (w10_3 + x43_1) ⟨by omega, by omega⟩ (by omega)
      refine r_if_ne (pc := 28) (tgt := 35) dX8_lightWeight_28 (by decide) (fun c28 => ?_) (fun c28 => ?_)
      · refine r_aload_n (pc := 35) dX8_lightWeight_35 (i := 0) rfl rfl ?_
        refine t_getE (pc := 36) (.ref gW) ht10 hg_O fX8_97 dX8_lightWeight_36 rfl ?_
        refine r_iload (pc := 39) dX8_lightWeight_39 rfl ?_
        refine t_ialdR (pc := 41) (t0 := 0) ht10 hg_weight dX8_lightWeight_41 rfl (by omega) (by omega) (fun y4 by4 => ?_)
        refine r_i2l (pc := 42) (v := (iv y4).toInt64) dX8_lightWeight_42 rfl ?_
        refine Rn.pick (lv' := [(0, .ref ga), (1, .long y3), (5, .int (iv v10_5))]) [0, 1, 3] rfl ?_
        exact B43 _ ht10 ((iv y4).toInt64) trivial
      · refine r_lconst (pc := 31) (v := 0) dX8_lightWeight_31 (by decide) ?_
        refine r_goto (pc := 32) (tgt := 43) dX8_lightWeight_32 (by decide) ?_
        refine Rn.pick (lv' := [(0, .ref ga), (1, .long y3), (5, .int (iv v10_5))]) [0, 1, 3] rfl ?_
        exact B43 _ ht10 (0 : Int64) trivial
  refine Rn.pick (lv' := [(0, .ref ga), (1, .long y3), (3, .long (0 : Int64)), (5, .int (iv 0))]) [3, 2, 1, 0] rfl ?_
  exact B10 (Int.toNat (60 - 0)) _ ht2 0 (0 : Int64) ⟨by omega, by omega⟩ (by omega)
set_option maxHeartbeats 4000000 in
set_option maxRecDepth 100000 in
theorem t_X8_addTo {D : va_G} {cI cJ cZ cT : ClassId} {lo b L : Nat} {xs : Nat → Int32} {hp : MH} {n d : Nat} {Γ : TG} {hs : Nat} {x1 x2 x3 : Int} {j4 : Int64} (hd0 : 0 ≤ d) (hh : TyShape Γ cI cJ cZ hs) (ht : Tw Γ hp) (hx1 : 0 ≤ x1 ∧ x1 ≤ 15) (hx2 : 0 ≤ x2 ∧ x2 ≤ 15) (hx3 : 0 ≤ x3 ∧ x3 ≤ 16) : Mt (gG D cI cJ cZ cT lo b L xs) mX8_addTo d 0 0 [.ref hs, .int (iv x1), .int (iv x2), .int (iv x3), .long j4] hp n (pV Γ n) := by
  obtain ⟨hh_O, hh_table⟩ := id hh
  refine Mt.of rfl (Nat.le_of_ble_eq_true rfl) ?_
  refine Rn.pick (lv' := [(0, .ref hs), (1, .int (iv x1)), (2, .int (iv x2)), (3, .int (iv x3)), (4, .long j4)]) [0, 1, 2, 3, 4] rfl ?_
  refine r_iload_n (pc := 0) dX8_addTo_0 (i := 1) rfl rfl ?_
  refine r_iload_n (pc := 1) dX8_addTo_1 (i := 3) rfl rfl ?_
  have B39 : ∀ hp39 : MH, Tw Γ hp39 → True → Rn (gG D cI cJ cZ cT lo b L xs) mX8_addTo d 39 [] [] hp39 n 0 0 (pV Γ n) := by
    intro hp39 ht39 hf39
    exact r_vret (pc := 39) dX8_addTo_39 rfl ⟨rfl, ht39, rfl⟩
  refine t_icmp_ge (pc := 2) (tgt := 39) dX8_addTo_2 (by decide) (by omega) (by omega) (fun c2 => ?_) (fun c2 => ?_)
  · refine Rn.pick (lv' := []) [] rfl ?_
    exact B39 _ ht trivial
  · refine r_iload_n (pc := 5) dX8_addTo_5 (i := 2) rfl rfl ?_
    refine r_iload_n (pc := 6) dX8_addTo_6 (i := 3) rfl rfl ?_
    refine t_icmp_ge (pc := 7) (tgt := 39) dX8_addTo_7 (by decide) (by omega) (by omega) (fun c7 => ?_) (fun c7 => ?_)
    · refine Rn.pick (lv' := []) [] rfl ?_
      exact B39 _ ht trivial
    · refine r_iload_n (pc := 10) dX8_addTo_10 (i := 1) rfl rfl ?_
      refine r_bipush (pc := 11) (v := iv 16) dX8_addTo_11 (by decide) ?_
      refine r_imul (pc := 13) (v := iv (x1 * 16)) dX8_addTo_13 (iv_mul _ _) ?_
      refine r_iload_n (pc := 14) dX8_addTo_14 (i := 2) rfl rfl ?_
      refine r_iadd (pc := 15) (v := iv ((x1 * 16) + x2)) dX8_addTo_15 (iv_add _ _) ?_
      refine r_istore (pc := 16) (lv' := [(6, .int (iv ((x1 * 16) + x2))), (0, .ref hs), (1, .int (iv x1)), (2, .int (iv x2)), (3, .int (iv x3)), (4, .long j4)]) dX8_addTo_16 (by decide) rfl ?_
      refine r_aload_n (pc := 18) dX8_addTo_18 (i := 0) rfl rfl ?_
      refine t_getE (pc := 19) (.ref (hs + 1)) ht (rd_of hh_O) fX8_9 dX8_addTo_19 rfl ?_
      refine r_iload (pc := 22) dX8_addTo_22 rfl ?_
      refine r_aload_n (pc := 24) dX8_addTo_24 (i := 0) rfl rfl ?_
      refine t_getE (pc := 25) (.ref (hs + 1)) ht (rd_of hh_O) fX8_9 dX8_addTo_25 rfl ?_
      refine r_iload (pc := 28) dX8_addTo_28 rfl ?_
      refine t_lald (pc := 30) (t0 := 1) ht (rd_of hh_table) dX8_addTo_30 rfl (by decide) (by omega) (fun w1 _ => ?_)
      refine r_lload (pc := 31) dX8_addTo_31 rfl ?_
      refine r_ladd (pc := 33) (v := w1 + j4) dX8_addTo_33 rfl ?_
      refine r_ldc2 (pc := 34) (v := 1000000007) dX8_addTo_34 kX8_116 ?_
      refine r_lrem (pc := 37) (v := (w1 + j4) - (w1 + j4) / (1000000007 : Int64) * (1000000007 : Int64)) dX8_addTo_37 (by decide) rfl ?_
      generalize (w1 + j4) - (w1 + j4) / (1000000007 : Int64) * (1000000007 : Int64) = w2
      refine t_last (pc := 38) (t0 := 1) ht hh_table dX8_addTo_38 rfl (by decide) (by omega) trivial (fun hp3 ht4 => ?_)
      refine Rn.pick (lv' := []) [] rfl ?_
      exact B39 _ ht4 trivial
set_option maxHeartbeats 4000000 in
set_option maxRecDepth 100000 in
theorem t_X8_fillTable {D : va_G} {cI cJ cZ cT : ClassId} {lo b L : Nat} {xs : Nat → Int32} {hp : MH} {n d : Nat} {Γ : TG} {hs : Nat} {ga : Nat} {gF : Nat} {gT : Nat} {gW : Nat} {gC : Nat} {gTl : Nat} {gHd : Nat} {gBy : Nat} {gOu : Nat} {gIn : Nat} {gJo : Nat} {gn : Nat} {gm : Nat} {gq : Nat} {gdr : Int} {x2 : Int} (hd0 : 1 ≤ d) (hh : TyShape Γ cI cJ cZ hs) (hg : TyG Γ cI cJ cZ ga gF gT gW gC gTl gHd gBy gOu gIn gJo gn gm gq gdr) (ht : Tw Γ hp) (hx2 : 0 ≤ x2 ∧ x2 ≤ 16) : Mt (gG D cI cJ cZ cT lo b L xs) mX8_fillTable d 0 0 [.ref hs, .ref ga, .int (iv x2)] hp n (pV Γ n) := by
  obtain ⟨hh_O, hh_table⟩ := id hh
  obtain ⟨hg_O, hg_from, hg_to, hg_weight, hg_cost, hg_tail, hg_head, hg_by, hg_out, hg_in, hg_joined, hg_b⟩ := id hg
  refine Mt.of rfl (Nat.le_of_ble_eq_true rfl) ?_
  refine Rn.pick (lv' := [(0, .ref hs), (1, .ref ga), (2, .int (iv x2))]) [0, 1, 2] rfl ?_
  refine r_aload_n (pc := 0) dX8_fillTable_0 (i := 0) rfl rfl ?_
  refine t_getE (pc := 1) (.ref (hs + 1)) ht (rd_of hh_O) fX8_9 dX8_fillTable_1 rfl ?_
  refine r_lconst (pc := 4) (v := 0) dX8_fillTable_4 (by decide) ?_
  refine t_fillJ (pc := 5) ht hh_table kX8_118 dX8_fillTable_5 (by omega) (by omega) (Nat.le_of_ble_eq_true rfl) (fun hp1 ht2 => ?_)
  refine r_iconst (pc := 8) (v := iv 0) dX8_fillTable_8 (by decide) ?_
  refine r_istore_n (pc := 9) (lv' := [(3, .int (iv 0)), (0, .ref hs), (1, .ref ga), (2, .int (iv x2))]) dX8_fillTable_9 (i := 3) rfl (by decide) rfl ?_
  have B10 : ∀ k : Nat, ∀ hp10 : MH, Tw Γ hp10 → ∀  (v10_3 : Int), 0 ≤ v10_3 ∧ v10_3 ≤ 60 → 60 - v10_3 ≤ (k : Int) → Rn (gG D cI cJ cZ cT lo b L xs) mX8_fillTable d 10 [(0, .ref hs), (1, .ref ga), (2, .int (iv x2)), (3, .int (iv v10_3))] [] hp10 n 0 0 (pV Γ n) := by
    refine lpS _ ?_
    intro k10 ih10 hp10 ht10 v10_3 hf10 hm10
    refine r_iload_n (pc := 10) dX8_fillTable_10 (i := 3) rfl rfl ?_
    refine r_aload_n (pc := 11) dX8_fillTable_11 (i := 1) rfl rfl ?_
    refine t_getE (pc := 12) (.int (iv (gm : Int))) ht10 hg_O fX8_31 dX8_fillTable_12 rfl ?_
    refine t_icmp_ge (pc := 15) (tgt := 91) dX8_fillTable_15 (by decide) (by omega) (by omega) (fun c15 => ?_) (fun c15 => ?_)
    · exact r_vret (pc := 91) dX8_fillTable_91 rfl ⟨rfl, ht10, rfl⟩
    · refine r_aload_n (pc := 18) dX8_fillTable_18 (i := 1) rfl rfl ?_
      refine t_getE (pc := 19) (.ref gF) ht10 hg_O fX8_72 dX8_fillTable_19 rfl ?_
      refine r_iload_n (pc := 22) dX8_fillTable_22 (i := 3) rfl rfl ?_
      refine t_ialdR (pc := 23) (t0 := 0) ht10 hg_from dX8_fillTable_23 rfl (by omega) (by omega) (fun y3 by3 => ?_)
      refine r_istore (pc := 24) (lv' := [(4, .int (iv y3)), (0, .ref hs), (1, .ref ga), (2, .int (iv x2)), (3, .int (iv v10_3))]) dX8_fillTable_24 (by decide) rfl ?_
      refine r_aload_n (pc := 26) dX8_fillTable_26 (i := 1) rfl rfl ?_
      refine t_getE (pc := 27) (.ref gT) ht10 hg_O fX8_75 dX8_fillTable_27 rfl ?_
      refine r_iload_n (pc := 30) dX8_fillTable_30 (i := 3) rfl rfl ?_
      refine t_ialdR (pc := 31) (t0 := 0) ht10 hg_to dX8_fillTable_31 rfl (by omega) (by omega) (fun y4 by4 => ?_)
      refine r_istore (pc := 32) (lv' := [(5, .int (iv y4)), (4, .int (iv y3)), (0, .ref hs), (1, .ref ga), (2, .int (iv x2)), (3, .int (iv v10_3))]) dX8_fillTable_32 (by decide) rfl ?_
      refine r_iload (pc := 34) dX8_fillTable_34 rfl ?_
      refine r_iload (pc := 36) dX8_fillTable_36 rfl ?_
      have B85 : ∀ hp85 : MH, Tw Γ hp85 → True → Rn (gG D cI cJ cZ cT lo b L xs) mX8_fillTable d 85 [(0, .ref hs), (1, .ref ga), (2, .int (iv x2)), (3, .int (iv v10_3))] [] hp85 n 0 0 (pV Γ n) := by
        intro hp85 ht85 hf85
        refine r_iinc (pc := 85) (v := iv (v10_3 + 1)) (lv' := [(3, .int (iv (v10_3 + 1))), (0, .ref hs), (1, .ref ga), (2, .int (iv x2))]) dX8_fillTable_85 rfl (iv_add _ _) (by decide) rfl ?_
        refine r_goto (pc := 88) (tgt := 10) dX8_fillTable_88 (by decide) ?_
        refine Rn.pick (lv' := [(0, .ref hs), (1, .ref ga), (2, .int (iv x2)), (3, .int (iv (v10_3 + 1)))]) [1, 2, 3, 0] rfl ?_
        exact ih10 (Int.toNat (60 - (v10_3 + 1))) (by omega) _ ht85 (v10_3 + 1) ⟨by omega, by omega⟩ (by omega)
      refine t_icmp_eq (pc := 38) (tgt := 85) dX8_fillTable_38 (by decide) (by omega) (by omega) (fun c38 => ?_) (fun c38 => ?_)
      · refine Rn.pick (lv' := [(0, .ref hs), (1, .ref ga), (2, .int (iv x2)), (3, .int (iv v10_3))]) [2, 3, 4, 5] rfl ?_
        exact B85 _ ht10 trivial
      · refine r_aload_n (pc := 41) dX8_fillTable_41 (i := 0) rfl rfl ?_
        refine r_iload (pc := 42) dX8_fillTable_42 rfl ?_
        refine r_iload (pc := 44) dX8_fillTable_44 rfl ?_
        refine r_iload_n (pc := 46) dX8_fillTable_46 (i := 2) rfl rfl ?_
        refine r_lconst (pc := 47) (v := 1) dX8_fillTable_47 (by decide) ?_
        refine t_callVV (pc := 48) (as := [.int (iv y3), .int (iv y3), .int (iv x2), .long (1 : Int64)]) (st := []) ht10 (rd_of hh_O) kX8_124 rfl dX8_fillTable_48 (t_X8_addTo (d := d - 1) (x1 := y3) (x2 := y3) (x3 := x2) (j4 := (1 : Int64)) (by omega) hh  ht10 (by omega) (by omega) (by omega) ) rfl (by omega) (Nat.le_of_ble_eq_true rfl) rfl (fun hp5 ht6 => ?_)
        refine r_aload_n (pc := 51) dX8_fillTable_51 (i := 0) rfl rfl ?_
        refine r_iload (pc := 52) dX8_fillTable_52 rfl ?_
        refine r_iload (pc := 54) dX8_fillTable_54 rfl ?_
        refine r_iload_n (pc := 56) dX8_fillTable_56 (i := 2) rfl rfl ?_
        refine r_lconst (pc := 57) (v := 1) dX8_fillTable_57 (by decide) ?_
        refine t_callVV (pc := 58) (as := [.int (iv y4), .int (iv y4), .int (iv x2), .long (1 : Int64)]) (st := []) ht6 (rd_of hh_O) kX8_124 rfl dX8_fillTable_58 (t_X8_addTo (d := d - 1) (x1 := y4) (x2 := y4) (x3 := x2) (j4 := (1 : Int64)) (by omega) hh  ht6 (by omega) (by omega) (by omega) ) rfl (by omega) (Nat.le_of_ble_eq_true rfl) rfl (fun hp8 ht9 => ?_)
        refine r_aload_n (pc := 61) dX8_fillTable_61 (i := 0) rfl rfl ?_
        refine r_iload (pc := 62) dX8_fillTable_62 rfl ?_
        refine r_iload (pc := 64) dX8_fillTable_64 rfl ?_
        refine r_iload_n (pc := 66) dX8_fillTable_66 (i := 2) rfl rfl ?_
        refine r_ldc2 (pc := 67) (v := 1000000006) dX8_fillTable_67 kX8_128 ?_
        refine t_callVV (pc := 70) (as := [.int (iv y3), .int (iv y4), .int (iv x2), .long (1000000006 : Int64)]) (st := []) ht9 (rd_of hh_O) kX8_124 rfl dX8_fillTable_70 (t_X8_addTo (d := d - 1) (x1 := y3) (x2 := y4) (x3 := x2) (j4 := (1000000006 : Int64)) (by omega) hh  ht9 (by omega) (by omega) (by omega) ) rfl (by omega) (Nat.le_of_ble_eq_true rfl) rfl (fun hp11 ht12 => ?_)
        refine r_aload_n (pc := 73) dX8_fillTable_73 (i := 0) rfl rfl ?_
        refine r_iload (pc := 74) dX8_fillTable_74 rfl ?_
        refine r_iload (pc := 76) dX8_fillTable_76 rfl ?_
        refine r_iload_n (pc := 78) dX8_fillTable_78 (i := 2) rfl rfl ?_
        refine r_ldc2 (pc := 79) (v := 1000000006) dX8_fillTable_79 kX8_128 ?_
        refine t_callVV (pc := 82) (as := [.int (iv y4), .int (iv y3), .int (iv x2), .long (1000000006 : Int64)]) (st := []) ht12 (rd_of hh_O) kX8_124 rfl dX8_fillTable_82 (t_X8_addTo (d := d - 1) (x1 := y4) (x2 := y3) (x3 := x2) (j4 := (1000000006 : Int64)) (by omega) hh  ht12 (by omega) (by omega) (by omega) ) rfl (by omega) (Nat.le_of_ble_eq_true rfl) rfl (fun hp14 ht15 => ?_)
        refine Rn.pick (lv' := [(0, .ref hs), (1, .ref ga), (2, .int (iv x2)), (3, .int (iv v10_3))]) [2, 3, 4, 5] rfl ?_
        exact B85 _ ht15 trivial
  refine Rn.pick (lv' := [(0, .ref hs), (1, .ref ga), (2, .int (iv x2)), (3, .int (iv 0))]) [1, 2, 3, 0] rfl ?_
  exact B10 (Int.toNat (60 - 0)) _ ht2 0 ⟨by omega, by omega⟩ (by omega)
set_option maxHeartbeats 4000000 in
set_option maxRecDepth 100000 in
theorem t_X8_power {D : va_G} {cI cJ cZ cT : ClassId} {lo b L : Nat} {xs : Nat → Int32} {hp : MH} {n d : Nat} {Γ : TG}  {j0 j1 : Int64} (hd0 : 0 ≤ d)  (ht : Tw Γ hp)  : Mt (gG D cI cJ cZ cT lo b L xs) mX8_power d 0 0 [.long j0, .long j1] hp n (pJ Γ n yes64) := by
  refine Mt.of rfl (Nat.le_of_ble_eq_true rfl) ?_
  refine Rn.pick (lv' := [(0, .long j0), (2, .long j1)]) [0, 1] rfl ?_
  refine r_lconst (pc := 0) (v := 1) dX8_power_0 (by decide) ?_
  refine r_lstore (pc := 1) (lv' := [(4, .long (1 : Int64)), (0, .long j0), (2, .long j1)]) dX8_power_1 (by decide) rfl ?_
  refine r_lload_n (pc := 3) dX8_power_3 (i := 0) rfl rfl ?_
  refine r_lstore (pc := 4) (lv' := [(6, .long j0), (4, .long (1 : Int64)), (0, .long j0), (2, .long j1)]) dX8_power_4 (by decide) rfl ?_
  refine r_iconst (pc := 6) (v := iv 0) dX8_power_6 (by decide) ?_
  refine r_istore (pc := 7) (lv' := [(8, .int (iv 0)), (6, .long j0), (4, .long (1 : Int64)), (0, .long j0), (2, .long j1)]) dX8_power_7 (by decide) rfl ?_
  have B9 : ∀ k : Nat, ∀ hp9 : MH, Tw Γ hp9 → ∀  (v9_8 : Int) (w9_4 : Int64) (w9_6 : Int64), 0 ≤ v9_8 ∧ v9_8 ≤ 31 → 31 - v9_8 ≤ (k : Int) → Rn (gG D cI cJ cZ cT lo b L xs) mX8_power d 9 [(2, .long j1), (4, .long w9_4), (6, .long w9_6), (8, .int (iv v9_8))] [] hp9 n 0 0 (pJ Γ n yes64) := by
    refine lpS _ ?_
    intro k9 ih9 hp9 ht9 v9_8 w9_4 w9_6 hf9 hm9
    refine r_iload (pc := 9) dX8_power_9 rfl ?_
    refine r_bipush (pc := 11) (v := iv 31) dX8_power_11 (by decide) ?_
    refine t_icmp_ge (pc := 13) (tgt := 55) dX8_power_13 (by decide) (by omega) (by omega) (fun c13 => ?_) (fun c13 => ?_)
    · refine r_lload (pc := 55) dX8_power_55 rfl ?_
      exact r_lret (pc := 57) dX8_power_57 rfl ⟨rfl, ht9, _, rfl, trivial⟩
    · refine r_lload_n (pc := 16) dX8_power_16 (i := 2) rfl rfl ?_
      refine r_iload (pc := 17) dX8_power_17 rfl ?_
      refine r_lshr (pc := 19) dX8_power_19 ?_
      refine r_lconst (pc := 20) (v := 1) dX8_power_20 (by decide) ?_
      refine r_land (pc := 21) (v := (j1 >>> ((iv v9_8).toInt64 &&& 63)) &&& (1 : Int64)) dX8_power_21 rfl ?_
      refine r_lconst (pc := 22) (v := 0) dX8_power_22 (by decide) ?_
      refine r_lcmp (pc := 23) dX8_power_23 ?_
      have B38 : ∀ hp38 : MH, Tw Γ hp38 → ∀  (w38_4 : Int64), True → Rn (gG D cI cJ cZ cT lo b L xs) mX8_power d 38 [(2, .long j1), (4, .long w38_4), (6, .long w9_6), (8, .int (iv v9_8))] [] hp38 n 0 0 (pJ Γ n yes64) := by
        intro hp38 ht38 w38_4 hf38
        refine r_lload (pc := 38) dX8_power_38 rfl ?_
        refine r_lload (pc := 40) dX8_power_40 rfl ?_
        refine r_lmul (pc := 42) (v := w9_6 * w9_6) dX8_power_42 rfl ?_
        refine r_ldc2 (pc := 43) (v := 1000000007) dX8_power_43 kX8_116 ?_
        refine r_lrem (pc := 46) (v := (w9_6 * w9_6) - (w9_6 * w9_6) / (1000000007 : Int64) * (1000000007 : Int64)) dX8_power_46 (by decide) rfl ?_
        generalize (w9_6 * w9_6) - (w9_6 * w9_6) / (1000000007 : Int64) * (1000000007 : Int64) = w1
        refine r_lstore (pc := 47) (lv' := [(6, .long w1), (2, .long j1), (4, .long w38_4), (8, .int (iv v9_8))]) dX8_power_47 (by decide) rfl ?_
        refine r_iinc (pc := 49) (v := iv (v9_8 + 1)) (lv' := [(8, .int (iv (v9_8 + 1))), (6, .long w1), (2, .long j1), (4, .long w38_4)]) dX8_power_49 rfl (iv_add _ _) (by decide) rfl ?_
        refine r_goto (pc := 52) (tgt := 9) dX8_power_52 (by decide) ?_
        refine Rn.pick (lv' := [(2, .long j1), (4, .long w38_4), (6, .long w1), (8, .int (iv (v9_8 + 1)))]) [2, 3, 1, 0] rfl ?_
        exact ih9 (Int.toNat (31 - (v9_8 + 1))) (by omega) _ ht38 (v9_8 + 1) w38_4 w1 ⟨by omega, by omega⟩ (by omega)
      refine r_if_eq (pc := 24) (tgt := 38) dX8_power_24 (by decide) (fun c24 => ?_) (fun c24 => ?_)
      · refine Rn.pick (lv' := [(2, .long j1), (4, .long w9_4), (6, .long w9_6), (8, .int (iv v9_8))]) [0, 1, 2, 3] rfl ?_
        exact B38 _ ht9 w9_4 trivial
      · refine r_lload (pc := 27) dX8_power_27 rfl ?_
        refine r_lload (pc := 29) dX8_power_29 rfl ?_
        refine r_lmul (pc := 31) (v := w9_4 * w9_6) dX8_power_31 rfl ?_
        refine r_ldc2 (pc := 32) (v := 1000000007) dX8_power_32 kX8_116 ?_
        refine r_lrem (pc := 35) (v := (w9_4 * w9_6) - (w9_4 * w9_6) / (1000000007 : Int64) * (1000000007 : Int64)) dX8_power_35 (by decide) rfl ?_
        generalize (w9_4 * w9_6) - (w9_4 * w9_6) / (1000000007 : Int64) * (1000000007 : Int64) = w2
        refine r_lstore (pc := 36) (lv' := [(4, .long w2), (2, .long j1), (6, .long w9_6), (8, .int (iv v9_8))]) dX8_power_36 (by decide) rfl ?_
        refine Rn.pick (lv' := [(2, .long j1), (4, .long w2), (6, .long w9_6), (8, .int (iv v9_8))]) [1, 0, 2, 3] rfl ?_
        exact B38 _ ht9 w2 trivial
  refine Rn.pick (lv' := [(2, .long j1), (4, .long (1 : Int64)), (6, .long j0), (8, .int (iv 0))]) [4, 2, 1, 0] rfl ?_
  exact B9 (Int.toNat (31 - 0)) _ ht 0 (1 : Int64) j0 ⟨by omega, by omega⟩ (by omega)
set_option maxHeartbeats 4000000 in
set_option maxRecDepth 100000 in
theorem t_X8_exchange {D : va_G} {cI cJ cZ cT : ClassId} {lo b L : Nat} {xs : Nat → Int32} {hp : MH} {n d : Nat} {Γ : TG} {hs : Nat} {x1 x2 x3 : Int} (hd0 : 0 ≤ d) (hh : TyShape Γ cI cJ cZ hs) (ht : Tw Γ hp) (hx1 : 0 ≤ x1 ∧ x1 ≤ 16) (hx2 : 0 ≤ x2 ∧ x2 ≤ 15) (hx3 : 0 ≤ x3 ∧ x3 ≤ 15) : Mt (gG D cI cJ cZ cT lo b L xs) mX8_exchange d 0 0 [.ref hs, .int (iv x1), .int (iv x2), .int (iv x3)] hp n (pV Γ n) := by
  obtain ⟨hh_O, hh_table⟩ := id hh
  refine Mt.of rfl (Nat.le_of_ble_eq_true rfl) ?_
  refine Rn.pick (lv' := [(0, .ref hs), (1, .int (iv x1)), (2, .int (iv x2)), (3, .int (iv x3))]) [0, 1, 2, 3] rfl ?_
  refine r_iconst (pc := 0) (v := iv 0) dX8_exchange_0 (by decide) ?_
  refine r_istore (pc := 1) (lv' := [(4, .int (iv 0)), (0, .ref hs), (1, .int (iv x1)), (2, .int (iv x2)), (3, .int (iv x3))]) dX8_exchange_1 (by decide) rfl ?_
  have B3 : ∀ k : Nat, ∀ hp3 : MH, Tw Γ hp3 → ∀  (v3_4 : Int), 0 ≤ v3_4 ∧ v3_4 ≤ 16 → 16 - v3_4 ≤ (k : Int) → Rn (gG D cI cJ cZ cT lo b L xs) mX8_exchange d 3 [(0, .ref hs), (1, .int (iv x1)), (2, .int (iv x2)), (3, .int (iv x3)), (4, .int (iv v3_4))] [] hp3 n 0 0 (pV Γ n) := by
    refine lpS _ ?_
    intro k3 ih3 hp3 ht3 v3_4 hf3 hm3
    refine r_iload (pc := 3) dX8_exchange_3 rfl ?_
    refine r_iload_n (pc := 5) dX8_exchange_5 (i := 1) rfl rfl ?_
    refine t_icmp_ge (pc := 6) (tgt := 67) dX8_exchange_6 (by decide) (by omega) (by omega) (fun c6 => ?_) (fun c6 => ?_)
    · exact r_vret (pc := 67) dX8_exchange_67 rfl ⟨rfl, ht3, rfl⟩
    · refine r_aload_n (pc := 9) dX8_exchange_9 (i := 0) rfl rfl ?_
      refine t_getE (pc := 10) (.ref (hs + 1)) ht3 (rd_of hh_O) fX8_9 dX8_exchange_10 rfl ?_
      refine r_iload_n (pc := 13) dX8_exchange_13 (i := 2) rfl rfl ?_
      refine r_bipush (pc := 14) (v := iv 16) dX8_exchange_14 (by decide) ?_
      refine r_imul (pc := 16) (v := iv (x2 * 16)) dX8_exchange_16 (iv_mul _ _) ?_
      refine r_iload (pc := 17) dX8_exchange_17 rfl ?_
      refine r_iadd (pc := 19) (v := iv ((x2 * 16) + v3_4)) dX8_exchange_19 (iv_add _ _) ?_
      refine t_lald (pc := 20) (t0 := 1) ht3 (rd_of hh_table) dX8_exchange_20 rfl (by decide) (by omega) (fun w1 _ => ?_)
      refine r_lstore (pc := 21) (lv' := [(5, .long w1), (0, .ref hs), (1, .int (iv x1)), (2, .int (iv x2)), (3, .int (iv x3)), (4, .int (iv v3_4))]) dX8_exchange_21 (by decide) rfl ?_
      refine r_aload_n (pc := 23) dX8_exchange_23 (i := 0) rfl rfl ?_
      refine t_getE (pc := 24) (.ref (hs + 1)) ht3 (rd_of hh_O) fX8_9 dX8_exchange_24 rfl ?_
      refine r_iload_n (pc := 27) dX8_exchange_27 (i := 2) rfl rfl ?_
      refine r_bipush (pc := 28) (v := iv 16) dX8_exchange_28 (by decide) ?_
      refine r_imul (pc := 30) (v := iv (x2 * 16)) dX8_exchange_30 (iv_mul _ _) ?_
      refine r_iload (pc := 31) dX8_exchange_31 rfl ?_
      refine r_iadd (pc := 33) (v := iv ((x2 * 16) + v3_4)) dX8_exchange_33 (iv_add _ _) ?_
      refine r_aload_n (pc := 34) dX8_exchange_34 (i := 0) rfl rfl ?_
      refine t_getE (pc := 35) (.ref (hs + 1)) ht3 (rd_of hh_O) fX8_9 dX8_exchange_35 rfl ?_
      refine r_iload_n (pc := 38) dX8_exchange_38 (i := 3) rfl rfl ?_
      refine r_bipush (pc := 39) (v := iv 16) dX8_exchange_39 (by decide) ?_
      refine r_imul (pc := 41) (v := iv (x3 * 16)) dX8_exchange_41 (iv_mul _ _) ?_
      refine r_iload (pc := 42) dX8_exchange_42 rfl ?_
      refine r_iadd (pc := 44) (v := iv ((x3 * 16) + v3_4)) dX8_exchange_44 (iv_add _ _) ?_
      refine t_lald (pc := 45) (t0 := 1) ht3 (rd_of hh_table) dX8_exchange_45 rfl (by decide) (by omega) (fun w2 _ => ?_)
      refine t_last (pc := 46) (t0 := 1) ht3 hh_table dX8_exchange_46 rfl (by decide) (by omega) trivial (fun hp3 ht4 => ?_)
      refine r_aload_n (pc := 47) dX8_exchange_47 (i := 0) rfl rfl ?_
      refine t_getE (pc := 48) (.ref (hs + 1)) ht4 (rd_of hh_O) fX8_9 dX8_exchange_48 rfl ?_
      refine r_iload_n (pc := 51) dX8_exchange_51 (i := 3) rfl rfl ?_
      refine r_bipush (pc := 52) (v := iv 16) dX8_exchange_52 (by decide) ?_
      refine r_imul (pc := 54) (v := iv (x3 * 16)) dX8_exchange_54 (iv_mul _ _) ?_
      refine r_iload (pc := 55) dX8_exchange_55 rfl ?_
      refine r_iadd (pc := 57) (v := iv ((x3 * 16) + v3_4)) dX8_exchange_57 (iv_add _ _) ?_
      refine r_lload (pc := 58) dX8_exchange_58 rfl ?_
      refine t_last (pc := 60) (t0 := 1) ht4 hh_table dX8_exchange_60 rfl (by decide) (by omega) trivial (fun hp5 ht6 => ?_)
      refine r_iinc (pc := 61) (v := iv (v3_4 + 1)) (lv' := [(4, .int (iv (v3_4 + 1))), (5, .long w1), (0, .ref hs), (1, .int (iv x1)), (2, .int (iv x2)), (3, .int (iv x3))]) dX8_exchange_61 rfl (iv_add _ _) (by decide) rfl ?_
      refine r_goto (pc := 64) (tgt := 3) dX8_exchange_64 (by decide) ?_
      refine Rn.pick (lv' := [(0, .ref hs), (1, .int (iv x1)), (2, .int (iv x2)), (3, .int (iv x3)), (4, .int (iv (v3_4 + 1)))]) [2, 3, 4, 5, 0] rfl ?_
      exact ih3 (Int.toNat (16 - (v3_4 + 1))) (by omega) _ ht6 (v3_4 + 1) ⟨by omega, by omega⟩ (by omega)
  refine Rn.pick (lv' := [(0, .ref hs), (1, .int (iv x1)), (2, .int (iv x2)), (3, .int (iv x3)), (4, .int (iv 0))]) [1, 2, 3, 4, 0] rfl ?_
  exact B3 (Int.toNat (16 - 0)) _ ht 0 ⟨by omega, by omega⟩ (by omega)
set_option maxHeartbeats 4000000 in
set_option maxRecDepth 100000 in
theorem t_X8_pivot {D : va_G} {cI cJ cZ cT : ClassId} {lo b L : Nat} {xs : Nat → Int32} {hp : MH} {n d : Nat} {Γ : TG} {hs : Nat} {x1 x2 : Int} (hd0 : 1 ≤ d) (hh : TyShape Γ cI cJ cZ hs) (ht : Tw Γ hp) (hx1 : 0 ≤ x1 ∧ x1 ≤ 15) (hx2 : 0 ≤ x2 ∧ x2 ≤ 15) : Mt (gG D cI cJ cZ cT lo b L xs) mX8_pivot d 0 0 [.ref hs, .int (iv x1), .int (iv x2)] hp n (pJ Γ n yes64) := by
  obtain ⟨hh_O, hh_table⟩ := id hh
  refine Mt.of rfl (Nat.le_of_ble_eq_true rfl) ?_
  refine Rn.pick (lv' := [(0, .ref hs), (1, .int (iv x1)), (2, .int (iv x2))]) [0, 1, 2] rfl ?_
  refine r_iload_n (pc := 0) dX8_pivot_0 (i := 2) rfl rfl ?_
  refine r_istore_n (pc := 1) (lv' := [(3, .int (iv x2)), (0, .ref hs), (1, .int (iv x1)), (2, .int (iv x2))]) dX8_pivot_1 (i := 3) rfl (by decide) rfl ?_
  refine r_iload_n (pc := 2) dX8_pivot_2 (i := 2) rfl rfl ?_
  refine r_istore (pc := 3) (lv' := [(4, .int (iv x2)), (3, .int (iv x2)), (0, .ref hs), (1, .int (iv x1)), (2, .int (iv x2))]) dX8_pivot_3 (by decide) rfl ?_
  have B5 : ∀ k : Nat, ∀ hp5 : MH, Tw Γ hp5 → ∀  (v5_3 : Int) (v5_4 : Int), 0 ≤ v5_3 ∧ v5_3 ≤ 15 ∧ 0 ≤ v5_4 ∧ v5_4 ≤ 15 ∧ x2 ≤ v5_4 → 15 - v5_4 ≤ (k : Int) → Rn (gG D cI cJ cZ cT lo b L xs) mX8_pivot d 5 [(0, .ref hs), (1, .int (iv x1)), (2, .int (iv x2)), (3, .int (iv v5_3)), (4, .int (iv v5_4))] [] hp5 n 0 0 (pJ Γ n yes64) := by
    refine lpS _ ?_
    intro k5 ih5 hp5 ht5 v5_3 v5_4 hf5 hm5
    refine r_iload (pc := 5) dX8_pivot_5 rfl ?_
    refine r_iload_n (pc := 7) dX8_pivot_7 (i := 1) rfl rfl ?_
    have B36 : ∀ hp36 : MH, Tw Γ hp36 → True → Rn (gG D cI cJ cZ cT lo b L xs) mX8_pivot d 36 [(0, .ref hs), (1, .int (iv x1)), (2, .int (iv x2)), (3, .int (iv v5_3))] [] hp36 n 0 0 (pJ Γ n yes64) := by
      intro hp36 ht36 hf36
      refine r_aload_n (pc := 36) dX8_pivot_36 (i := 0) rfl rfl ?_
      refine t_getE (pc := 37) (.ref (hs + 1)) ht36 (rd_of hh_O) fX8_9 dX8_pivot_37 rfl ?_
      refine r_iload_n (pc := 40) dX8_pivot_40 (i := 3) rfl rfl ?_
      refine r_bipush (pc := 41) (v := iv 16) dX8_pivot_41 (by decide) ?_
      refine r_imul (pc := 43) (v := iv (v5_3 * 16)) dX8_pivot_43 (iv_mul _ _) ?_
      refine r_iload_n (pc := 44) dX8_pivot_44 (i := 2) rfl rfl ?_
      refine r_iadd (pc := 45) (v := iv ((v5_3 * 16) + x2)) dX8_pivot_45 (iv_add _ _) ?_
      refine t_lald (pc := 46) (t0 := 1) ht36 (rd_of hh_table) dX8_pivot_46 rfl (by decide) (by omega) (fun w1 _ => ?_)
      refine r_lstore (pc := 47) (lv' := [(4, .long w1), (0, .ref hs), (1, .int (iv x1)), (2, .int (iv x2)), (3, .int (iv v5_3))]) dX8_pivot_47 (by decide) rfl ?_
      refine r_lload (pc := 49) dX8_pivot_49 rfl ?_
      refine r_lconst (pc := 51) (v := 0) dX8_pivot_51 (by decide) ?_
      refine r_lcmp (pc := 52) dX8_pivot_52 ?_
      refine r_if_ne (pc := 53) (tgt := 58) dX8_pivot_53 (by decide) (fun c53 => ?_) (fun c53 => ?_)
      · refine r_iload_n (pc := 58) dX8_pivot_58 (i := 3) rfl rfl ?_
        refine r_iload_n (pc := 59) dX8_pivot_59 (i := 2) rfl rfl ?_
        have B70 : ∀ hp70 : MH, Tw Γ hp70 → True → Rn (gG D cI cJ cZ cT lo b L xs) mX8_pivot d 70 [(0, .ref hs), (1, .int (iv x1)), (2, .int (iv x2)), (3, .int (iv v5_3)), (4, .long w1)] [] hp70 n 0 0 (pJ Γ n yes64) := by
          intro hp70 ht70 hf70
          refine r_lload (pc := 70) dX8_pivot_70 rfl ?_
          refine r_ldc2 (pc := 72) (v := 1000000005) dX8_pivot_72 kX8_134 ?_
          refine t_callSJ (pc := 75) (as := [.long w1, .long (1000000005 : Int64)]) (st := []) kX8_136 dX8_pivot_75 (t_X8_power (d := d - 1) (j0 := w1) (j1 := (1000000005 : Int64)) (by omega)   ht70  ) rfl (by omega) (Nat.le_of_ble_eq_true rfl) rfl (fun hp2 y4 ht3 _ => ?_)
          refine r_lstore (pc := 78) (lv' := [(6, .long y4), (0, .ref hs), (1, .int (iv x1)), (2, .int (iv x2)), (3, .int (iv v5_3)), (4, .long w1)]) dX8_pivot_78 (by decide) rfl ?_
          refine r_iload_n (pc := 80) dX8_pivot_80 (i := 2) rfl rfl ?_
          refine r_iconst (pc := 81) (v := iv 1) dX8_pivot_81 (by decide) ?_
          refine r_iadd (pc := 82) (v := iv (x2 + 1)) dX8_pivot_82 (iv_add _ _) ?_
          refine r_istore (pc := 83) (lv' := [(8, .int (iv (x2 + 1))), (6, .long y4), (0, .ref hs), (1, .int (iv x1)), (2, .int (iv x2)), (3, .int (iv v5_3)), (4, .long w1)]) dX8_pivot_83 (by decide) rfl ?_
          have B85 : ∀ k : Nat, ∀ hp85 : MH, Tw Γ hp85 → ∀  (v85_8 : Int), 1 ≤ v85_8 ∧ v85_8 ≤ 16 ∧ x2 + 1 ≤ v85_8 → 16 - v85_8 ≤ (k : Int) → Rn (gG D cI cJ cZ cT lo b L xs) mX8_pivot d 85 [(0, .ref hs), (1, .int (iv x1)), (2, .int (iv x2)), (3, .int (iv v5_3)), (4, .long w1), (6, .long y4), (8, .int (iv v85_8))] [] hp85 n 0 0 (pJ Γ n yes64) := by
            refine lpS _ ?_
            intro k85 ih85 hp85 ht85 v85_8 hf85 hm85
            refine r_iload (pc := 85) dX8_pivot_85 rfl ?_
            refine r_iload_n (pc := 87) dX8_pivot_87 (i := 1) rfl rfl ?_
            refine t_icmp_ge (pc := 88) (tgt := 198) dX8_pivot_88 (by decide) (by omega) (by omega) (fun c88 => ?_) (fun c88 => ?_)
            · refine r_iload_n (pc := 198) dX8_pivot_198 (i := 3) rfl rfl ?_
              refine r_iload_n (pc := 199) dX8_pivot_199 (i := 2) rfl rfl ?_
              have B214 : ∀ hp214 : MH, Tw Γ hp214 → ∀  (x214_0 : Int64), True → Rn (gG D cI cJ cZ cT lo b L xs) mX8_pivot d 214 [] [.long x214_0] hp214 n 0 0 (pJ Γ n yes64) := by
                intro hp214 ht214 x214_0 hf214
                exact r_lret (pc := 214) dX8_pivot_214 rfl ⟨rfl, ht214, _, rfl, trivial⟩
              refine t_icmp_ne (pc := 200) (tgt := 208) dX8_pivot_200 (by decide) (by omega) (by omega) (fun c200 => ?_) (fun c200 => ?_)
              · refine r_ldc2 (pc := 208) (v := 1000000007) dX8_pivot_208 kX8_116 ?_
                refine r_lload (pc := 211) dX8_pivot_211 rfl ?_
                refine r_lsub (pc := 213) (v := (1000000007 : Int64) - w1) dX8_pivot_213 rfl ?_
                refine Rn.pick (lv' := []) [] rfl ?_
                exact B214 _ ht85 ((1000000007 : Int64) - w1) trivial
              · refine r_lload (pc := 203) dX8_pivot_203 rfl ?_
                refine r_goto (pc := 205) (tgt := 214) dX8_pivot_205 (by decide) ?_
                refine Rn.pick (lv' := []) [] rfl ?_
                exact B214 _ ht85 w1 trivial
            · refine r_aload_n (pc := 91) dX8_pivot_91 (i := 0) rfl rfl ?_
              refine t_getE (pc := 92) (.ref (hs + 1)) ht85 (rd_of hh_O) fX8_9 dX8_pivot_92 rfl ?_
              refine r_iload (pc := 95) dX8_pivot_95 rfl ?_
              refine r_bipush (pc := 97) (v := iv 16) dX8_pivot_97 (by decide) ?_
              refine r_imul (pc := 99) (v := iv (v85_8 * 16)) dX8_pivot_99 (iv_mul _ _) ?_
              refine r_iload_n (pc := 100) dX8_pivot_100 (i := 2) rfl rfl ?_
              refine r_iadd (pc := 101) (v := iv ((v85_8 * 16) + x2)) dX8_pivot_101 (iv_add _ _) ?_
              refine t_lald (pc := 102) (t0 := 1) ht85 (rd_of hh_table) dX8_pivot_102 rfl (by decide) (by omega) (fun w5 _ => ?_)
              refine r_lload (pc := 103) dX8_pivot_103 rfl ?_
              refine r_lmul (pc := 105) (v := w5 * y4) dX8_pivot_105 rfl ?_
              refine r_ldc2 (pc := 106) (v := 1000000007) dX8_pivot_106 kX8_116 ?_
              refine r_lrem (pc := 109) (v := (w5 * y4) - (w5 * y4) / (1000000007 : Int64) * (1000000007 : Int64)) dX8_pivot_109 (by decide) rfl ?_
              generalize (w5 * y4) - (w5 * y4) / (1000000007 : Int64) * (1000000007 : Int64) = w6
              refine r_lstore (pc := 110) (lv' := [(9, .long w6), (0, .ref hs), (1, .int (iv x1)), (2, .int (iv x2)), (3, .int (iv v5_3)), (4, .long w1), (6, .long y4), (8, .int (iv v85_8))]) dX8_pivot_110 (by decide) rfl ?_
              refine r_iload_n (pc := 112) dX8_pivot_112 (i := 2) rfl rfl ?_
              refine r_istore (pc := 113) (lv' := [(11, .int (iv x2)), (9, .long w6), (0, .ref hs), (1, .int (iv x1)), (2, .int (iv x2)), (3, .int (iv v5_3)), (4, .long w1), (6, .long y4), (8, .int (iv v85_8))]) dX8_pivot_113 (by decide) rfl ?_
              have B115 : ∀ k : Nat, ∀ hp115 : MH, Tw Γ hp115 → ∀  (v115_11 : Int), 0 ≤ v115_11 ∧ v115_11 ≤ 15 ∧ x2 ≤ v115_11 → 15 - v115_11 ≤ (k : Int) → Rn (gG D cI cJ cZ cT lo b L xs) mX8_pivot d 115 [(0, .ref hs), (1, .int (iv x1)), (2, .int (iv x2)), (3, .int (iv v5_3)), (4, .long w1), (6, .long y4), (8, .int (iv v85_8)), (9, .long w6), (11, .int (iv v115_11))] [] hp115 n 0 0 (pJ Γ n yes64) := by
                refine lpS _ ?_
                intro k115 ih115 hp115 ht115 v115_11 hf115 hm115
                refine r_iload (pc := 115) dX8_pivot_115 rfl ?_
                refine r_iload_n (pc := 117) dX8_pivot_117 (i := 1) rfl rfl ?_
                have B192 : ∀ hp192 : MH, Tw Γ hp192 → True → Rn (gG D cI cJ cZ cT lo b L xs) mX8_pivot d 192 [(0, .ref hs), (1, .int (iv x1)), (2, .int (iv x2)), (3, .int (iv v5_3)), (4, .long w1), (6, .long y4), (8, .int (iv v85_8))] [] hp192 n 0 0 (pJ Γ n yes64) := by
                  intro hp192 ht192 hf192
                  refine r_iinc (pc := 192) (v := iv (v85_8 + 1)) (lv' := [(8, .int (iv (v85_8 + 1))), (0, .ref hs), (1, .int (iv x1)), (2, .int (iv x2)), (3, .int (iv v5_3)), (4, .long w1), (6, .long y4)]) dX8_pivot_192 rfl (iv_add _ _) (by decide) rfl ?_
                  refine r_goto (pc := 195) (tgt := 85) dX8_pivot_195 (by decide) ?_
                  refine Rn.pick (lv' := [(0, .ref hs), (1, .int (iv x1)), (2, .int (iv x2)), (3, .int (iv v5_3)), (4, .long w1), (6, .long y4), (8, .int (iv (v85_8 + 1)))]) [1, 2, 3, 4, 5, 6, 0] rfl ?_
                  exact ih85 (Int.toNat (16 - (v85_8 + 1))) (by omega) _ ht192 (v85_8 + 1) ⟨by omega, by omega, by omega⟩ (by omega)
                refine t_icmp_ge (pc := 118) (tgt := 192) dX8_pivot_118 (by decide) (by omega) (by omega) (fun c118 => ?_) (fun c118 => ?_)
                · refine Rn.pick (lv' := [(0, .ref hs), (1, .int (iv x1)), (2, .int (iv x2)), (3, .int (iv v5_3)), (4, .long w1), (6, .long y4), (8, .int (iv v85_8))]) [0, 1, 2, 3, 4, 5, 6] rfl ?_
                  exact B192 _ ht115 trivial
                · refine r_lload (pc := 121) dX8_pivot_121 rfl ?_
                  refine r_lconst (pc := 123) (v := 0) dX8_pivot_123 (by decide) ?_
                  refine r_lcmp (pc := 124) dX8_pivot_124 ?_
                  refine r_if_eq (pc := 125) (tgt := 192) dX8_pivot_125 (by decide) (fun c125 => ?_) (fun c125 => ?_)
                  · refine Rn.pick (lv' := [(0, .ref hs), (1, .int (iv x1)), (2, .int (iv x2)), (3, .int (iv v5_3)), (4, .long w1), (6, .long y4), (8, .int (iv v85_8))]) [0, 1, 2, 3, 4, 5, 6] rfl ?_
                    exact B192 _ ht115 trivial
                  · refine r_lload (pc := 128) dX8_pivot_128 rfl ?_
                    refine r_aload_n (pc := 130) dX8_pivot_130 (i := 0) rfl rfl ?_
                    refine t_getE (pc := 131) (.ref (hs + 1)) ht115 (rd_of hh_O) fX8_9 dX8_pivot_131 rfl ?_
                    refine r_iload_n (pc := 134) dX8_pivot_134 (i := 2) rfl rfl ?_
                    refine r_bipush (pc := 135) (v := iv 16) dX8_pivot_135 (by decide) ?_
                    refine r_imul (pc := 137) (v := iv (x2 * 16)) dX8_pivot_137 (iv_mul _ _) ?_
                    refine r_iload (pc := 138) dX8_pivot_138 rfl ?_
                    refine r_iadd (pc := 140) (v := iv ((x2 * 16) + v115_11)) dX8_pivot_140 (iv_add _ _) ?_
                    refine t_lald (pc := 141) (t0 := 1) ht115 (rd_of hh_table) dX8_pivot_141 rfl (by decide) (by omega) (fun w7 _ => ?_)
                    refine r_lmul (pc := 142) (v := w6 * w7) dX8_pivot_142 rfl ?_
                    refine r_ldc2 (pc := 143) (v := 1000000007) dX8_pivot_143 kX8_116 ?_
                    refine r_lrem (pc := 146) (v := (w6 * w7) - (w6 * w7) / (1000000007 : Int64) * (1000000007 : Int64)) dX8_pivot_146 (by decide) rfl ?_
                    generalize (w6 * w7) - (w6 * w7) / (1000000007 : Int64) * (1000000007 : Int64) = w8
                    refine r_lstore (pc := 147) (lv' := [(12, .long w8), (0, .ref hs), (1, .int (iv x1)), (2, .int (iv x2)), (3, .int (iv v5_3)), (4, .long w1), (6, .long y4), (8, .int (iv v85_8)), (9, .long w6), (11, .int (iv v115_11))]) dX8_pivot_147 (by decide) rfl ?_
                    refine r_aload_n (pc := 149) dX8_pivot_149 (i := 0) rfl rfl ?_
                    refine t_getE (pc := 150) (.ref (hs + 1)) ht115 (rd_of hh_O) fX8_9 dX8_pivot_150 rfl ?_
                    refine r_iload (pc := 153) dX8_pivot_153 rfl ?_
                    refine r_bipush (pc := 155) (v := iv 16) dX8_pivot_155 (by decide) ?_
                    refine r_imul (pc := 157) (v := iv (v85_8 * 16)) dX8_pivot_157 (iv_mul _ _) ?_
                    refine r_iload (pc := 158) dX8_pivot_158 rfl ?_
                    refine r_iadd (pc := 160) (v := iv ((v85_8 * 16) + v115_11)) dX8_pivot_160 (iv_add _ _) ?_
                    refine r_aload_n (pc := 161) dX8_pivot_161 (i := 0) rfl rfl ?_
                    refine t_getE (pc := 162) (.ref (hs + 1)) ht115 (rd_of hh_O) fX8_9 dX8_pivot_162 rfl ?_
                    refine r_iload (pc := 165) dX8_pivot_165 rfl ?_
                    refine r_bipush (pc := 167) (v := iv 16) dX8_pivot_167 (by decide) ?_
                    refine r_imul (pc := 169) (v := iv (v85_8 * 16)) dX8_pivot_169 (iv_mul _ _) ?_
                    refine r_iload (pc := 170) dX8_pivot_170 rfl ?_
                    refine r_iadd (pc := 172) (v := iv ((v85_8 * 16) + v115_11)) dX8_pivot_172 (iv_add _ _) ?_
                    refine t_lald (pc := 173) (t0 := 1) ht115 (rd_of hh_table) dX8_pivot_173 rfl (by decide) (by omega) (fun w9 _ => ?_)
                    refine r_ldc2 (pc := 174) (v := 1000000007) dX8_pivot_174 kX8_116 ?_
                    refine r_ladd (pc := 177) (v := w9 + (1000000007 : Int64)) dX8_pivot_177 rfl ?_
                    refine r_lload (pc := 178) dX8_pivot_178 rfl ?_
                    refine r_lsub (pc := 180) (v := (w9 + (1000000007 : Int64)) - w8) dX8_pivot_180 rfl ?_
                    refine r_ldc2 (pc := 181) (v := 1000000007) dX8_pivot_181 kX8_116 ?_
                    refine r_lrem (pc := 184) (v := ((w9 + (1000000007 : Int64)) - w8) - ((w9 + (1000000007 : Int64)) - w8) / (1000000007 : Int64) * (1000000007 : Int64)) dX8_pivot_184 (by decide) rfl ?_
                    generalize ((w9 + (1000000007 : Int64)) - w8) - ((w9 + (1000000007 : Int64)) - w8) / (1000000007 : Int64) * (1000000007 : Int64) = w10
                    refine t_last (pc := 185) (t0 := 1) ht115 hh_table dX8_pivot_185 rfl (by decide) (by omega) trivial (fun hp11 ht12 => ?_)
                    refine r_iinc (pc := 186) (v := iv (v115_11 + 1)) (lv' := [(11, .int (iv (v115_11 + 1))), (12, .long w8), (0, .ref hs), (1, .int (iv x1)), (2, .int (iv x2)), (3, .int (iv v5_3)), (4, .long w1), (6, .long y4), (8, .int (iv v85_8)), (9, .long w6)]) dX8_pivot_186 rfl (iv_add _ _) (by decide) rfl ?_
                    refine r_goto (pc := 189) (tgt := 115) dX8_pivot_189 (by decide) ?_
                    refine Rn.pick (lv' := [(0, .ref hs), (1, .int (iv x1)), (2, .int (iv x2)), (3, .int (iv v5_3)), (4, .long w1), (6, .long y4), (8, .int (iv v85_8)), (9, .long w6), (11, .int (iv (v115_11 + 1)))]) [2, 3, 4, 5, 6, 7, 8, 9, 0] rfl ?_
                    exact ih115 (Int.toNat (15 - (v115_11 + 1))) (by omega) _ ht12 (v115_11 + 1) ⟨by omega, by omega, by omega⟩ (by omega)
              refine Rn.pick (lv' := [(0, .ref hs), (1, .int (iv x1)), (2, .int (iv x2)), (3, .int (iv v5_3)), (4, .long w1), (6, .long y4), (8, .int (iv v85_8)), (9, .long w6), (11, .int (iv x2))]) [2, 3, 4, 5, 6, 7, 8, 1, 0] rfl ?_
              exact B115 (Int.toNat (15 - x2)) _ ht85 x2 ⟨by omega, by omega, by omega⟩ (by omega)
          refine Rn.pick (lv' := [(0, .ref hs), (1, .int (iv x1)), (2, .int (iv x2)), (3, .int (iv v5_3)), (4, .long w1), (6, .long y4), (8, .int (iv (x2 + 1)))]) [2, 3, 4, 5, 6, 1, 0] rfl ?_
          exact B85 (Int.toNat (16 - (x2 + 1))) _ ht3 (x2 + 1) ⟨by omega, by omega, by omega⟩ (by omega)
        refine t_icmp_eq (pc := 60) (tgt := 70) dX8_pivot_60 (by decide) (by omega) (by omega) (fun c60 => ?_) (fun c60 => ?_)
        · refine Rn.pick (lv' := [(0, .ref hs), (1, .int (iv x1)), (2, .int (iv x2)), (3, .int (iv v5_3)), (4, .long w1)]) [1, 2, 3, 4, 0] rfl ?_
          exact B70 _ ht36 trivial
        · refine r_aload_n (pc := 63) dX8_pivot_63 (i := 0) rfl rfl ?_
          refine r_iload_n (pc := 64) dX8_pivot_64 (i := 1) rfl rfl ?_
          refine r_iload_n (pc := 65) dX8_pivot_65 (i := 3) rfl rfl ?_
          refine r_iload_n (pc := 66) dX8_pivot_66 (i := 2) rfl rfl ?_
          refine t_callVV (pc := 67) (as := [.int (iv x1), .int (iv v5_3), .int (iv x2)]) (st := []) ht36 (rd_of hh_O) kX8_130 rfl dX8_pivot_67 (t_X8_exchange (d := d - 1) (x1 := x1) (x2 := v5_3) (x3 := x2) (by omega) hh  ht36 (by omega) (by omega) (by omega) ) rfl (by omega) (Nat.le_of_ble_eq_true rfl) rfl (fun hp13 ht14 => ?_)
          refine Rn.pick (lv' := [(0, .ref hs), (1, .int (iv x1)), (2, .int (iv x2)), (3, .int (iv v5_3)), (4, .long w1)]) [1, 2, 3, 4, 0] rfl ?_
          exact B70 _ ht14 trivial
      · refine r_lconst (pc := 56) (v := 0) dX8_pivot_56 (by decide) ?_
        exact r_lret (pc := 57) dX8_pivot_57 rfl ⟨rfl, ht36, _, rfl, trivial⟩
    refine t_icmp_ge (pc := 8) (tgt := 36) dX8_pivot_8 (by decide) (by omega) (by omega) (fun c8 => ?_) (fun c8 => ?_)
    · refine Rn.pick (lv' := [(0, .ref hs), (1, .int (iv x1)), (2, .int (iv x2)), (3, .int (iv v5_3))]) [0, 1, 2, 3] rfl ?_
      exact B36 _ ht5 trivial
    · refine r_aload_n (pc := 11) dX8_pivot_11 (i := 0) rfl rfl ?_
      refine t_getE (pc := 12) (.ref (hs + 1)) ht5 (rd_of hh_O) fX8_9 dX8_pivot_12 rfl ?_
      refine r_iload_n (pc := 15) dX8_pivot_15 (i := 3) rfl rfl ?_
      refine r_bipush (pc := 16) (v := iv 16) dX8_pivot_16 (by decide) ?_
      refine r_imul (pc := 18) (v := iv (v5_3 * 16)) dX8_pivot_18 (iv_mul _ _) ?_
      refine r_iload_n (pc := 19) dX8_pivot_19 (i := 2) rfl rfl ?_
      refine r_iadd (pc := 20) (v := iv ((v5_3 * 16) + x2)) dX8_pivot_20 (iv_add _ _) ?_
      refine t_lald (pc := 21) (t0 := 1) ht5 (rd_of hh_table) dX8_pivot_21 rfl (by decide) (by omega) (fun w16 _ => ?_)
      refine r_lconst (pc := 22) (v := 0) dX8_pivot_22 (by decide) ?_
      refine r_lcmp (pc := 23) dX8_pivot_23 ?_
      refine r_if_ne (pc := 24) (tgt := 36) dX8_pivot_24 (by decide) (fun c24 => ?_) (fun c24 => ?_)
      · refine Rn.pick (lv' := [(0, .ref hs), (1, .int (iv x1)), (2, .int (iv x2)), (3, .int (iv v5_3))]) [0, 1, 2, 3] rfl ?_
        exact B36 _ ht5 trivial
      · refine r_iload (pc := 27) dX8_pivot_27 rfl ?_
        refine r_istore_n (pc := 29) (lv' := [(3, .int (iv v5_4)), (0, .ref hs), (1, .int (iv x1)), (2, .int (iv x2)), (4, .int (iv v5_4))]) dX8_pivot_29 (i := 3) rfl (by decide) rfl ?_
        refine r_iinc (pc := 30) (v := iv (v5_4 + 1)) (lv' := [(4, .int (iv (v5_4 + 1))), (3, .int (iv v5_4)), (0, .ref hs), (1, .int (iv x1)), (2, .int (iv x2))]) dX8_pivot_30 rfl (iv_add _ _) (by decide) rfl ?_
        refine r_goto (pc := 33) (tgt := 5) dX8_pivot_33 (by decide) ?_
        refine Rn.pick (lv' := [(0, .ref hs), (1, .int (iv x1)), (2, .int (iv x2)), (3, .int (iv v5_4)), (4, .int (iv (v5_4 + 1)))]) [2, 3, 4, 1, 0] rfl ?_
        exact ih5 (Int.toNat (15 - (v5_4 + 1))) (by omega) _ ht5 v5_4 (v5_4 + 1) ⟨by omega, by omega, by omega, by omega, by omega⟩ (by omega)
  refine Rn.pick (lv' := [(0, .ref hs), (1, .int (iv x1)), (2, .int (iv x2)), (3, .int (iv x2)), (4, .int (iv x2))]) [2, 3, 4, 1, 0] rfl ?_
  exact B5 (Int.toNat (15 - x2)) _ ht x2 x2 ⟨by omega, by omega, by omega, by omega, by omega⟩ (by omega)
set_option maxHeartbeats 4000000 in
set_option maxRecDepth 100000 in
theorem t_X8_trees {D : va_G} {cI cJ cZ cT : ClassId} {lo b L : Nat} {xs : Nat → Int32} {hp : MH} {n d : Nat} {Γ : TG} {hs : Nat} {ga : Nat} {gF : Nat} {gT : Nat} {gW : Nat} {gC : Nat} {gTl : Nat} {gHd : Nat} {gBy : Nat} {gOu : Nat} {gIn : Nat} {gJo : Nat} {gn : Nat} {gm : Nat} {gq : Nat} {gdr : Int} (hd0 : 2 ≤ d) (hh : TyShape Γ cI cJ cZ hs) (hg : TyG Γ cI cJ cZ ga gF gT gW gC gTl gHd gBy gOu gIn gJo gn gm gq gdr) (ht : Tw Γ hp)  : Mt (gG D cI cJ cZ cT lo b L xs) mX8_trees d 0 0 [.ref hs, .ref ga] hp n (pJ Γ n yes64) := by
  obtain ⟨hh_O, hh_table⟩ := id hh
  obtain ⟨hg_O, hg_from, hg_to, hg_weight, hg_cost, hg_tail, hg_head, hg_by, hg_out, hg_in, hg_joined, hg_b⟩ := id hg
  refine Mt.of rfl (Nat.le_of_ble_eq_true rfl) ?_
  refine Rn.pick (lv' := [(0, .ref hs), (1, .ref ga)]) [0, 1] rfl ?_
  refine r_aload_n (pc := 0) dX8_trees_0 (i := 1) rfl rfl ?_
  refine t_getE (pc := 1) (.int (iv (gn : Int))) ht hg_O fX8_35 dX8_trees_1 rfl ?_
  refine r_iconst (pc := 4) (v := iv 1) dX8_trees_4 (by decide) ?_
  refine r_isub (pc := 5) (v := iv ((gn : Int) - 1)) dX8_trees_5 (iv_sub _ _) ?_
  refine r_istore_n (pc := 6) (lv' := [(2, .int (iv ((gn : Int) - 1))), (0, .ref hs), (1, .ref ga)]) dX8_trees_6 (i := 2) rfl (by decide) rfl ?_
  refine r_aload_n (pc := 7) dX8_trees_7 (i := 0) rfl rfl ?_
  refine r_aload_n (pc := 8) dX8_trees_8 (i := 1) rfl rfl ?_
  refine r_iload_n (pc := 9) dX8_trees_9 (i := 2) rfl rfl ?_
  refine t_callVV (pc := 10) (as := [.ref ga, .int (iv ((gn : Int) - 1))]) (st := []) ht (rd_of hh_O) kX8_108 rfl dX8_trees_10 (t_X8_fillTable (d := d - 1) (x2 := (gn : Int) - 1) (by omega) hh hg  ht (by omega) ) rfl (by omega) (Nat.le_of_ble_eq_true rfl) rfl (fun hp1 ht2 => ?_)
  refine r_lconst (pc := 13) (v := 1) dX8_trees_13 (by decide) ?_
  refine r_lstore_n (pc := 14) (lv' := [(3, .long (1 : Int64)), (2, .int (iv ((gn : Int) - 1))), (0, .ref hs), (1, .ref ga)]) dX8_trees_14 (i := 3) rfl (by decide) rfl ?_
  refine r_iconst (pc := 15) (v := iv 0) dX8_trees_15 (by decide) ?_
  refine r_istore (pc := 16) (lv' := [(5, .int (iv 0)), (3, .long (1 : Int64)), (2, .int (iv ((gn : Int) - 1))), (0, .ref hs), (1, .ref ga)]) dX8_trees_16 (by decide) rfl ?_
  have B18 : ∀ k : Nat, ∀ hp18 : MH, Tw Γ hp18 → ∀  (v18_5 : Int) (w18_3 : Int64), 0 ≤ v18_5 ∧ v18_5 ≤ 15 → 15 - v18_5 ≤ (k : Int) → Rn (gG D cI cJ cZ cT lo b L xs) mX8_trees d 18 [(0, .ref hs), (2, .int (iv ((gn : Int) - 1))), (3, .long w18_3), (5, .int (iv v18_5))] [] hp18 n 0 0 (pJ Γ n yes64) := by
    refine lpS _ ?_
    intro k18 ih18 hp18 ht18 v18_5 w18_3 hf18 hm18
    refine r_iload (pc := 18) dX8_trees_18 rfl ?_
    refine r_iload_n (pc := 20) dX8_trees_20 (i := 2) rfl rfl ?_
    have B50 : ∀ hp50 : MH, Tw Γ hp50 → True → Rn (gG D cI cJ cZ cT lo b L xs) mX8_trees d 50 [(3, .long w18_3)] [] hp50 n 0 0 (pJ Γ n yes64) := by
      intro hp50 ht50 hf50
      refine r_lload_n (pc := 50) dX8_trees_50 (i := 3) rfl rfl ?_
      exact r_lret (pc := 51) dX8_trees_51 rfl ⟨rfl, ht50, _, rfl, trivial⟩
    refine t_icmp_ge (pc := 21) (tgt := 50) dX8_trees_21 (by decide) (by omega) (by omega) (fun c21 => ?_) (fun c21 => ?_)
    · refine Rn.pick (lv' := [(3, .long w18_3)]) [2] rfl ?_
      exact B50 _ ht18 trivial
    · refine r_lload_n (pc := 24) dX8_trees_24 (i := 3) rfl rfl ?_
      refine r_lconst (pc := 25) (v := 0) dX8_trees_25 (by decide) ?_
      refine r_lcmp (pc := 26) dX8_trees_26 ?_
      refine r_if_eq (pc := 27) (tgt := 50) dX8_trees_27 (by decide) (fun c27 => ?_) (fun c27 => ?_)
      · refine Rn.pick (lv' := [(3, .long w18_3)]) [2] rfl ?_
        exact B50 _ ht18 trivial
      · refine r_lload_n (pc := 30) dX8_trees_30 (i := 3) rfl rfl ?_
        refine r_aload_n (pc := 31) dX8_trees_31 (i := 0) rfl rfl ?_
        refine r_iload_n (pc := 32) dX8_trees_32 (i := 2) rfl rfl ?_
        refine r_iload (pc := 33) dX8_trees_33 rfl ?_
        refine t_callVJ (pc := 35) (as := [.int (iv ((gn : Int) - 1)), .int (iv v18_5)]) (st := [.long w18_3]) ht18 (rd_of hh_O) kX8_112 rfl dX8_trees_35 (t_X8_pivot (d := d - 1) (x1 := (gn : Int) - 1) (x2 := v18_5) (by omega) hh  ht18 (by omega) (by omega) ) rfl (by omega) (Nat.le_of_ble_eq_true rfl) rfl (fun hp4 y6 ht5 _ => ?_)
        refine r_lmul (pc := 38) (v := w18_3 * y6) dX8_trees_38 rfl ?_
        refine r_ldc2 (pc := 39) (v := 1000000007) dX8_trees_39 kX8_116 ?_
        refine r_lrem (pc := 42) (v := (w18_3 * y6) - (w18_3 * y6) / (1000000007 : Int64) * (1000000007 : Int64)) dX8_trees_42 (by decide) rfl ?_
        generalize (w18_3 * y6) - (w18_3 * y6) / (1000000007 : Int64) * (1000000007 : Int64) = w7
        refine r_lstore_n (pc := 43) (lv' := [(3, .long w7), (0, .ref hs), (2, .int (iv ((gn : Int) - 1))), (5, .int (iv v18_5))]) dX8_trees_43 (i := 3) rfl (by decide) rfl ?_
        refine r_iinc (pc := 44) (v := iv (v18_5 + 1)) (lv' := [(5, .int (iv (v18_5 + 1))), (3, .long w7), (0, .ref hs), (2, .int (iv ((gn : Int) - 1)))]) dX8_trees_44 rfl (iv_add _ _) (by decide) rfl ?_
        refine r_goto (pc := 47) (tgt := 18) dX8_trees_47 (by decide) ?_
        refine Rn.pick (lv' := [(0, .ref hs), (2, .int (iv ((gn : Int) - 1))), (3, .long w7), (5, .int (iv (v18_5 + 1)))]) [2, 3, 1, 0] rfl ?_
        exact ih18 (Int.toNat (15 - (v18_5 + 1))) (by omega) _ ht5 (v18_5 + 1) w7 ⟨by omega, by omega⟩ (by omega)
  refine Rn.pick (lv' := [(0, .ref hs), (2, .int (iv ((gn : Int) - 1))), (3, .long (1 : Int64)), (5, .int (iv 0))]) [3, 2, 1, 0] rfl ?_
  exact B18 (Int.toNat (15 - 0)) _ ht2 0 (1 : Int64) ⟨by omega, by omega⟩ (by omega)
