set_option maxHeartbeats 4000000 in
set_option maxRecDepth 100000 in
theorem t_X12_at1 {D : va_G} {cI cJ cZ cT : ClassId} {lo b L : Nat} {xs : Nat → Int32} {hp : MH} {n d : Nat} {Γ : TG} {x1 x2 : Int} (hd0 : 0 ≤ d) (ht : Tw Γ hp) (hx1 : 0 ≤ x1 ∧ x1 ≤ 120) (hx2 : 0 ≤ x2 ∧ x2 ≤ 59) : Mt (gG D cI cJ cZ cT lo b L xs) mX12_at1 d 0 0 [.int (iv x1), .int (iv x2)] hp n (pR Γ n 0 7259) := by
  refine Mt.of rfl (Nat.le_of_ble_eq_true rfl) ?_
  refine Rn.pick (lv' := [(0, .int (iv x1)), (1, .int (iv x2))]) [0, 1] rfl ?_
  refine r_bipush (pc := 0) (v := iv 60) dX12_at1_0 (by decide) ?_
  refine r_iload_n (pc := 2) dX12_at1_2 (i := 0) rfl rfl ?_
  refine r_imul (pc := 3) (v := iv (60 * x1)) dX12_at1_3 (iv_mul _ _) ?_
  refine r_iload_n (pc := 4) dX12_at1_4 (i := 1) rfl rfl ?_
  refine r_iadd (pc := 5) (v := iv ((60 * x1) + x2)) dX12_at1_5 (iv_add _ _) ?_
  exact r_iret (pc := 6) dX12_at1_6 rfl ⟨rfl, ht, _, rfl, by omega, by omega⟩
set_option maxHeartbeats 4000000 in
set_option maxRecDepth 100000 in
theorem t_X12_bits {D : va_G} {cI cJ cZ cT : ClassId} {lo b L : Nat} {xs : Nat → Int32} {hp : MH} {n d : Nat} {Γ : TG} {x1 : Int} (hd0 : 0 ≤ d) (ht : Tw Γ hp) (hx1 : 0 ≤ x1 ∧ x1 ≤ 65536) : Mt (gG D cI cJ cZ cT lo b L xs) mX12_bits d 0 0 [.int (iv x1)] hp n (pR Γ n 0 16) := by
  refine Mt.of rfl (Nat.le_of_ble_eq_true rfl) ?_
  refine Rn.pick (lv' := [(0, .int (iv x1))]) [0] rfl ?_
  refine r_iconst (pc := 0) (v := iv 0) dX12_bits_0 (by decide) ?_
  refine r_istore_n (pc := 1) (lv' := [(1, .int (iv 0)), (0, .int (iv x1))]) dX12_bits_1 (i := 1) rfl (by decide) rfl ?_
  refine r_iconst (pc := 2) (v := iv 0) dX12_bits_2 (by decide) ?_
  refine r_istore_n (pc := 3) (lv' := [(2, .int (iv 0)), (1, .int (iv 0)), (0, .int (iv x1))]) dX12_bits_3 (i := 2) rfl (by decide) rfl ?_
  have B4 : ∀ k : Nat, ∀ hp4 : MH, Tw Γ hp4 → ∀  (v4_1 : Int) (v4_2 : Int), 0 ≤ v4_1 ∧ v4_1 ≤ 16 ∧ 0 ≤ v4_2 ∧ v4_2 ≤ 16 ∧ v4_1 ≤ v4_2 → 16 - v4_2 ≤ (k : Int) → Rn (gG D cI cJ cZ cT lo b L xs) mX12_bits d 4 [(0, .int (iv x1)), (1, .int (iv v4_1)), (2, .int (iv v4_2))] [] hp4 n 0 0 (pR Γ n 0 16) := by
    refine lpS _ ?_
    intro k4 ih4 hp4 ht4 v4_1 v4_2 hf4 hm4
    refine r_iload_n (pc := 4) dX12_bits_4 (i := 2) rfl rfl ?_
    refine r_bipush (pc := 5) (v := iv 16) dX12_bits_5 (by decide) ?_
    refine t_icmp_ge (pc := 7) (tgt := 24) dX12_bits_7 (by decide) (by omega) (by omega) (fun c7 => ?_) (fun c7 => ?_)
    · refine r_iload_n (pc := 24) dX12_bits_24 (i := 1) rfl rfl ?_
      exact r_iret (pc := 25) dX12_bits_25 rfl ⟨rfl, ht4, _, rfl, by omega, by omega⟩
    · refine r_iload_n (pc := 10) dX12_bits_10 (i := 1) rfl rfl ?_
      refine r_iload_n (pc := 11) dX12_bits_11 (i := 0) rfl rfl ?_
      refine r_iload_n (pc := 12) dX12_bits_12 (i := 2) rfl rfl ?_
      obtain ⟨z1, hz1, bz1⟩ := shr_x x1 v4_2 (by omega) (by omega)
      refine r_ishr (pc := 13) (v := iv z1) dX12_bits_13 hz1 ?_
      refine r_iconst (pc := 14) (v := iv 1) dX12_bits_14 (by decide) ?_
      obtain ⟨z2, hz2, bz2⟩ := and_2 z1 1 (by omega) (by omega)
      refine r_iand (pc := 15) (v := iv z2) dX12_bits_15 hz2 ?_
      refine r_iadd (pc := 16) (v := iv (v4_1 + z2)) dX12_bits_16 (iv_add _ _) ?_
      refine r_istore_n (pc := 17) (lv' := [(1, .int (iv (v4_1 + z2))), (0, .int (iv x1)), (2, .int (iv v4_2))]) dX12_bits_17 (i := 1) rfl (by decide) rfl ?_
      refine r_iinc (pc := 18) (v := iv (v4_2 + 1)) (lv' := [(2, .int (iv (v4_2 + 1))), (1, .int (iv (v4_1 + z2))), (0, .int (iv x1))]) dX12_bits_18 rfl (iv_add _ _) (by decide) rfl ?_
      refine r_goto (pc := 21) (tgt := 4) dX12_bits_21 (by decide) ?_
      refine Rn.pick (lv' := [(0, .int (iv x1)), (1, .int (iv (v4_1 + z2))), (2, .int (iv (v4_2 + 1)))]) [2, 1, 0] rfl ?_
      exact ih4 (Int.toNat (16 - (v4_2 + 1))) (by omega) _ ht4 (v4_1 + z2) (v4_2 + 1) ⟨by omega, by omega, by omega, by omega, by omega⟩ (by omega)
  refine Rn.pick (lv' := [(0, .int (iv x1)), (1, .int (iv 0)), (2, .int (iv 0))]) [2, 1, 0] rfl ?_
  exact B4 (Int.toNat (16 - 0)) _ ht 0 0 ⟨by omega, by omega, by omega, by omega, by omega⟩ (by omega)
set_option maxHeartbeats 4000000 in
set_option maxRecDepth 100000 in
theorem t_X12_placeIn {D : va_G} {cI cJ cZ cT : ClassId} {lo b L : Nat} {xs : Nat → Int32} {hp : MH} {n d : Nat} {Γ : TG} {x1 x2 : Int} (hd0 : 0 ≤ d) (ht : Tw Γ hp) (hx1 : 0 ≤ x1 ∧ x1 ≤ 65535) (hx2 : 0 ≤ x2 ∧ x2 ≤ 15) : Mt (gG D cI cJ cZ cT lo b L xs) mX12_placeIn d 0 0 [.int (iv x1), .int (iv x2)] hp n (pR Γ n 0 15) := by
  refine Mt.of rfl (Nat.le_of_ble_eq_true rfl) ?_
  refine Rn.pick (lv' := [(0, .int (iv x1)), (1, .int (iv x2))]) [0, 1] rfl ?_
  refine r_iconst (pc := 0) (v := iv 0) dX12_placeIn_0 (by decide) ?_
  refine r_istore_n (pc := 1) (lv' := [(2, .int (iv 0)), (0, .int (iv x1)), (1, .int (iv x2))]) dX12_placeIn_1 (i := 2) rfl (by decide) rfl ?_
  refine r_iconst (pc := 2) (v := iv 0) dX12_placeIn_2 (by decide) ?_
  refine r_istore_n (pc := 3) (lv' := [(3, .int (iv 0)), (2, .int (iv 0)), (0, .int (iv x1)), (1, .int (iv x2))]) dX12_placeIn_3 (i := 3) rfl (by decide) rfl ?_
  have B4 : ∀ k : Nat, ∀ hp4 : MH, Tw Γ hp4 → ∀  (v4_2 : Int) (v4_3 : Int), 0 ≤ v4_2 ∧ v4_2 ≤ 15 ∧ 0 ≤ v4_3 ∧ v4_3 ≤ 15 ∧ v4_2 ≤ v4_3 → 15 - v4_3 ≤ (k : Int) → Rn (gG D cI cJ cZ cT lo b L xs) mX12_placeIn d 4 [(0, .int (iv x1)), (1, .int (iv x2)), (2, .int (iv v4_2)), (3, .int (iv v4_3))] [] hp4 n 0 0 (pR Γ n 0 15) := by
    refine lpS _ ?_
    intro k4 ih4 hp4 ht4 v4_2 v4_3 hf4 hm4
    refine r_iload_n (pc := 4) dX12_placeIn_4 (i := 3) rfl rfl ?_
    refine r_iload_n (pc := 5) dX12_placeIn_5 (i := 1) rfl rfl ?_
    refine t_icmp_ge (pc := 6) (tgt := 23) dX12_placeIn_6 (by decide) (by omega) (by omega) (fun c6 => ?_) (fun c6 => ?_)
    · refine r_iload_n (pc := 23) dX12_placeIn_23 (i := 2) rfl rfl ?_
      exact r_iret (pc := 24) dX12_placeIn_24 rfl ⟨rfl, ht4, _, rfl, by omega, by omega⟩
    · refine r_iload_n (pc := 9) dX12_placeIn_9 (i := 2) rfl rfl ?_
      refine r_iload_n (pc := 10) dX12_placeIn_10 (i := 0) rfl rfl ?_
      refine r_iload_n (pc := 11) dX12_placeIn_11 (i := 3) rfl rfl ?_
      obtain ⟨z1, hz1, bz1⟩ := shr_x x1 v4_3 (by omega) (by omega)
      refine r_ishr (pc := 12) (v := iv z1) dX12_placeIn_12 hz1 ?_
      refine r_iconst (pc := 13) (v := iv 1) dX12_placeIn_13 (by decide) ?_
      obtain ⟨z2, hz2, bz2⟩ := and_2 z1 1 (by omega) (by omega)
      refine r_iand (pc := 14) (v := iv z2) dX12_placeIn_14 hz2 ?_
      refine r_iadd (pc := 15) (v := iv (v4_2 + z2)) dX12_placeIn_15 (iv_add _ _) ?_
      refine r_istore_n (pc := 16) (lv' := [(2, .int (iv (v4_2 + z2))), (0, .int (iv x1)), (1, .int (iv x2)), (3, .int (iv v4_3))]) dX12_placeIn_16 (i := 2) rfl (by decide) rfl ?_
      refine r_iinc (pc := 17) (v := iv (v4_3 + 1)) (lv' := [(3, .int (iv (v4_3 + 1))), (2, .int (iv (v4_2 + z2))), (0, .int (iv x1)), (1, .int (iv x2))]) dX12_placeIn_17 rfl (iv_add _ _) (by decide) rfl ?_
      refine r_goto (pc := 20) (tgt := 4) dX12_placeIn_20 (by decide) ?_
      refine Rn.pick (lv' := [(0, .int (iv x1)), (1, .int (iv x2)), (2, .int (iv (v4_2 + z2))), (3, .int (iv (v4_3 + 1)))]) [2, 3, 1, 0] rfl ?_
      exact ih4 (Int.toNat (15 - (v4_3 + 1))) (by omega) _ ht4 (v4_2 + z2) (v4_3 + 1) ⟨by omega, by omega, by omega, by omega, by omega⟩ (by omega)
  refine Rn.pick (lv' := [(0, .int (iv x1)), (1, .int (iv x2)), (2, .int (iv 0)), (3, .int (iv 0))]) [2, 3, 1, 0] rfl ?_
  exact B4 (Int.toNat (15 - 0)) _ ht 0 0 ⟨by omega, by omega, by omega, by omega, by omega⟩ (by omega)
set_option maxHeartbeats 4000000 in
set_option maxRecDepth 100000 in
theorem t_X12_sameEnds {D : va_G} {cI cJ cZ cT : ClassId} {lo b L : Nat} {xs : Nat → Int32} {hp : MH} {n d : Nat} {Γ : TG} {y : Nat} {rf cnt nm : Int32} {x1 x2 x3 : Int} (hd0 : 0 ≤ d) (hO : rd Γ y (tO 11 (mdF y rf cnt nm))) (hA_directs : rd Γ (y + 3) (tI cZ 121 (rg 0 1))) (hA_from : rd Γ (y + 5) (tI cI 7260 (rg 0 15))) (hA_to : rd Γ (y + 6) (tI cI 7260 (rg 0 15))) (ht : Tw Γ hp) (hx1 : 0 ≤ x1 ∧ x1 ≤ 120) (hx2 : 0 ≤ x2 ∧ x2 ≤ 7259) (hx3 : 0 ≤ x3 ∧ x3 ≤ 7259) : Mt (gG D cI cJ cZ cT lo b L xs) mX12_sameEnds d 0 0 [.ref y, .int (iv x1), .int (iv x2), .int (iv x3)] hp n (pR Γ n 0 1) := by
  refine Mt.of rfl (Nat.le_of_ble_eq_true rfl) ?_
  refine Rn.pick (lv' := [(0, .ref y), (1, .int (iv x1)), (2, .int (iv x2)), (3, .int (iv x3))]) [0, 1, 2, 3] rfl ?_
  refine r_aload_n (pc := 0) dX12_sameEnds_0 (i := 0) rfl rfl ?_
  refine t_getE (pc := 1) (.ref (y + 5)) ht hO fX12_23 dX12_sameEnds_1 rfl ?_
  refine r_iload_n (pc := 4) dX12_sameEnds_4 (i := 2) rfl rfl ?_
  refine t_ialdR (pc := 5) (t0 := 0) ht hA_from dX12_sameEnds_5 rfl (by decide) (by omega) (fun y1 by1 => ?_)
  refine r_aload_n (pc := 6) dX12_sameEnds_6 (i := 0) rfl rfl ?_
  refine t_getE (pc := 7) (.ref (y + 5)) ht hO fX12_23 dX12_sameEnds_7 rfl ?_
  refine r_iload_n (pc := 10) dX12_sameEnds_10 (i := 3) rfl rfl ?_
  refine t_ialdR (pc := 11) (t0 := 0) ht hA_from dX12_sameEnds_11 rfl (by decide) (by omega) (fun y2 by2 => ?_)
  have B35 : ∀ hp35 : MH, Tw Γ hp35 → ∀  (u35_0 : Int), 0 ≤ u35_0 ∧ u35_0 ≤ 1 → Rn (gG D cI cJ cZ cT lo b L xs) mX12_sameEnds d 35 [(0, .ref y), (1, .int (iv x1)), (2, .int (iv x2)), (3, .int (iv x3))] [.int (iv u35_0)] hp35 n 0 0 (pR Γ n 0 1) := by
    intro hp35 ht35 u35_0 hf35
    refine r_istore (pc := 35) (lv' := [(4, .int (iv u35_0)), (0, .ref y), (1, .int (iv x1)), (2, .int (iv x2)), (3, .int (iv x3))]) dX12_sameEnds_35 (by decide) rfl ?_
    refine r_iload (pc := 37) dX12_sameEnds_37 rfl ?_
    have B86 : ∀ hp86 : MH, Tw Γ hp86 → ∀  (u86_0 : Int), 0 ≤ u86_0 ∧ u86_0 ≤ 1 → Rn (gG D cI cJ cZ cT lo b L xs) mX12_sameEnds d 86 [] [.int (iv u86_0)] hp86 n 0 0 (pR Γ n 0 1) := by
      intro hp86 ht86 u86_0 hf86
      exact r_zret (pc := 86) dX12_sameEnds_86 rfl (iv_nar (by omega)) ⟨rfl, ht86, _, rfl, by omega, by omega⟩
    have B81 : ∀ hp81 : MH, Tw Γ hp81 → True → Rn (gG D cI cJ cZ cT lo b L xs) mX12_sameEnds d 81 [] [] hp81 n 0 0 (pR Γ n 0 1) := by
      intro hp81 ht81 hf81
      refine r_iconst (pc := 81) (v := iv 1) dX12_sameEnds_81 (by decide) ?_
      refine r_goto (pc := 82) (tgt := 86) dX12_sameEnds_82 (by decide) ?_
      refine Rn.pick (lv' := []) [] rfl ?_
      exact B86 _ ht81 1 ⟨by omega, by omega⟩
    refine t_if_ne (pc := 39) (tgt := 81) dX12_sameEnds_39 (by decide) (by omega) (fun c39 => ?_) (fun c39 => ?_)
    · refine Rn.pick (lv' := []) [] rfl ?_
      exact B81 _ ht35 trivial
    · refine r_aload_n (pc := 42) dX12_sameEnds_42 (i := 0) rfl rfl ?_
      refine t_getE (pc := 43) (.ref (y + 3)) ht35 hO fX12_16 dX12_sameEnds_43 rfl ?_
      refine r_iload_n (pc := 46) dX12_sameEnds_46 (i := 1) rfl rfl ?_
      refine t_zaldR (pc := 47) (t0 := 2) ht35 hA_directs dX12_sameEnds_47 rfl (by decide) (by omega) (fun y3 by3 => ?_)
      have B85 : ∀ hp85 : MH, Tw Γ hp85 → True → Rn (gG D cI cJ cZ cT lo b L xs) mX12_sameEnds d 85 [] [] hp85 n 0 0 (pR Γ n 0 1) := by
        intro hp85 ht85 hf85
        refine r_iconst (pc := 85) (v := iv 0) dX12_sameEnds_85 (by decide) ?_
        refine Rn.pick (lv' := []) [] rfl ?_
        exact B86 _ ht85 0 ⟨by omega, by omega⟩
      refine t_if_ne (pc := 48) (tgt := 85) dX12_sameEnds_48 (by decide) (by omega) (fun c48 => ?_) (fun c48 => ?_)
      · refine Rn.pick (lv' := []) [] rfl ?_
        exact B85 _ ht35 trivial
      · refine r_aload_n (pc := 51) dX12_sameEnds_51 (i := 0) rfl rfl ?_
        refine t_getE (pc := 52) (.ref (y + 5)) ht35 hO fX12_23 dX12_sameEnds_52 rfl ?_
        refine r_iload_n (pc := 55) dX12_sameEnds_55 (i := 2) rfl rfl ?_
        refine t_ialdR (pc := 56) (t0 := 0) ht35 hA_from dX12_sameEnds_56 rfl (by decide) (by omega) (fun y4 by4 => ?_)
        refine r_aload_n (pc := 57) dX12_sameEnds_57 (i := 0) rfl rfl ?_
        refine t_getE (pc := 58) (.ref (y + 6)) ht35 hO fX12_26 dX12_sameEnds_58 rfl ?_
        refine r_iload_n (pc := 61) dX12_sameEnds_61 (i := 3) rfl rfl ?_
        refine t_ialdR (pc := 62) (t0 := 0) ht35 hA_to dX12_sameEnds_62 rfl (by decide) (by omega) (fun y5 by5 => ?_)
        refine t_icmp_ne (pc := 63) (tgt := 85) dX12_sameEnds_63 (by decide) (by omega) (by omega) (fun c63 => ?_) (fun c63 => ?_)
        · refine Rn.pick (lv' := []) [] rfl ?_
          exact B85 _ ht35 trivial
        · refine r_aload_n (pc := 66) dX12_sameEnds_66 (i := 0) rfl rfl ?_
          refine t_getE (pc := 67) (.ref (y + 6)) ht35 hO fX12_26 dX12_sameEnds_67 rfl ?_
          refine r_iload_n (pc := 70) dX12_sameEnds_70 (i := 2) rfl rfl ?_
          refine t_ialdR (pc := 71) (t0 := 0) ht35 hA_to dX12_sameEnds_71 rfl (by decide) (by omega) (fun y6 by6 => ?_)
          refine r_aload_n (pc := 72) dX12_sameEnds_72 (i := 0) rfl rfl ?_
          refine t_getE (pc := 73) (.ref (y + 5)) ht35 hO fX12_23 dX12_sameEnds_73 rfl ?_
          refine r_iload_n (pc := 76) dX12_sameEnds_76 (i := 3) rfl rfl ?_
          refine t_ialdR (pc := 77) (t0 := 0) ht35 hA_from dX12_sameEnds_77 rfl (by decide) (by omega) (fun y7 by7 => ?_)
          refine t_icmp_ne (pc := 78) (tgt := 85) dX12_sameEnds_78 (by decide) (by omega) (by omega) (fun c78 => ?_) (fun c78 => ?_)
          · refine Rn.pick (lv' := []) [] rfl ?_
            exact B85 _ ht35 trivial
          · refine Rn.pick (lv' := []) [] rfl ?_
            exact B81 _ ht35 trivial
  have B34 : ∀ hp34 : MH, Tw Γ hp34 → True → Rn (gG D cI cJ cZ cT lo b L xs) mX12_sameEnds d 34 [(0, .ref y), (1, .int (iv x1)), (2, .int (iv x2)), (3, .int (iv x3))] [] hp34 n 0 0 (pR Γ n 0 1) := by
    intro hp34 ht34 hf34
    refine r_iconst (pc := 34) (v := iv 0) dX12_sameEnds_34 (by decide) ?_
    refine Rn.pick (lv' := [(0, .ref y), (1, .int (iv x1)), (2, .int (iv x2)), (3, .int (iv x3))]) [0, 1, 2, 3] rfl ?_
    exact B35 _ ht34 0 ⟨by omega, by omega⟩
  refine t_icmp_ne (pc := 12) (tgt := 34) dX12_sameEnds_12 (by decide) (by omega) (by omega) (fun c12 => ?_) (fun c12 => ?_)
  · refine Rn.pick (lv' := [(0, .ref y), (1, .int (iv x1)), (2, .int (iv x2)), (3, .int (iv x3))]) [0, 1, 2, 3] rfl ?_
    exact B34 _ ht trivial
  · refine r_aload_n (pc := 15) dX12_sameEnds_15 (i := 0) rfl rfl ?_
    refine t_getE (pc := 16) (.ref (y + 6)) ht hO fX12_26 dX12_sameEnds_16 rfl ?_
    refine r_iload_n (pc := 19) dX12_sameEnds_19 (i := 2) rfl rfl ?_
    refine t_ialdR (pc := 20) (t0 := 0) ht hA_to dX12_sameEnds_20 rfl (by decide) (by omega) (fun y8 by8 => ?_)
    refine r_aload_n (pc := 21) dX12_sameEnds_21 (i := 0) rfl rfl ?_
    refine t_getE (pc := 22) (.ref (y + 6)) ht hO fX12_26 dX12_sameEnds_22 rfl ?_
    refine r_iload_n (pc := 25) dX12_sameEnds_25 (i := 3) rfl rfl ?_
    refine t_ialdR (pc := 26) (t0 := 0) ht hA_to dX12_sameEnds_26 rfl (by decide) (by omega) (fun y9 by9 => ?_)
    refine t_icmp_ne (pc := 27) (tgt := 34) dX12_sameEnds_27 (by decide) (by omega) (by omega) (fun c27 => ?_) (fun c27 => ?_)
    · refine Rn.pick (lv' := [(0, .ref y), (1, .int (iv x1)), (2, .int (iv x2)), (3, .int (iv x3))]) [0, 1, 2, 3] rfl ?_
      exact B34 _ ht trivial
    · refine r_iconst (pc := 30) (v := iv 1) dX12_sameEnds_30 (by decide) ?_
      refine r_goto (pc := 31) (tgt := 35) dX12_sameEnds_31 (by decide) ?_
      refine Rn.pick (lv' := [(0, .ref y), (1, .int (iv x1)), (2, .int (iv x2)), (3, .int (iv x3))]) [0, 1, 2, 3] rfl ?_
      exact B35 _ ht 1 ⟨by omega, by omega⟩
set_option maxHeartbeats 4000000 in
set_option maxRecDepth 100000 in
theorem t_X12_over {D : va_G} {cI cJ cZ cT : ClassId} {lo b L : Nat} {xs : Nat → Int32} {hp : MH} {n d : Nat} {Γ : TG} {y : Nat} {rf cnt nm : Int32} {x1 x2 x3 : Int} (hd0 : 1 ≤ d) (hO : rd Γ y (tO 11 (mdF y rf cnt nm))) (hA_directs : rd Γ (y + 3) (tI cZ 121 (rg 0 1))) (hA_from : rd Γ (y + 5) (tI cI 7260 (rg 0 15))) (hA_to : rd Γ (y + 6) (tI cI 7260 (rg 0 15))) (ht : Tw Γ hp) (hx1 : 0 ≤ x1 ∧ x1 ≤ 120) (hx2 : 0 ≤ x2 ∧ x2 ≤ 59) (hx3 : 0 ≤ x3 ∧ x3 ≤ 15) : Mt (gG D cI cJ cZ cT lo b L xs) mX12_over d 0 0 [.ref y, .int (iv x1), .int (iv x2), .int (iv x3)] hp n (pR Γ n (-1) 15) := by
  refine Mt.of rfl (Nat.le_of_ble_eq_true rfl) ?_
  refine Rn.pick (lv' := [(0, .ref y), (1, .int (iv x1)), (2, .int (iv x2)), (3, .int (iv x3))]) [0, 1, 2, 3] rfl ?_
  refine r_iload_n (pc := 0) dX12_over_0 (i := 1) rfl rfl ?_
  refine r_iload_n (pc := 1) dX12_over_1 (i := 2) rfl rfl ?_
  refine t_callSR (pc := 2) (as := [.int (iv x1), .int (iv x2)]) (st := []) kX12_157 dX12_over_2 (t_X12_at1 (d := d - 1) (x1 := x1) (x2 := x2) (by omega)  ht (by omega) (by omega)) rfl (by omega) (Nat.le_of_ble_eq_true rfl) rfl (fun hp1 y3 ht2 by3 => ?_)
  refine r_istore (pc := 5) (lv' := [(4, .int (iv y3)), (0, .ref y), (1, .int (iv x1)), (2, .int (iv x2)), (3, .int (iv x3))]) dX12_over_5 (by decide) rfl ?_
  refine r_aload_n (pc := 7) dX12_over_7 (i := 0) rfl rfl ?_
  refine t_getE (pc := 8) (.ref (y + 5)) ht2 hO fX12_23 dX12_over_8 rfl ?_
  refine r_iload (pc := 11) dX12_over_11 rfl ?_
  refine t_ialdR (pc := 13) (t0 := 0) ht2 hA_from dX12_over_13 rfl (by decide) (by omega) (fun y4 by4 => ?_)
  refine r_iload_n (pc := 14) dX12_over_14 (i := 3) rfl rfl ?_
  have B59 : ∀ hp59 : MH, Tw Γ hp59 → ∀  (u59_0 : Int), (-1) ≤ u59_0 ∧ u59_0 ≤ 15 → Rn (gG D cI cJ cZ cT lo b L xs) mX12_over d 59 [] [.int (iv u59_0)] hp59 n 0 0 (pR Γ n (-1) 15) := by
    intro hp59 ht59 u59_0 hf59
    exact r_iret (pc := 59) dX12_over_59 rfl ⟨rfl, ht59, _, rfl, by omega, by omega⟩
  refine t_icmp_ne (pc := 15) (tgt := 28) dX12_over_15 (by decide) (by omega) (by omega) (fun c15 => ?_) (fun c15 => ?_)
  · refine r_aload_n (pc := 28) dX12_over_28 (i := 0) rfl rfl ?_
    refine t_getE (pc := 29) (.ref (y + 3)) ht2 hO fX12_16 dX12_over_29 rfl ?_
    refine r_iload_n (pc := 32) dX12_over_32 (i := 1) rfl rfl ?_
    refine t_zaldR (pc := 33) (t0 := 2) ht2 hA_directs dX12_over_33 rfl (by decide) (by omega) (fun y5 by5 => ?_)
    have B58 : ∀ hp58 : MH, Tw Γ hp58 → True → Rn (gG D cI cJ cZ cT lo b L xs) mX12_over d 58 [] [] hp58 n 0 0 (pR Γ n (-1) 15) := by
      intro hp58 ht58 hf58
      refine r_iconst (pc := 58) (v := iv (-1)) dX12_over_58 (by decide) ?_
      refine Rn.pick (lv' := []) [] rfl ?_
      exact B59 _ ht58 (-1) ⟨by omega, by omega⟩
    refine t_if_ne (pc := 34) (tgt := 58) dX12_over_34 (by decide) (by omega) (fun c34 => ?_) (fun c34 => ?_)
    · refine Rn.pick (lv' := []) [] rfl ?_
      exact B58 _ ht2 trivial
    · refine r_aload_n (pc := 37) dX12_over_37 (i := 0) rfl rfl ?_
      refine t_getE (pc := 38) (.ref (y + 6)) ht2 hO fX12_26 dX12_over_38 rfl ?_
      refine r_iload (pc := 41) dX12_over_41 rfl ?_
      refine t_ialdR (pc := 43) (t0 := 0) ht2 hA_to dX12_over_43 rfl (by decide) (by omega) (fun y6 by6 => ?_)
      refine r_iload_n (pc := 44) dX12_over_44 (i := 3) rfl rfl ?_
      refine t_icmp_ne (pc := 45) (tgt := 58) dX12_over_45 (by decide) (by omega) (by omega) (fun c45 => ?_) (fun c45 => ?_)
      · refine Rn.pick (lv' := []) [] rfl ?_
        exact B58 _ ht2 trivial
      · refine r_aload_n (pc := 48) dX12_over_48 (i := 0) rfl rfl ?_
        refine t_getE (pc := 49) (.ref (y + 5)) ht2 hO fX12_23 dX12_over_49 rfl ?_
        refine r_iload (pc := 52) dX12_over_52 rfl ?_
        refine t_ialdR (pc := 54) (t0 := 0) ht2 hA_from dX12_over_54 rfl (by decide) (by omega) (fun y7 by7 => ?_)
        refine r_goto (pc := 55) (tgt := 59) dX12_over_55 (by decide) ?_
        refine Rn.pick (lv' := []) [] rfl ?_
        exact B59 _ ht2 y7 ⟨by omega, by omega⟩
  · refine r_aload_n (pc := 18) dX12_over_18 (i := 0) rfl rfl ?_
    refine t_getE (pc := 19) (.ref (y + 6)) ht2 hO fX12_26 dX12_over_19 rfl ?_
    refine r_iload (pc := 22) dX12_over_22 rfl ?_
    refine t_ialdR (pc := 24) (t0 := 0) ht2 hA_to dX12_over_24 rfl (by decide) (by omega) (fun y8 by8 => ?_)
    refine r_goto (pc := 25) (tgt := 59) dX12_over_25 (by decide) ?_
    refine Rn.pick (lv' := []) [] rfl ?_
    exact B59 _ ht2 y8 ⟨by omega, by omega⟩
set_option maxHeartbeats 4000000 in
set_option maxRecDepth 100000 in
theorem t_X12_degrees {D : va_G} {cI cJ cZ cT : ClassId} {lo b L : Nat} {xs : Nat → Int32} {hp : MH} {n d : Nat} {Γ : TG} {y : Nat} {rf cnt nm : Int32} {x1 x2 : Int} (hd0 : 1 ≤ d) (hO : rd Γ y (tO 11 (mdF y rf cnt nm))) (hA_directs : rd Γ (y + 3) (tI cZ 121 (rg 0 1))) (hA_many : rd Γ (y + 4) (tI cI 121 (rg 0 60))) (hA_from : rd Γ (y + 5) (tI cI 7260 (rg 0 15))) (hA_to : rd Γ (y + 6) (tI cI 7260 (rg 0 15))) (hA_weight : rd Γ (y + 7) (tI cI 7260 (rg (-1000) 1000))) (hA_column : Γ (y + 21) = some (tJ cJ 16 anyJ)) (ht : Tw Γ hp) (hx1 : 0 ≤ x1 ∧ x1 ≤ 120) (hx2 : 0 ≤ x2 ∧ x2 ≤ 2) : Mt (gG D cI cJ cZ cT lo b L xs) mX12_degrees d 0 0 [.ref y, .int (iv x1), .int (iv x2)] hp n (pV Γ n) := by
  refine Mt.of rfl (Nat.le_of_ble_eq_true rfl) ?_
  refine Rn.pick (lv' := [(0, .ref y), (1, .int (iv x1)), (2, .int (iv x2))]) [0, 1, 2] rfl ?_
  refine r_iconst (pc := 0) (v := iv 0) dX12_degrees_0 (by decide) ?_
  refine r_istore_n (pc := 1) (lv' := [(3, .int (iv 0)), (0, .ref y), (1, .int (iv x1)), (2, .int (iv x2))]) dX12_degrees_1 (i := 3) rfl (by decide) rfl ?_
  have B2 : ∀ k : Nat, ∀ hp2 : MH, Tw Γ hp2 → ∀  (v2_3 : Int), 0 ≤ v2_3 ∧ v2_3 ≤ 60 → 60 - v2_3 ≤ (k : Int) → Rn (gG D cI cJ cZ cT lo b L xs) mX12_degrees d 2 [(0, .ref y), (1, .int (iv x1)), (2, .int (iv x2)), (3, .int (iv v2_3))] [] hp2 n 0 0 (pV Γ n) := by
    refine lpS _ ?_
    intro k2 ih2 hp2 ht2 v2_3 hf2 hm2
    refine r_iload_n (pc := 2) dX12_degrees_2 (i := 3) rfl rfl ?_
    refine r_aload_n (pc := 3) dX12_degrees_3 (i := 0) rfl rfl ?_
    refine t_getE (pc := 4) (.ref (y + 4)) ht2 hO fX12_20 dX12_degrees_4 rfl ?_
    refine r_iload_n (pc := 7) dX12_degrees_7 (i := 1) rfl rfl ?_
    refine t_ialdR (pc := 8) (t0 := 0) ht2 hA_many dX12_degrees_8 rfl (by decide) (by omega) (fun y1 by1 => ?_)
    refine t_icmp_ge (pc := 9) (tgt := 157) dX12_degrees_9 (by decide) (by omega) (by omega) (fun c9 => ?_) (fun c9 => ?_)
    · exact r_vret (pc := 157) dX12_degrees_157 rfl ⟨rfl, ht2, rfl⟩
    · refine r_iload_n (pc := 12) dX12_degrees_12 (i := 1) rfl rfl ?_
      refine r_iload_n (pc := 13) dX12_degrees_13 (i := 3) rfl rfl ?_
      refine t_callSR (pc := 14) (as := [.int (iv x1), .int (iv v2_3)]) (st := []) kX12_157 dX12_degrees_14 (t_X12_at1 (d := d - 1) (x1 := x1) (x2 := v2_3) (by omega)  ht2 (by omega) (by omega)) rfl (by omega) (Nat.le_of_ble_eq_true rfl) rfl (fun hp2 y4 ht3 by4 => ?_)
      refine r_istore (pc := 17) (lv' := [(4, .int (iv y4)), (0, .ref y), (1, .int (iv x1)), (2, .int (iv x2)), (3, .int (iv v2_3))]) dX12_degrees_17 (by decide) rfl ?_
      refine r_aload_n (pc := 19) dX12_degrees_19 (i := 0) rfl rfl ?_
      refine t_getE (pc := 20) (.ref (y + 5)) ht3 hO fX12_23 dX12_degrees_20 rfl ?_
      refine r_iload (pc := 23) dX12_degrees_23 rfl ?_
      refine t_ialdR (pc := 25) (t0 := 0) ht3 hA_from dX12_degrees_25 rfl (by decide) (by omega) (fun y5 by5 => ?_)
      refine r_istore (pc := 26) (lv' := [(5, .int (iv y5)), (4, .int (iv y4)), (0, .ref y), (1, .int (iv x1)), (2, .int (iv x2)), (3, .int (iv v2_3))]) dX12_degrees_26 (by decide) rfl ?_
      refine r_aload_n (pc := 28) dX12_degrees_28 (i := 0) rfl rfl ?_
      refine t_getE (pc := 29) (.ref (y + 6)) ht3 hO fX12_26 dX12_degrees_29 rfl ?_
      refine r_iload (pc := 32) dX12_degrees_32 rfl ?_
      refine t_ialdR (pc := 34) (t0 := 0) ht3 hA_to dX12_degrees_34 rfl (by decide) (by omega) (fun y6 by6 => ?_)
      refine r_istore (pc := 35) (lv' := [(6, .int (iv y6)), (5, .int (iv y5)), (4, .int (iv y4)), (0, .ref y), (1, .int (iv x1)), (2, .int (iv x2)), (3, .int (iv v2_3))]) dX12_degrees_35 (by decide) rfl ?_
      refine r_iload_n (pc := 37) dX12_degrees_37 (i := 2) rfl rfl ?_
      refine r_iconst (pc := 38) (v := iv 2) dX12_degrees_38 (by decide) ?_
      have B151 : ∀ hp151 : MH, Tw Γ hp151 → True → Rn (gG D cI cJ cZ cT lo b L xs) mX12_degrees d 151 [(0, .ref y), (1, .int (iv x1)), (2, .int (iv x2)), (3, .int (iv v2_3))] [] hp151 n 0 0 (pV Γ n) := by
        intro hp151 ht151 hf151
        refine r_iinc (pc := 151) (v := iv (v2_3 + 1)) (lv' := [(3, .int (iv (v2_3 + 1))), (0, .ref y), (1, .int (iv x1)), (2, .int (iv x2))]) dX12_degrees_151 rfl (iv_add _ _) (by decide) rfl ?_
        refine r_goto (pc := 154) (tgt := 2) dX12_degrees_154 (by decide) ?_
        refine Rn.pick (lv' := [(0, .ref y), (1, .int (iv x1)), (2, .int (iv x2)), (3, .int (iv (v2_3 + 1)))]) [1, 2, 3, 0] rfl ?_
        exact ih2 (Int.toNat (60 - (v2_3 + 1))) (by omega) _ ht151 (v2_3 + 1) ⟨by omega, by omega⟩ (by omega)
      refine t_icmp_ne (pc := 39) (tgt := 97) dX12_degrees_39 (by decide) (by omega) (by omega) (fun c39 => ?_) (fun c39 => ?_)
      · refine r_aload_n (pc := 97) dX12_degrees_97 (i := 0) rfl rfl ?_
        refine t_getE (pc := 98) (.ref (y + 3)) ht3 hO fX12_16 dX12_degrees_98 rfl ?_
        refine r_iload_n (pc := 101) dX12_degrees_101 (i := 1) rfl rfl ?_
        refine t_zaldR (pc := 102) (t0 := 2) ht3 hA_directs dX12_degrees_102 rfl (by decide) (by omega) (fun y7 by7 => ?_)
        refine t_if_eq (pc := 103) (tgt := 129) dX12_degrees_103 (by decide) (by omega) (fun c103 => ?_) (fun c103 => ?_)
        · refine r_aload_n (pc := 129) dX12_degrees_129 (i := 0) rfl rfl ?_
          refine t_getE (pc := 130) (.ref (y + 21)) ht3 hO fX12_72 dX12_degrees_130 rfl ?_
          refine r_iload (pc := 133) dX12_degrees_133 rfl ?_
          refine r_dup2_11 (pc := 135) dX12_degrees_135 rfl rfl ?_
          refine t_lald (pc := 136) (t0 := 1) ht3 (rd_of hA_column) dX12_degrees_136 rfl (by decide) (by omega) (fun w8 _ => ?_)
          refine r_lconst (pc := 137) (v := 1) dX12_degrees_137 (by decide) ?_
          refine r_ladd (pc := 138) (v := w8 + (1 : Int64)) dX12_degrees_138 rfl ?_
          refine t_last (pc := 139) (t0 := 1) ht3 hA_column dX12_degrees_139 rfl (by decide) (by omega) trivial (fun hp9 ht10 => ?_)
          refine r_aload_n (pc := 140) dX12_degrees_140 (i := 0) rfl rfl ?_
          refine t_getE (pc := 141) (.ref (y + 21)) ht10 hO fX12_72 dX12_degrees_141 rfl ?_
          refine r_iload (pc := 144) dX12_degrees_144 rfl ?_
          refine r_dup2_11 (pc := 146) dX12_degrees_146 rfl rfl ?_
          refine t_lald (pc := 147) (t0 := 1) ht10 (rd_of hA_column) dX12_degrees_147 rfl (by decide) (by omega) (fun w11 _ => ?_)
          refine r_lconst (pc := 148) (v := 1) dX12_degrees_148 (by decide) ?_
          refine r_ladd (pc := 149) (v := w11 + (1 : Int64)) dX12_degrees_149 rfl ?_
          refine t_last (pc := 150) (t0 := 1) ht10 hA_column dX12_degrees_150 rfl (by decide) (by omega) trivial (fun hp12 ht13 => ?_)
          refine Rn.pick (lv' := [(0, .ref y), (1, .int (iv x1)), (2, .int (iv x2)), (3, .int (iv v2_3))]) [3, 4, 5, 6] rfl ?_
          exact B151 _ ht13 trivial
        · refine r_aload_n (pc := 106) dX12_degrees_106 (i := 0) rfl rfl ?_
          refine t_getE (pc := 107) (.ref (y + 21)) ht3 hO fX12_72 dX12_degrees_107 rfl ?_
          refine r_iload_n (pc := 110) dX12_degrees_110 (i := 2) rfl rfl ?_
          have B121 : ∀ hp121 : MH, Tw Γ hp121 → ∀  (u121_1 : Int), 0 ≤ u121_1 ∧ u121_1 ≤ 15 → Rn (gG D cI cJ cZ cT lo b L xs) mX12_degrees d 121 [(0, .ref y), (1, .int (iv x1)), (2, .int (iv x2)), (3, .int (iv v2_3))] [.int (iv u121_1), .ref (y + 21)] hp121 n 0 0 (pV Γ n) := by
            intro hp121 ht121 u121_1 hf121
            refine r_dup2_11 (pc := 121) dX12_degrees_121 rfl rfl ?_
            refine t_lald (pc := 122) (t0 := 1) ht121 (rd_of hA_column) dX12_degrees_122 rfl (by decide) (by omega) (fun w14 _ => ?_)
            refine r_lconst (pc := 123) (v := 1) dX12_degrees_123 (by decide) ?_
            refine r_ladd (pc := 124) (v := w14 + (1 : Int64)) dX12_degrees_124 rfl ?_
            refine t_last (pc := 125) (t0 := 1) ht121 hA_column dX12_degrees_125 rfl (by decide) (by omega) trivial (fun hp15 ht16 => ?_)
            refine r_goto (pc := 126) (tgt := 151) dX12_degrees_126 (by decide) ?_
            refine Rn.pick (lv' := [(0, .ref y), (1, .int (iv x1)), (2, .int (iv x2)), (3, .int (iv v2_3))]) [0, 1, 2, 3] rfl ?_
            exact B151 _ ht16 trivial
          refine t_if_ne (pc := 111) (tgt := 119) dX12_degrees_111 (by decide) (by omega) (fun c111 => ?_) (fun c111 => ?_)
          · refine r_iload (pc := 119) dX12_degrees_119 rfl ?_
            refine Rn.pick (lv' := [(0, .ref y), (1, .int (iv x1)), (2, .int (iv x2)), (3, .int (iv v2_3))]) [3, 4, 5, 6] rfl ?_
            exact B121 _ ht3 y6 ⟨by omega, by omega⟩
          · refine r_iload (pc := 114) dX12_degrees_114 rfl ?_
            refine r_goto (pc := 116) (tgt := 121) dX12_degrees_116 (by decide) ?_
            refine Rn.pick (lv' := [(0, .ref y), (1, .int (iv x1)), (2, .int (iv x2)), (3, .int (iv v2_3))]) [3, 4, 5, 6] rfl ?_
            exact B121 _ ht3 y5 ⟨by omega, by omega⟩
      · refine r_aload_n (pc := 42) dX12_degrees_42 (i := 0) rfl rfl ?_
        refine t_getE (pc := 43) (.ref (y + 21)) ht3 hO fX12_72 dX12_degrees_43 rfl ?_
        refine r_iload (pc := 46) dX12_degrees_46 rfl ?_
        refine r_dup2_11 (pc := 48) dX12_degrees_48 rfl rfl ?_
        refine t_lald (pc := 49) (t0 := 1) ht3 (rd_of hA_column) dX12_degrees_49 rfl (by decide) (by omega) (fun w17 _ => ?_)
        refine r_aload_n (pc := 50) dX12_degrees_50 (i := 0) rfl rfl ?_
        refine t_getE (pc := 51) (.ref (y + 7)) ht3 hO fX12_29 dX12_degrees_51 rfl ?_
        refine r_iload (pc := 54) dX12_degrees_54 rfl ?_
        refine t_ialdR (pc := 56) (t0 := 0) ht3 hA_weight dX12_degrees_56 rfl (by decide) (by omega) (fun y18 by18 => ?_)
        refine r_i2l (pc := 57) (v := (iv y18).toInt64) dX12_degrees_57 rfl ?_
        refine r_ladd (pc := 58) (v := w17 + ((iv y18).toInt64)) dX12_degrees_58 rfl ?_
        refine t_last (pc := 59) (t0 := 1) ht3 hA_column dX12_degrees_59 rfl (by decide) (by omega) trivial (fun hp19 ht20 => ?_)
        refine r_aload_n (pc := 60) dX12_degrees_60 (i := 0) rfl rfl ?_
        refine t_getE (pc := 61) (.ref (y + 3)) ht20 hO fX12_16 dX12_degrees_61 rfl ?_
        refine r_iload_n (pc := 64) dX12_degrees_64 (i := 1) rfl rfl ?_
        refine t_zaldR (pc := 65) (t0 := 2) ht20 hA_directs dX12_degrees_65 rfl (by decide) (by omega) (fun y21 by21 => ?_)
        refine t_if_ne (pc := 66) (tgt := 151) dX12_degrees_66 (by decide) (by omega) (fun c66 => ?_) (fun c66 => ?_)
        · refine Rn.pick (lv' := [(0, .ref y), (1, .int (iv x1)), (2, .int (iv x2)), (3, .int (iv v2_3))]) [3, 4, 5, 6] rfl ?_
          exact B151 _ ht20 trivial
        · refine r_iload (pc := 69) dX12_degrees_69 rfl ?_
          refine r_iload (pc := 71) dX12_degrees_71 rfl ?_
          refine t_icmp_eq (pc := 73) (tgt := 151) dX12_degrees_73 (by decide) (by omega) (by omega) (fun c73 => ?_) (fun c73 => ?_)
          · refine Rn.pick (lv' := [(0, .ref y), (1, .int (iv x1)), (2, .int (iv x2)), (3, .int (iv v2_3))]) [3, 4, 5, 6] rfl ?_
            exact B151 _ ht20 trivial
          · refine r_aload_n (pc := 76) dX12_degrees_76 (i := 0) rfl rfl ?_
            refine t_getE (pc := 77) (.ref (y + 21)) ht20 hO fX12_72 dX12_degrees_77 rfl ?_
            refine r_iload (pc := 80) dX12_degrees_80 rfl ?_
            refine r_dup2_11 (pc := 82) dX12_degrees_82 rfl rfl ?_
            refine t_lald (pc := 83) (t0 := 1) ht20 (rd_of hA_column) dX12_degrees_83 rfl (by decide) (by omega) (fun w22 _ => ?_)
            refine r_aload_n (pc := 84) dX12_degrees_84 (i := 0) rfl rfl ?_
            refine t_getE (pc := 85) (.ref (y + 7)) ht20 hO fX12_29 dX12_degrees_85 rfl ?_
            refine r_iload (pc := 88) dX12_degrees_88 rfl ?_
            refine t_ialdR (pc := 90) (t0 := 0) ht20 hA_weight dX12_degrees_90 rfl (by decide) (by omega) (fun y23 by23 => ?_)
            refine r_i2l (pc := 91) (v := (iv y23).toInt64) dX12_degrees_91 rfl ?_
            refine r_ladd (pc := 92) (v := w22 + ((iv y23).toInt64)) dX12_degrees_92 rfl ?_
            refine t_last (pc := 93) (t0 := 1) ht20 hA_column dX12_degrees_93 rfl (by decide) (by omega) trivial (fun hp24 ht25 => ?_)
            refine r_goto (pc := 94) (tgt := 151) dX12_degrees_94 (by decide) ?_
            refine Rn.pick (lv' := [(0, .ref y), (1, .int (iv x1)), (2, .int (iv x2)), (3, .int (iv v2_3))]) [3, 4, 5, 6] rfl ?_
            exact B151 _ ht25 trivial
  refine Rn.pick (lv' := [(0, .ref y), (1, .int (iv x1)), (2, .int (iv x2)), (3, .int (iv 0))]) [1, 2, 3, 0] rfl ?_
  exact B2 (Int.toNat (60 - 0)) _ ht 0 ⟨by omega, by omega⟩ (by omega)
set_option maxHeartbeats 4000000 in
set_option maxRecDepth 100000 in
theorem t_X12_reach {D : va_G} {cI cJ cZ cT : ClassId} {lo b L : Nat} {xs : Nat → Int32} {hp : MH} {n d : Nat} {Γ : TG} {y : Nat} {rf cnt nm : Int32} {x1 x2 : Int} (hd0 : 1 ≤ d) (hO : rd Γ y (tO 11 (mdF y rf cnt nm))) (hA_directs : rd Γ (y + 3) (tI cZ 121 (rg 0 1))) (hA_many : rd Γ (y + 4) (tI cI 121 (rg 0 60))) (hA_from : rd Γ (y + 5) (tI cI 7260 (rg 0 15))) (hA_to : rd Γ (y + 6) (tI cI 7260 (rg 0 15))) (ht : Tw Γ hp) (hx1 : 0 ≤ x1 ∧ x1 ≤ 120) (hx2 : 0 ≤ x2 ∧ x2 ≤ 65535) : Mt (gG D cI cJ cZ cT lo b L xs) mX12_reach d 0 0 [.ref y, .int (iv x1), .int (iv x2)] hp n (pR Γ n 0 65535) := by
  refine Mt.of rfl (Nat.le_of_ble_eq_true rfl) ?_
  refine Rn.pick (lv' := [(0, .ref y), (1, .int (iv x1)), (2, .int (iv x2))]) [0, 1, 2] rfl ?_
  refine r_iconst (pc := 0) (v := iv 0) dX12_reach_0 (by decide) ?_
  refine r_istore_n (pc := 1) (lv' := [(3, .int (iv 0)), (0, .ref y), (1, .int (iv x1)), (2, .int (iv x2))]) dX12_reach_1 (i := 3) rfl (by decide) rfl ?_
  refine r_iconst (pc := 2) (v := iv 0) dX12_reach_2 (by decide) ?_
  refine r_istore (pc := 3) (lv' := [(4, .int (iv 0)), (3, .int (iv 0)), (0, .ref y), (1, .int (iv x1)), (2, .int (iv x2))]) dX12_reach_3 (by decide) rfl ?_
  have B5 : ∀ k : Nat, ∀ hp5 : MH, Tw Γ hp5 → ∀  (v5_3 : Int) (v5_4 : Int), 0 ≤ v5_3 ∧ v5_3 ≤ 65535 ∧ 0 ≤ v5_4 ∧ v5_4 ≤ 60 → 60 - v5_4 ≤ (k : Int) → Rn (gG D cI cJ cZ cT lo b L xs) mX12_reach d 5 [(0, .ref y), (1, .int (iv x1)), (2, .int (iv x2)), (3, .int (iv v5_3)), (4, .int (iv v5_4))] [] hp5 n 0 0 (pR Γ n 0 65535) := by
    refine lpS _ ?_
    intro k5 ih5 hp5 ht5 v5_3 v5_4 hf5 hm5
    refine r_iload (pc := 5) dX12_reach_5 rfl ?_
    refine r_aload_n (pc := 7) dX12_reach_7 (i := 0) rfl rfl ?_
    refine t_getE (pc := 8) (.ref (y + 4)) ht5 hO fX12_20 dX12_reach_8 rfl ?_
    refine r_iload_n (pc := 11) dX12_reach_11 (i := 1) rfl rfl ?_
    refine t_ialdR (pc := 12) (t0 := 0) ht5 hA_many dX12_reach_12 rfl (by decide) (by omega) (fun y1 by1 => ?_)
    refine t_icmp_ge (pc := 13) (tgt := 93) dX12_reach_13 (by decide) (by omega) (by omega) (fun c13 => ?_) (fun c13 => ?_)
    · refine r_iload_n (pc := 93) dX12_reach_93 (i := 3) rfl rfl ?_
      exact r_iret (pc := 94) dX12_reach_94 rfl ⟨rfl, ht5, _, rfl, by omega, by omega⟩
    · refine r_iload_n (pc := 16) dX12_reach_16 (i := 1) rfl rfl ?_
      refine r_iload (pc := 17) dX12_reach_17 rfl ?_
      refine t_callSR (pc := 19) (as := [.int (iv x1), .int (iv v5_4)]) (st := []) kX12_157 dX12_reach_19 (t_X12_at1 (d := d - 1) (x1 := x1) (x2 := v5_4) (by omega)  ht5 (by omega) (by omega)) rfl (by omega) (Nat.le_of_ble_eq_true rfl) rfl (fun hp2 y4 ht3 by4 => ?_)
      refine r_istore (pc := 22) (lv' := [(5, .int (iv y4)), (0, .ref y), (1, .int (iv x1)), (2, .int (iv x2)), (3, .int (iv v5_3)), (4, .int (iv v5_4))]) dX12_reach_22 (by decide) rfl ?_
      refine r_iload_n (pc := 24) dX12_reach_24 (i := 2) rfl rfl ?_
      refine r_aload_n (pc := 25) dX12_reach_25 (i := 0) rfl rfl ?_
      refine t_getE (pc := 26) (.ref (y + 5)) ht3 hO fX12_23 dX12_reach_26 rfl ?_
      refine r_iload (pc := 29) dX12_reach_29 rfl ?_
      refine t_ialdR (pc := 31) (t0 := 0) ht3 hA_from dX12_reach_31 rfl (by decide) (by omega) (fun y5 by5 => ?_)
      obtain ⟨z6, hz6, bz6⟩ := shr_x x2 y5 (by omega) (by omega)
      refine r_ishr (pc := 32) (v := iv z6) dX12_reach_32 hz6 ?_
      refine r_iconst (pc := 33) (v := iv 1) dX12_reach_33 (by decide) ?_
      obtain ⟨z7, hz7, bz7⟩ := and_2 z6 1 (by omega) (by omega)
      refine r_iand (pc := 34) (v := iv z7) dX12_reach_34 hz7 ?_
      refine r_iconst (pc := 35) (v := iv 1) dX12_reach_35 (by decide) ?_
      have B51 : ∀ hp51 : MH, Tw Γ hp51 → ∀  (v51_3 : Int), 0 ≤ v51_3 ∧ v51_3 ≤ 65535 ∧ v5_3 ≤ v51_3 → Rn (gG D cI cJ cZ cT lo b L xs) mX12_reach d 51 [(0, .ref y), (1, .int (iv x1)), (2, .int (iv x2)), (3, .int (iv v51_3)), (4, .int (iv v5_4)), (5, .int (iv y4))] [] hp51 n 0 0 (pR Γ n 0 65535) := by
        intro hp51 ht51 v51_3 hf51
        refine r_aload_n (pc := 51) dX12_reach_51 (i := 0) rfl rfl ?_
        refine t_getE (pc := 52) (.ref (y + 3)) ht51 hO fX12_16 dX12_reach_52 rfl ?_
        refine r_iload_n (pc := 55) dX12_reach_55 (i := 1) rfl rfl ?_
        refine t_zaldR (pc := 56) (t0 := 2) ht51 hA_directs dX12_reach_56 rfl (by decide) (by omega) (fun y8 by8 => ?_)
        have B87 : ∀ hp87 : MH, Tw Γ hp87 → ∀  (v87_3 : Int), 0 ≤ v87_3 ∧ v87_3 ≤ 65535 ∧ v51_3 ≤ v87_3 → Rn (gG D cI cJ cZ cT lo b L xs) mX12_reach d 87 [(0, .ref y), (1, .int (iv x1)), (2, .int (iv x2)), (3, .int (iv v87_3)), (4, .int (iv v5_4))] [] hp87 n 0 0 (pR Γ n 0 65535) := by
          intro hp87 ht87 v87_3 hf87
          refine r_iinc (pc := 87) (v := iv (v5_4 + 1)) (lv' := [(4, .int (iv (v5_4 + 1))), (0, .ref y), (1, .int (iv x1)), (2, .int (iv x2)), (3, .int (iv v87_3))]) dX12_reach_87 rfl (iv_add _ _) (by decide) rfl ?_
          refine r_goto (pc := 90) (tgt := 5) dX12_reach_90 (by decide) ?_
          refine Rn.pick (lv' := [(0, .ref y), (1, .int (iv x1)), (2, .int (iv x2)), (3, .int (iv v87_3)), (4, .int (iv (v5_4 + 1)))]) [1, 2, 3, 4, 0] rfl ?_
          exact ih5 (Int.toNat (60 - (v5_4 + 1))) (by omega) _ ht87 v87_3 (v5_4 + 1) ⟨by omega, by omega, by omega, by omega⟩ (by omega)
        refine t_if_ne (pc := 57) (tgt := 87) dX12_reach_57 (by decide) (by omega) (fun c57 => ?_) (fun c57 => ?_)
        · refine Rn.pick (lv' := [(0, .ref y), (1, .int (iv x1)), (2, .int (iv x2)), (3, .int (iv v51_3)), (4, .int (iv v5_4))]) [0, 1, 2, 3, 4] rfl ?_
          exact B87 _ ht51 v51_3 ⟨by omega, by omega, by omega⟩
        · refine r_iload_n (pc := 60) dX12_reach_60 (i := 2) rfl rfl ?_
          refine r_aload_n (pc := 61) dX12_reach_61 (i := 0) rfl rfl ?_
          refine t_getE (pc := 62) (.ref (y + 6)) ht51 hO fX12_26 dX12_reach_62 rfl ?_
          refine r_iload (pc := 65) dX12_reach_65 rfl ?_
          refine t_ialdR (pc := 67) (t0 := 0) ht51 hA_to dX12_reach_67 rfl (by decide) (by omega) (fun y9 by9 => ?_)
          obtain ⟨z10, hz10, bz10⟩ := shr_x x2 y9 (by omega) (by omega)
          refine r_ishr (pc := 68) (v := iv z10) dX12_reach_68 hz10 ?_
          refine r_iconst (pc := 69) (v := iv 1) dX12_reach_69 (by decide) ?_
          obtain ⟨z11, hz11, bz11⟩ := and_2 z10 1 (by omega) (by omega)
          refine r_iand (pc := 70) (v := iv z11) dX12_reach_70 hz11 ?_
          refine r_iconst (pc := 71) (v := iv 1) dX12_reach_71 (by decide) ?_
          refine t_icmp_ne (pc := 72) (tgt := 87) dX12_reach_72 (by decide) (by omega) (by omega) (fun c72 => ?_) (fun c72 => ?_)
          · refine Rn.pick (lv' := [(0, .ref y), (1, .int (iv x1)), (2, .int (iv x2)), (3, .int (iv v51_3)), (4, .int (iv v5_4))]) [0, 1, 2, 3, 4] rfl ?_
            exact B87 _ ht51 v51_3 ⟨by omega, by omega, by omega⟩
          · refine r_iload_n (pc := 75) dX12_reach_75 (i := 3) rfl rfl ?_
            refine r_iconst (pc := 76) (v := iv 1) dX12_reach_76 (by decide) ?_
            refine r_aload_n (pc := 77) dX12_reach_77 (i := 0) rfl rfl ?_
            refine t_getE (pc := 78) (.ref (y + 5)) ht51 hO fX12_23 dX12_reach_78 rfl ?_
            refine r_iload (pc := 81) dX12_reach_81 rfl ?_
            refine t_ialdR (pc := 83) (t0 := 0) ht51 hA_from dX12_reach_83 rfl (by decide) (by omega) (fun y12 by12 => ?_)
            obtain ⟨z13, hz13, bz13⟩ := shl_1 0 15 y12 (by omega) (by omega) (by decide)
            refine r_ishl (pc := 84) (v := iv z13) dX12_reach_84 hz13 ?_
            obtain ⟨z14, hz14, bz14⟩ := or_2 16 v51_3 z13 (by omega) (by omega) (by decide)
            refine r_ior (pc := 85) (v := iv z14) dX12_reach_85 hz14 ?_
            refine r_istore_n (pc := 86) (lv' := [(3, .int (iv z14)), (0, .ref y), (1, .int (iv x1)), (2, .int (iv x2)), (4, .int (iv v5_4)), (5, .int (iv y4))]) dX12_reach_86 (i := 3) rfl (by decide) rfl ?_
            refine Rn.pick (lv' := [(0, .ref y), (1, .int (iv x1)), (2, .int (iv x2)), (3, .int (iv z14)), (4, .int (iv v5_4))]) [1, 2, 3, 0, 4] rfl ?_
            exact B87 _ ht51 z14 ⟨by omega, by omega, by omega⟩
      refine t_icmp_ne (pc := 36) (tgt := 51) dX12_reach_36 (by decide) (by omega) (by omega) (fun c36 => ?_) (fun c36 => ?_)
      · refine Rn.pick (lv' := [(0, .ref y), (1, .int (iv x1)), (2, .int (iv x2)), (3, .int (iv v5_3)), (4, .int (iv v5_4)), (5, .int (iv y4))]) [1, 2, 3, 4, 5, 0] rfl ?_
        exact B51 _ ht3 v5_3 ⟨by omega, by omega, by omega⟩
      · refine r_iload_n (pc := 39) dX12_reach_39 (i := 3) rfl rfl ?_
        refine r_iconst (pc := 40) (v := iv 1) dX12_reach_40 (by decide) ?_
        refine r_aload_n (pc := 41) dX12_reach_41 (i := 0) rfl rfl ?_
        refine t_getE (pc := 42) (.ref (y + 6)) ht3 hO fX12_26 dX12_reach_42 rfl ?_
        refine r_iload (pc := 45) dX12_reach_45 rfl ?_
        refine t_ialdR (pc := 47) (t0 := 0) ht3 hA_to dX12_reach_47 rfl (by decide) (by omega) (fun y15 by15 => ?_)
        obtain ⟨z16, hz16, bz16⟩ := shl_1 0 15 y15 (by omega) (by omega) (by decide)
        refine r_ishl (pc := 48) (v := iv z16) dX12_reach_48 hz16 ?_
        obtain ⟨z17, hz17, bz17⟩ := or_2 16 v5_3 z16 (by omega) (by omega) (by decide)
        refine r_ior (pc := 49) (v := iv z17) dX12_reach_49 hz17 ?_
        refine r_istore_n (pc := 50) (lv' := [(3, .int (iv z17)), (5, .int (iv y4)), (0, .ref y), (1, .int (iv x1)), (2, .int (iv x2)), (4, .int (iv v5_4))]) dX12_reach_50 (i := 3) rfl (by decide) rfl ?_
        refine Rn.pick (lv' := [(0, .ref y), (1, .int (iv x1)), (2, .int (iv x2)), (3, .int (iv z17)), (4, .int (iv v5_4)), (5, .int (iv y4))]) [2, 3, 4, 0, 5, 1] rfl ?_
        exact B51 _ ht3 z17 ⟨by omega, by omega, by omega⟩
  refine Rn.pick (lv' := [(0, .ref y), (1, .int (iv x1)), (2, .int (iv x2)), (3, .int (iv 0)), (4, .int (iv 0))]) [2, 3, 4, 1, 0] rfl ?_
  exact B5 (Int.toNat (60 - 0)) _ ht 0 0 ⟨by omega, by omega, by omega, by omega⟩ (by omega)
set_option maxHeartbeats 4000000 in
set_option maxRecDepth 100000 in
theorem t_X12_cores {D : va_G} {cI cJ cZ cT : ClassId} {lo b L : Nat} {xs : Nat → Int32} {hp : MH} {n d : Nat} {Γ : TG} {y : Nat} {rf cnt nm : Int32} {x1 : Int} (hd0 : 1 ≤ d) (hO : rd Γ y (tO 11 (mdF y rf cnt nm))) (hA_sizes : rd Γ (y + 2) (tI cI 121 (rg 0 16))) (hA_many : rd Γ (y + 4) (tI cI 121 (rg 0 60))) (hA_from : rd Γ (y + 5) (tI cI 7260 (rg 0 15))) (hA_to : rd Γ (y + 6) (tI cI 7260 (rg 0 15))) (hA_column : Γ (y + 21) = some (tJ cJ 16 anyJ)) (hA_inside : Γ (y + 23) = some (tI cI 16 anyI)) (ht : Tw Γ hp) (hx1 : 0 ≤ x1 ∧ x1 ≤ 120) : Mt (gG D cI cJ cZ cT lo b L xs) mX12_cores d 0 0 [.ref y, .int (iv x1)] hp n (pV Γ n) := by
  refine Mt.of rfl (Nat.le_of_ble_eq_true rfl) ?_
  refine Rn.pick (lv' := [(0, .ref y), (1, .int (iv x1))]) [0, 1] rfl ?_
  refine r_aload_n (pc := 0) dX12_cores_0 (i := 0) rfl rfl ?_
  refine t_getE (pc := 1) (.ref (y + 2)) ht hO fX12_13 dX12_cores_1 rfl ?_
  refine r_iload_n (pc := 4) dX12_cores_4 (i := 1) rfl rfl ?_
  refine t_ialdR (pc := 5) (t0 := 0) ht hA_sizes dX12_cores_5 rfl (by decide) (by omega) (fun y1 by1 => ?_)
  refine r_istore_n (pc := 6) (lv' := [(2, .int (iv y1)), (0, .ref y), (1, .int (iv x1))]) dX12_cores_6 (i := 2) rfl (by decide) rfl ?_
  refine r_iconst (pc := 7) (v := iv 1) dX12_cores_7 (by decide) ?_
  refine r_istore_n (pc := 8) (lv' := [(3, .int (iv 1)), (2, .int (iv y1)), (0, .ref y), (1, .int (iv x1))]) dX12_cores_8 (i := 3) rfl (by decide) rfl ?_
  have B9 : ∀ k : Nat, ∀ hp9 : MH, Tw Γ hp9 → ∀  (v9_3 : Int), 1 ≤ v9_3 ∧ v9_3 ≤ 65536 → 65536 - v9_3 ≤ (k : Int) → Rn (gG D cI cJ cZ cT lo b L xs) mX12_cores d 9 [(0, .ref y), (1, .int (iv x1)), (2, .int (iv y1)), (3, .int (iv v9_3))] [] hp9 n 0 0 (pV Γ n) := by
    refine lpS _ ?_
    intro k9 ih9 hp9 ht9 v9_3 hf9 hm9
    refine r_iload_n (pc := 9) dX12_cores_9 (i := 3) rfl rfl ?_
    refine r_iconst (pc := 10) (v := iv 1) dX12_cores_10 (by decide) ?_
    refine r_iload_n (pc := 11) dX12_cores_11 (i := 2) rfl rfl ?_
    obtain ⟨z2, hz2, bz2⟩ := shl_1 0 16 y1 (by omega) (by omega) (by decide)
    refine r_ishl (pc := 12) (v := iv z2) dX12_cores_12 hz2 ?_
    refine t_icmp_ge (pc := 13) (tgt := 267) dX12_cores_13 (by decide) (by omega) (by omega) (fun c13 => ?_) (fun c13 => ?_)
    · exact r_vret (pc := 267) dX12_cores_267 rfl ⟨rfl, ht9, rfl⟩
    · refine r_iconst (pc := 16) (v := iv 0) dX12_cores_16 (by decide) ?_
      refine r_istore (pc := 17) (lv' := [(4, .int (iv 0)), (0, .ref y), (1, .int (iv x1)), (2, .int (iv y1)), (3, .int (iv v9_3))]) dX12_cores_17 (by decide) rfl ?_
      have B19 : ∀ k : Nat, ∀ hp19 : MH, Tw Γ hp19 → ∀  (v19_4 : Int), 0 ≤ v19_4 ∧ v19_4 ≤ 16 → 16 - v19_4 ≤ (k : Int) → Rn (gG D cI cJ cZ cT lo b L xs) mX12_cores d 19 [(0, .ref y), (1, .int (iv x1)), (2, .int (iv y1)), (3, .int (iv v9_3)), (4, .int (iv v19_4))] [] hp19 n 0 0 (pV Γ n) := by
        refine lpS _ ?_
        intro k19 ih19 hp19 ht19 v19_4 hf19 hm19
        refine r_iload (pc := 19) dX12_cores_19 rfl ?_
        refine r_iload_n (pc := 21) dX12_cores_21 (i := 2) rfl rfl ?_
        refine t_icmp_ge (pc := 22) (tgt := 39) dX12_cores_22 (by decide) (by omega) (by omega) (fun c22 => ?_) (fun c22 => ?_)
        · refine r_iconst (pc := 39) (v := iv 0) dX12_cores_39 (by decide) ?_
          refine r_istore (pc := 40) (lv' := [(4, .int (iv 0)), (0, .ref y), (1, .int (iv x1)), (2, .int (iv y1)), (3, .int (iv v9_3))]) dX12_cores_40 (by decide) rfl ?_
          have B42 : ∀ k : Nat, ∀ hp42 : MH, Tw Γ hp42 → ∀  (v42_4 : Int), 0 ≤ v42_4 ∧ v42_4 ≤ 60 → 60 - v42_4 ≤ (k : Int) → Rn (gG D cI cJ cZ cT lo b L xs) mX12_cores d 42 [(0, .ref y), (1, .int (iv x1)), (2, .int (iv y1)), (3, .int (iv v9_3)), (4, .int (iv v42_4))] [] hp42 n 0 0 (pV Γ n) := by
            refine lpS _ ?_
            intro k42 ih42 hp42 ht42 v42_4 hf42 hm42
            refine r_iload (pc := 42) dX12_cores_42 rfl ?_
            refine r_aload_n (pc := 44) dX12_cores_44 (i := 0) rfl rfl ?_
            refine t_getE (pc := 45) (.ref (y + 4)) ht42 hO fX12_20 dX12_cores_45 rfl ?_
            refine r_iload_n (pc := 48) dX12_cores_48 (i := 1) rfl rfl ?_
            refine t_ialdR (pc := 49) (t0 := 0) ht42 hA_many dX12_cores_49 rfl (by decide) (by omega) (fun y3 by3 => ?_)
            refine t_icmp_ge (pc := 50) (tgt := 146) dX12_cores_50 (by decide) (by omega) (by omega) (fun c50 => ?_) (fun c50 => ?_)
            · refine r_sipush (pc := 146) (v := iv 1000) dX12_cores_146 (by decide) ?_
              refine r_istore (pc := 149) (lv' := [(4, .int (iv 1000)), (0, .ref y), (1, .int (iv x1)), (2, .int (iv y1)), (3, .int (iv v9_3))]) dX12_cores_149 (by decide) rfl ?_
              refine r_iconst (pc := 151) (v := iv 0) dX12_cores_151 (by decide) ?_
              refine r_istore (pc := 152) (lv' := [(5, .int (iv 0)), (4, .int (iv 1000)), (0, .ref y), (1, .int (iv x1)), (2, .int (iv y1)), (3, .int (iv v9_3))]) dX12_cores_152 (by decide) rfl ?_
              have B154 : ∀ k : Nat, ∀ hp154 : MH, Tw Γ hp154 → ∀  (v154_4 : Int) (v154_5 : Int), (-2147483648) ≤ v154_4 ∧ v154_4 ≤ 2147483647 ∧ 0 ≤ v154_5 ∧ v154_5 ≤ 16 → 16 - v154_5 ≤ (k : Int) → Rn (gG D cI cJ cZ cT lo b L xs) mX12_cores d 154 [(0, .ref y), (1, .int (iv x1)), (2, .int (iv y1)), (3, .int (iv v9_3)), (4, .int (iv v154_4)), (5, .int (iv v154_5))] [] hp154 n 0 0 (pV Γ n) := by
                refine lpS _ ?_
                intro k154 ih154 hp154 ht154 v154_4 v154_5 hf154 hm154
                refine r_iload (pc := 154) dX12_cores_154 rfl ?_
                refine r_iload_n (pc := 156) dX12_cores_156 (i := 2) rfl rfl ?_
                refine t_icmp_ge (pc := 157) (tgt := 202) dX12_cores_157 (by decide) (by omega) (by omega) (fun c157 => ?_) (fun c157 => ?_)
                · refine r_iconst (pc := 202) (v := iv 0) dX12_cores_202 (by decide) ?_
                  refine r_istore (pc := 203) (lv' := [(5, .int (iv 0)), (0, .ref y), (1, .int (iv x1)), (2, .int (iv y1)), (3, .int (iv v9_3)), (4, .int (iv v154_4))]) dX12_cores_203 (by decide) rfl ?_
                  have B205 : ∀ k : Nat, ∀ hp205 : MH, Tw Γ hp205 → ∀  (v205_5 : Int), 0 ≤ v205_5 ∧ v205_5 ≤ 16 → 16 - v205_5 ≤ (k : Int) → Rn (gG D cI cJ cZ cT lo b L xs) mX12_cores d 205 [(0, .ref y), (1, .int (iv x1)), (2, .int (iv y1)), (3, .int (iv v9_3)), (4, .int (iv v154_4)), (5, .int (iv v205_5))] [] hp205 n 0 0 (pV Γ n) := by
                    refine lpS _ ?_
                    intro k205 ih205 hp205 ht205 v205_5 hf205 hm205
                    refine r_iload (pc := 205) dX12_cores_205 rfl ?_
                    refine r_iload_n (pc := 207) dX12_cores_207 (i := 2) rfl rfl ?_
                    refine t_icmp_ge (pc := 208) (tgt := 261) dX12_cores_208 (by decide) (by omega) (by omega) (fun c208 => ?_) (fun c208 => ?_)
                    · refine r_iinc (pc := 261) (v := iv (v9_3 + 1)) (lv' := [(3, .int (iv (v9_3 + 1))), (0, .ref y), (1, .int (iv x1)), (2, .int (iv y1)), (4, .int (iv v154_4)), (5, .int (iv v205_5))]) dX12_cores_261 rfl (iv_add _ _) (by decide) rfl ?_
                      refine r_goto (pc := 264) (tgt := 9) dX12_cores_264 (by decide) ?_
                      refine Rn.pick (lv' := [(0, .ref y), (1, .int (iv x1)), (2, .int (iv y1)), (3, .int (iv (v9_3 + 1)))]) [1, 2, 3, 0] rfl ?_
                      exact ih9 (Int.toNat (65536 - (v9_3 + 1))) (by omega) _ ht205 (v9_3 + 1) ⟨by omega, by omega⟩ (by omega)
                    · refine r_aload_n (pc := 211) dX12_cores_211 (i := 0) rfl rfl ?_
                      refine t_getE (pc := 212) (.ref (y + 21)) ht205 hO fX12_72 dX12_cores_212 rfl ?_
                      refine r_iload (pc := 215) dX12_cores_215 rfl ?_
                      refine r_iload_n (pc := 217) dX12_cores_217 (i := 3) rfl rfl ?_
                      refine r_iload (pc := 218) dX12_cores_218 rfl ?_
                      obtain ⟨z4, hz4, bz4⟩ := shr_x v9_3 v205_5 (by omega) (by omega)
                      refine r_ishr (pc := 220) (v := iv z4) dX12_cores_220 hz4 ?_
                      refine r_iconst (pc := 221) (v := iv 1) dX12_cores_221 (by decide) ?_
                      obtain ⟨z5, hz5, bz5⟩ := and_2 z4 1 (by omega) (by omega)
                      refine r_iand (pc := 222) (v := iv z5) dX12_cores_222 hz5 ?_
                      refine r_iconst (pc := 223) (v := iv 1) dX12_cores_223 (by decide) ?_
                      have B254 : ∀ hp254 : MH, Tw Γ hp254 → ∀  (x254_2 : Int64), True → Rn (gG D cI cJ cZ cT lo b L xs) mX12_cores d 254 [(0, .ref y), (1, .int (iv x1)), (2, .int (iv y1)), (3, .int (iv v9_3)), (4, .int (iv v154_4)), (5, .int (iv v205_5))] [.long x254_2, .int (iv v205_5), .ref (y + 21)] hp254 n 0 0 (pV Γ n) := by
                        intro hp254 ht254 x254_2 hf254
                        refine t_last (pc := 254) (t0 := 1) ht254 hA_column dX12_cores_254 rfl (by decide) (by omega) trivial (fun hp6 ht7 => ?_)
                        refine r_iinc (pc := 255) (v := iv (v205_5 + 1)) (lv' := [(5, .int (iv (v205_5 + 1))), (0, .ref y), (1, .int (iv x1)), (2, .int (iv y1)), (3, .int (iv v9_3)), (4, .int (iv v154_4))]) dX12_cores_255 rfl (iv_add _ _) (by decide) rfl ?_
                        refine r_goto (pc := 258) (tgt := 205) dX12_cores_258 (by decide) ?_
                        refine Rn.pick (lv' := [(0, .ref y), (1, .int (iv x1)), (2, .int (iv y1)), (3, .int (iv v9_3)), (4, .int (iv v154_4)), (5, .int (iv (v205_5 + 1)))]) [1, 2, 3, 4, 5, 0] rfl ?_
                        exact ih205 (Int.toNat (16 - (v205_5 + 1))) (by omega) _ ht7 (v205_5 + 1) ⟨by omega, by omega⟩ (by omega)
                      have B247 : ∀ hp247 : MH, Tw Γ hp247 → True → Rn (gG D cI cJ cZ cT lo b L xs) mX12_cores d 247 [(0, .ref y), (1, .int (iv x1)), (2, .int (iv y1)), (3, .int (iv v9_3)), (4, .int (iv v154_4)), (5, .int (iv v205_5))] [.int (iv v205_5), .ref (y + 21)] hp247 n 0 0 (pV Γ n) := by
                        intro hp247 ht247 hf247
                        refine r_aload_n (pc := 247) dX12_cores_247 (i := 0) rfl rfl ?_
                        refine t_getE (pc := 248) (.ref (y + 21)) ht247 hO fX12_72 dX12_cores_248 rfl ?_
                        refine r_iload (pc := 251) dX12_cores_251 rfl ?_
                        refine t_lald (pc := 253) (t0 := 1) ht247 (rd_of hA_column) dX12_cores_253 rfl (by decide) (by omega) (fun w8 _ => ?_)
                        refine Rn.pick (lv' := [(0, .ref y), (1, .int (iv x1)), (2, .int (iv y1)), (3, .int (iv v9_3)), (4, .int (iv v154_4)), (5, .int (iv v205_5))]) [0, 1, 2, 3, 4, 5] rfl ?_
                        exact B254 _ ht247 w8 trivial
                      refine t_icmp_ne (pc := 224) (tgt := 247) dX12_cores_224 (by decide) (by omega) (by omega) (fun c224 => ?_) (fun c224 => ?_)
                      · refine Rn.pick (lv' := [(0, .ref y), (1, .int (iv x1)), (2, .int (iv y1)), (3, .int (iv v9_3)), (4, .int (iv v154_4)), (5, .int (iv v205_5))]) [0, 1, 2, 3, 4, 5] rfl ?_
                        exact B247 _ ht205 trivial
                      · refine r_iload (pc := 227) dX12_cores_227 rfl ?_
                        refine r_i2l (pc := 229) (v := (iv v154_4).toInt64) dX12_cores_229 rfl ?_
                        refine r_aload_n (pc := 230) dX12_cores_230 (i := 0) rfl rfl ?_
                        refine t_getE (pc := 231) (.ref (y + 21)) ht205 hO fX12_72 dX12_cores_231 rfl ?_
                        refine r_iload (pc := 234) dX12_cores_234 rfl ?_
                        refine t_lald (pc := 236) (t0 := 1) ht205 (rd_of hA_column) dX12_cores_236 rfl (by decide) (by omega) (fun w9 _ => ?_)
                        refine r_lcmp (pc := 237) dX12_cores_237 ?_
                        refine r_if_le (pc := 238) (tgt := 247) dX12_cores_238 (by decide) (fun c238 => ?_) (fun c238 => ?_)
                        · refine Rn.pick (lv' := [(0, .ref y), (1, .int (iv x1)), (2, .int (iv y1)), (3, .int (iv v9_3)), (4, .int (iv v154_4)), (5, .int (iv v205_5))]) [0, 1, 2, 3, 4, 5] rfl ?_
                          exact B247 _ ht205 trivial
                        · refine r_iload (pc := 241) dX12_cores_241 rfl ?_
                          refine r_i2l (pc := 243) (v := (iv v154_4).toInt64) dX12_cores_243 rfl ?_
                          refine r_goto (pc := 244) (tgt := 254) dX12_cores_244 (by decide) ?_
                          refine Rn.pick (lv' := [(0, .ref y), (1, .int (iv x1)), (2, .int (iv y1)), (3, .int (iv v9_3)), (4, .int (iv v154_4)), (5, .int (iv v205_5))]) [0, 1, 2, 3, 4, 5] rfl ?_
                          exact B254 _ ht205 ((iv v154_4).toInt64) trivial
                  refine Rn.pick (lv' := [(0, .ref y), (1, .int (iv x1)), (2, .int (iv y1)), (3, .int (iv v9_3)), (4, .int (iv v154_4)), (5, .int (iv 0))]) [1, 2, 3, 4, 5, 0] rfl ?_
                  exact B205 (Int.toNat (16 - 0)) _ ht154 0 ⟨by omega, by omega⟩ (by omega)
                · refine r_iload_n (pc := 160) dX12_cores_160 (i := 3) rfl rfl ?_
                  refine r_iload (pc := 161) dX12_cores_161 rfl ?_
                  obtain ⟨z10, hz10, bz10⟩ := shr_x v9_3 v154_5 (by omega) (by omega)
                  refine r_ishr (pc := 163) (v := iv z10) dX12_cores_163 hz10 ?_
                  refine r_iconst (pc := 164) (v := iv 1) dX12_cores_164 (by decide) ?_
                  obtain ⟨z11, hz11, bz11⟩ := and_2 z10 1 (by omega) (by omega)
                  refine r_iand (pc := 165) (v := iv z11) dX12_cores_165 hz11 ?_
                  refine r_iconst (pc := 166) (v := iv 1) dX12_cores_166 (by decide) ?_
                  have B194 : ∀ hp194 : MH, Tw Γ hp194 → ∀  (u194_0 : Int), (-2147483648) ≤ u194_0 ∧ u194_0 ≤ 2147483647 → Rn (gG D cI cJ cZ cT lo b L xs) mX12_cores d 194 [(0, .ref y), (1, .int (iv x1)), (2, .int (iv y1)), (3, .int (iv v9_3)), (5, .int (iv v154_5))] [.int (iv u194_0)] hp194 n 0 0 (pV Γ n) := by
                    intro hp194 ht194 u194_0 hf194
                    refine r_istore (pc := 194) (lv' := [(4, .int (iv u194_0)), (0, .ref y), (1, .int (iv x1)), (2, .int (iv y1)), (3, .int (iv v9_3)), (5, .int (iv v154_5))]) dX12_cores_194 (by decide) rfl ?_
                    refine r_iinc (pc := 196) (v := iv (v154_5 + 1)) (lv' := [(5, .int (iv (v154_5 + 1))), (4, .int (iv u194_0)), (0, .ref y), (1, .int (iv x1)), (2, .int (iv y1)), (3, .int (iv v9_3))]) dX12_cores_196 rfl (iv_add _ _) (by decide) rfl ?_
                    refine r_goto (pc := 199) (tgt := 154) dX12_cores_199 (by decide) ?_
                    refine Rn.pick (lv' := [(0, .ref y), (1, .int (iv x1)), (2, .int (iv y1)), (3, .int (iv v9_3)), (4, .int (iv u194_0)), (5, .int (iv (v154_5 + 1)))]) [2, 3, 4, 5, 1, 0] rfl ?_
                    exact ih154 (Int.toNat (16 - (v154_5 + 1))) (by omega) _ ht194 u194_0 (v154_5 + 1) ⟨by omega, by omega, by omega, by omega⟩ (by omega)
                  have B192 : ∀ hp192 : MH, Tw Γ hp192 → True → Rn (gG D cI cJ cZ cT lo b L xs) mX12_cores d 192 [(0, .ref y), (1, .int (iv x1)), (2, .int (iv y1)), (3, .int (iv v9_3)), (4, .int (iv v154_4)), (5, .int (iv v154_5))] [] hp192 n 0 0 (pV Γ n) := by
                    intro hp192 ht192 hf192
                    refine r_iload (pc := 192) dX12_cores_192 rfl ?_
                    refine Rn.pick (lv' := [(0, .ref y), (1, .int (iv x1)), (2, .int (iv y1)), (3, .int (iv v9_3)), (5, .int (iv v154_5))]) [0, 1, 2, 3, 5] rfl ?_
                    exact B194 _ ht192 v154_4 ⟨by omega, by omega⟩
                  refine t_icmp_ne (pc := 167) (tgt := 192) dX12_cores_167 (by decide) (by omega) (by omega) (fun c167 => ?_) (fun c167 => ?_)
                  · refine Rn.pick (lv' := [(0, .ref y), (1, .int (iv x1)), (2, .int (iv y1)), (3, .int (iv v9_3)), (4, .int (iv v154_4)), (5, .int (iv v154_5))]) [0, 1, 2, 3, 4, 5] rfl ?_
                    exact B192 _ ht154 trivial
                  · refine r_aload_n (pc := 170) dX12_cores_170 (i := 0) rfl rfl ?_
                    refine t_getE (pc := 171) (.ref (y + 23)) ht154 hO fX12_78 dX12_cores_171 rfl ?_
                    refine r_iload (pc := 174) dX12_cores_174 rfl ?_
                    refine t_iald (pc := 176) (t0 := 0) ht154 (rd_of hA_inside) dX12_cores_176 rfl (by decide) (by omega) (fun y12 by12 _ => ?_)
                    refine r_iload (pc := 177) dX12_cores_177 rfl ?_
                    refine t_icmp_ge (pc := 179) (tgt := 192) dX12_cores_179 (by decide) (by omega) (by omega) (fun c179 => ?_) (fun c179 => ?_)
                    · refine Rn.pick (lv' := [(0, .ref y), (1, .int (iv x1)), (2, .int (iv y1)), (3, .int (iv v9_3)), (4, .int (iv v154_4)), (5, .int (iv v154_5))]) [0, 1, 2, 3, 4, 5] rfl ?_
                      exact B192 _ ht154 trivial
                    · refine r_aload_n (pc := 182) dX12_cores_182 (i := 0) rfl rfl ?_
                      refine t_getE (pc := 183) (.ref (y + 23)) ht154 hO fX12_78 dX12_cores_183 rfl ?_
                      refine r_iload (pc := 186) dX12_cores_186 rfl ?_
                      refine t_iald (pc := 188) (t0 := 0) ht154 (rd_of hA_inside) dX12_cores_188 rfl (by decide) (by omega) (fun y13 by13 _ => ?_)
                      refine r_goto (pc := 189) (tgt := 194) dX12_cores_189 (by decide) ?_
                      refine Rn.pick (lv' := [(0, .ref y), (1, .int (iv x1)), (2, .int (iv y1)), (3, .int (iv v9_3)), (5, .int (iv v154_5))]) [0, 1, 2, 3, 5] rfl ?_
                      exact B194 _ ht154 y13 ⟨by omega, by omega⟩
              refine Rn.pick (lv' := [(0, .ref y), (1, .int (iv x1)), (2, .int (iv y1)), (3, .int (iv v9_3)), (4, .int (iv 1000)), (5, .int (iv 0))]) [2, 3, 4, 5, 1, 0] rfl ?_
              exact B154 (Int.toNat (16 - 0)) _ ht42 1000 0 ⟨by omega, by omega, by omega, by omega⟩ (by omega)
            · refine r_iload_n (pc := 53) dX12_cores_53 (i := 1) rfl rfl ?_
              refine r_iload (pc := 54) dX12_cores_54 rfl ?_
              refine t_callSR (pc := 56) (as := [.int (iv x1), .int (iv v42_4)]) (st := []) kX12_157 dX12_cores_56 (t_X12_at1 (d := d - 1) (x1 := x1) (x2 := v42_4) (by omega)  ht42 (by omega) (by omega)) rfl (by omega) (Nat.le_of_ble_eq_true rfl) rfl (fun hp14 y16 ht15 by16 => ?_)
              refine r_istore (pc := 59) (lv' := [(5, .int (iv y16)), (0, .ref y), (1, .int (iv x1)), (2, .int (iv y1)), (3, .int (iv v9_3)), (4, .int (iv v42_4))]) dX12_cores_59 (by decide) rfl ?_
              refine r_aload_n (pc := 61) dX12_cores_61 (i := 0) rfl rfl ?_
              refine t_getE (pc := 62) (.ref (y + 5)) ht15 hO fX12_23 dX12_cores_62 rfl ?_
              refine r_iload (pc := 65) dX12_cores_65 rfl ?_
              refine t_ialdR (pc := 67) (t0 := 0) ht15 hA_from dX12_cores_67 rfl (by decide) (by omega) (fun y17 by17 => ?_)
              refine r_aload_n (pc := 68) dX12_cores_68 (i := 0) rfl rfl ?_
              refine t_getE (pc := 69) (.ref (y + 6)) ht15 hO fX12_26 dX12_cores_69 rfl ?_
              refine r_iload (pc := 72) dX12_cores_72 rfl ?_
              refine t_ialdR (pc := 74) (t0 := 0) ht15 hA_to dX12_cores_74 rfl (by decide) (by omega) (fun y18 by18 => ?_)
              have B140 : ∀ hp140 : MH, Tw Γ hp140 → True → Rn (gG D cI cJ cZ cT lo b L xs) mX12_cores d 140 [(0, .ref y), (1, .int (iv x1)), (2, .int (iv y1)), (3, .int (iv v9_3)), (4, .int (iv v42_4))] [] hp140 n 0 0 (pV Γ n) := by
                intro hp140 ht140 hf140
                refine r_iinc (pc := 140) (v := iv (v42_4 + 1)) (lv' := [(4, .int (iv (v42_4 + 1))), (0, .ref y), (1, .int (iv x1)), (2, .int (iv y1)), (3, .int (iv v9_3))]) dX12_cores_140 rfl (iv_add _ _) (by decide) rfl ?_
                refine r_goto (pc := 143) (tgt := 42) dX12_cores_143 (by decide) ?_
                refine Rn.pick (lv' := [(0, .ref y), (1, .int (iv x1)), (2, .int (iv y1)), (3, .int (iv v9_3)), (4, .int (iv (v42_4 + 1)))]) [1, 2, 3, 4, 0] rfl ?_
                exact ih42 (Int.toNat (60 - (v42_4 + 1))) (by omega) _ ht140 (v42_4 + 1) ⟨by omega, by omega⟩ (by omega)
              refine t_icmp_eq (pc := 75) (tgt := 140) dX12_cores_75 (by decide) (by omega) (by omega) (fun c75 => ?_) (fun c75 => ?_)
              · refine Rn.pick (lv' := [(0, .ref y), (1, .int (iv x1)), (2, .int (iv y1)), (3, .int (iv v9_3)), (4, .int (iv v42_4))]) [1, 2, 3, 4, 5] rfl ?_
                exact B140 _ ht15 trivial
              · refine r_iload_n (pc := 78) dX12_cores_78 (i := 3) rfl rfl ?_
                refine r_aload_n (pc := 79) dX12_cores_79 (i := 0) rfl rfl ?_
                refine t_getE (pc := 80) (.ref (y + 5)) ht15 hO fX12_23 dX12_cores_80 rfl ?_
                refine r_iload (pc := 83) dX12_cores_83 rfl ?_
                refine t_ialdR (pc := 85) (t0 := 0) ht15 hA_from dX12_cores_85 rfl (by decide) (by omega) (fun y19 by19 => ?_)
                obtain ⟨z20, hz20, bz20⟩ := shr_x v9_3 y19 (by omega) (by omega)
                refine r_ishr (pc := 86) (v := iv z20) dX12_cores_86 hz20 ?_
                refine r_iconst (pc := 87) (v := iv 1) dX12_cores_87 (by decide) ?_
                obtain ⟨z21, hz21, bz21⟩ := and_2 z20 1 (by omega) (by omega)
                refine r_iand (pc := 88) (v := iv z21) dX12_cores_88 hz21 ?_
                refine r_iconst (pc := 89) (v := iv 1) dX12_cores_89 (by decide) ?_
                refine t_icmp_ne (pc := 90) (tgt := 140) dX12_cores_90 (by decide) (by omega) (by omega) (fun c90 => ?_) (fun c90 => ?_)
                · refine Rn.pick (lv' := [(0, .ref y), (1, .int (iv x1)), (2, .int (iv y1)), (3, .int (iv v9_3)), (4, .int (iv v42_4))]) [1, 2, 3, 4, 5] rfl ?_
                  exact B140 _ ht15 trivial
                · refine r_iload_n (pc := 93) dX12_cores_93 (i := 3) rfl rfl ?_
                  refine r_aload_n (pc := 94) dX12_cores_94 (i := 0) rfl rfl ?_
                  refine t_getE (pc := 95) (.ref (y + 6)) ht15 hO fX12_26 dX12_cores_95 rfl ?_
                  refine r_iload (pc := 98) dX12_cores_98 rfl ?_
                  refine t_ialdR (pc := 100) (t0 := 0) ht15 hA_to dX12_cores_100 rfl (by decide) (by omega) (fun y22 by22 => ?_)
                  obtain ⟨z23, hz23, bz23⟩ := shr_x v9_3 y22 (by omega) (by omega)
                  refine r_ishr (pc := 101) (v := iv z23) dX12_cores_101 hz23 ?_
                  refine r_iconst (pc := 102) (v := iv 1) dX12_cores_102 (by decide) ?_
                  obtain ⟨z24, hz24, bz24⟩ := and_2 z23 1 (by omega) (by omega)
                  refine r_iand (pc := 103) (v := iv z24) dX12_cores_103 hz24 ?_
                  refine r_iconst (pc := 104) (v := iv 1) dX12_cores_104 (by decide) ?_
                  refine t_icmp_ne (pc := 105) (tgt := 140) dX12_cores_105 (by decide) (by omega) (by omega) (fun c105 => ?_) (fun c105 => ?_)
                  · refine Rn.pick (lv' := [(0, .ref y), (1, .int (iv x1)), (2, .int (iv y1)), (3, .int (iv v9_3)), (4, .int (iv v42_4))]) [1, 2, 3, 4, 5] rfl ?_
                    exact B140 _ ht15 trivial
                  · refine r_aload_n (pc := 108) dX12_cores_108 (i := 0) rfl rfl ?_
                    refine t_getE (pc := 109) (.ref (y + 23)) ht15 hO fX12_78 dX12_cores_109 rfl ?_
                    refine r_aload_n (pc := 112) dX12_cores_112 (i := 0) rfl rfl ?_
                    refine t_getE (pc := 113) (.ref (y + 5)) ht15 hO fX12_23 dX12_cores_113 rfl ?_
                    refine r_iload (pc := 116) dX12_cores_116 rfl ?_
                    refine t_ialdR (pc := 118) (t0 := 0) ht15 hA_from dX12_cores_118 rfl (by decide) (by omega) (fun y25 by25 => ?_)
                    refine r_dup2_11 (pc := 119) dX12_cores_119 rfl rfl ?_
                    refine t_iald (pc := 120) (t0 := 0) ht15 (rd_of hA_inside) dX12_cores_120 rfl (by decide) (by omega) (fun y26 by26 _ => ?_)
                    refine r_iconst (pc := 121) (v := iv 1) dX12_cores_121 (by decide) ?_
                    obtain ⟨z27, hz27, bz27⟩ := any_i (iv y26 + iv 1)
                    refine r_iadd (pc := 122) (v := iv z27) dX12_cores_122 hz27 ?_
                    refine t_iast (pc := 123) (t0 := 0) ht15 hA_inside dX12_cores_123 rfl (by decide) (by omega) (by omega) trivial (fun hp28 ht29 => ?_)
                    refine r_aload_n (pc := 124) dX12_cores_124 (i := 0) rfl rfl ?_
                    refine t_getE (pc := 125) (.ref (y + 23)) ht29 hO fX12_78 dX12_cores_125 rfl ?_
                    refine r_aload_n (pc := 128) dX12_cores_128 (i := 0) rfl rfl ?_
                    refine t_getE (pc := 129) (.ref (y + 6)) ht29 hO fX12_26 dX12_cores_129 rfl ?_
                    refine r_iload (pc := 132) dX12_cores_132 rfl ?_
                    refine t_ialdR (pc := 134) (t0 := 0) ht29 hA_to dX12_cores_134 rfl (by decide) (by omega) (fun y30 by30 => ?_)
                    refine r_dup2_11 (pc := 135) dX12_cores_135 rfl rfl ?_
                    refine t_iald (pc := 136) (t0 := 0) ht29 (rd_of hA_inside) dX12_cores_136 rfl (by decide) (by omega) (fun y31 by31 _ => ?_)
                    refine r_iconst (pc := 137) (v := iv 1) dX12_cores_137 (by decide) ?_
                    obtain ⟨z32, hz32, bz32⟩ := any_i (iv y31 + iv 1)
                    refine r_iadd (pc := 138) (v := iv z32) dX12_cores_138 hz32 ?_
                    refine t_iast (pc := 139) (t0 := 0) ht29 hA_inside dX12_cores_139 rfl (by decide) (by omega) (by omega) trivial (fun hp33 ht34 => ?_)
                    refine Rn.pick (lv' := [(0, .ref y), (1, .int (iv x1)), (2, .int (iv y1)), (3, .int (iv v9_3)), (4, .int (iv v42_4))]) [1, 2, 3, 4, 5] rfl ?_
                    exact B140 _ ht34 trivial
          refine Rn.pick (lv' := [(0, .ref y), (1, .int (iv x1)), (2, .int (iv y1)), (3, .int (iv v9_3)), (4, .int (iv 0))]) [1, 2, 3, 4, 0] rfl ?_
          exact B42 (Int.toNat (60 - 0)) _ ht19 0 ⟨by omega, by omega⟩ (by omega)
        · refine r_aload_n (pc := 25) dX12_cores_25 (i := 0) rfl rfl ?_
          refine t_getE (pc := 26) (.ref (y + 23)) ht19 hO fX12_78 dX12_cores_26 rfl ?_
          refine r_iload (pc := 29) dX12_cores_29 rfl ?_
          refine r_iconst (pc := 31) (v := iv 0) dX12_cores_31 (by decide) ?_
          refine t_iast (pc := 32) (t0 := 0) ht19 hA_inside dX12_cores_32 rfl (by decide) (by omega) (by omega) trivial (fun hp35 ht36 => ?_)
          refine r_iinc (pc := 33) (v := iv (v19_4 + 1)) (lv' := [(4, .int (iv (v19_4 + 1))), (0, .ref y), (1, .int (iv x1)), (2, .int (iv y1)), (3, .int (iv v9_3))]) dX12_cores_33 rfl (iv_add _ _) (by decide) rfl ?_
          refine r_goto (pc := 36) (tgt := 19) dX12_cores_36 (by decide) ?_
          refine Rn.pick (lv' := [(0, .ref y), (1, .int (iv x1)), (2, .int (iv y1)), (3, .int (iv v9_3)), (4, .int (iv (v19_4 + 1)))]) [1, 2, 3, 4, 0] rfl ?_
          exact ih19 (Int.toNat (16 - (v19_4 + 1))) (by omega) _ ht36 (v19_4 + 1) ⟨by omega, by omega⟩ (by omega)
      refine Rn.pick (lv' := [(0, .ref y), (1, .int (iv x1)), (2, .int (iv y1)), (3, .int (iv v9_3)), (4, .int (iv 0))]) [1, 2, 3, 4, 0] rfl ?_
      exact B19 (Int.toNat (16 - 0)) _ ht9 0 ⟨by omega, by omega⟩ (by omega)
  refine Rn.pick (lv' := [(0, .ref y), (1, .int (iv x1)), (2, .int (iv y1)), (3, .int (iv 1))]) [2, 3, 1, 0] rfl ?_
  exact B9 (Int.toNat (65536 - 1)) _ ht 1 ⟨by omega, by omega⟩ (by omega)
set_option maxHeartbeats 4000000 in
set_option maxRecDepth 100000 in
theorem t_X12_farthest {D : va_G} {cI cJ cZ cT : ClassId} {lo b L : Nat} {xs : Nat → Int32} {hp : MH} {n d : Nat} {Γ : TG} {y : Nat} {rf cnt nm : Int32} {x1 : Int} (hd0 : 2 ≤ d) (hO : rd Γ y (tO 11 (mdF y rf cnt nm))) (hA_sizes : rd Γ (y + 2) (tI cI 121 (rg 0 16))) (hA_directs : rd Γ (y + 3) (tI cZ 121 (rg 0 1))) (hA_many : rd Γ (y + 4) (tI cI 121 (rg 0 60))) (hA_from : rd Γ (y + 5) (tI cI 7260 (rg 0 15))) (hA_to : rd Γ (y + 6) (tI cI 7260 (rg 0 15))) (hA_column : Γ (y + 21) = some (tJ cJ 16 anyJ)) (ht : Tw Γ hp) (hx1 : 0 ≤ x1 ∧ x1 ≤ 120) : Mt (gG D cI cJ cZ cT lo b L xs) mX12_farthest d 0 0 [.ref y, .int (iv x1)] hp n (pV Γ n) := by
  refine Mt.of rfl (Nat.le_of_ble_eq_true rfl) ?_
  refine Rn.pick (lv' := [(0, .ref y), (1, .int (iv x1))]) [0, 1] rfl ?_
  refine r_iconst (pc := 0) (v := iv 0) dX12_farthest_0 (by decide) ?_
  refine r_istore_n (pc := 1) (lv' := [(2, .int (iv 0)), (0, .ref y), (1, .int (iv x1))]) dX12_farthest_1 (i := 2) rfl (by decide) rfl ?_
  have B2 : ∀ k : Nat, ∀ hp2 : MH, Tw Γ hp2 → ∀  (v2_2 : Int), 0 ≤ v2_2 ∧ v2_2 ≤ 16 → 16 - v2_2 ≤ (k : Int) → Rn (gG D cI cJ cZ cT lo b L xs) mX12_farthest d 2 [(0, .ref y), (1, .int (iv x1)), (2, .int (iv v2_2))] [] hp2 n 0 0 (pV Γ n) := by
    refine lpS _ ?_
    intro k2 ih2 hp2 ht2 v2_2 hf2 hm2
    refine r_iload_n (pc := 2) dX12_farthest_2 (i := 2) rfl rfl ?_
    refine r_aload_n (pc := 3) dX12_farthest_3 (i := 0) rfl rfl ?_
    refine t_getE (pc := 4) (.ref (y + 2)) ht2 hO fX12_13 dX12_farthest_4 rfl ?_
    refine r_iload_n (pc := 7) dX12_farthest_7 (i := 1) rfl rfl ?_
    refine t_ialdR (pc := 8) (t0 := 0) ht2 hA_sizes dX12_farthest_8 rfl (by decide) (by omega) (fun y1 by1 => ?_)
    refine t_icmp_ge (pc := 9) (tgt := 64) dX12_farthest_9 (by decide) (by omega) (by omega) (fun c9 => ?_) (fun c9 => ?_)
    · exact r_vret (pc := 64) dX12_farthest_64 rfl ⟨rfl, ht2, rfl⟩
    · refine r_iconst (pc := 12) (v := iv 1) dX12_farthest_12 (by decide) ?_
      refine r_iload_n (pc := 13) dX12_farthest_13 (i := 2) rfl rfl ?_
      obtain ⟨z2, hz2, bz2⟩ := shl_1 0 15 v2_2 (by omega) (by omega) (by decide)
      refine r_ishl (pc := 14) (v := iv z2) dX12_farthest_14 hz2 ?_
      refine r_istore_n (pc := 15) (lv' := [(3, .int (iv z2)), (0, .ref y), (1, .int (iv x1)), (2, .int (iv v2_2))]) dX12_farthest_15 (i := 3) rfl (by decide) rfl ?_
      refine r_iload_n (pc := 16) dX12_farthest_16 (i := 3) rfl rfl ?_
      refine r_aload_n (pc := 17) dX12_farthest_17 (i := 0) rfl rfl ?_
      refine r_iload_n (pc := 18) dX12_farthest_18 (i := 1) rfl rfl ?_
      refine r_iload_n (pc := 19) dX12_farthest_19 (i := 3) rfl rfl ?_
      refine t_callVR (pc := 20) (as := [.int (iv x1), .int (iv z2)]) (st := [.int (iv z2)]) ht2 hO kX12_231 rfl dX12_farthest_20 (t_X12_reach (d := d - 1) (x1 := x1) (x2 := z2) (by omega) hO hA_directs hA_many hA_from hA_to ht2 (by omega) (by omega)) rfl (by omega) (Nat.le_of_ble_eq_true rfl) rfl (fun hp3 y5 ht4 by5 => ?_)
      obtain ⟨z6, hz6, bz6⟩ := or_2 16 z2 y5 (by omega) (by omega) (by decide)
      refine r_ior (pc := 23) (v := iv z6) dX12_farthest_23 hz6 ?_
      refine r_istore (pc := 24) (lv' := [(4, .int (iv z6)), (3, .int (iv z2)), (0, .ref y), (1, .int (iv x1)), (2, .int (iv v2_2))]) dX12_farthest_24 (by decide) rfl ?_
      have B26 : ∀ k : Nat, ∀ hp26 : MH, Tw Γ hp26 → ∀  (v26_3 : Int) (v26_4 : Int), 1 ≤ v26_3 ∧ v26_3 ≤ 65535 ∧ 1 ≤ v26_4 ∧ v26_4 ≤ 65535 ∧ v26_3 ≤ v26_4 → 65535 - v26_3 ≤ (k : Int) → Rn (gG D cI cJ cZ cT lo b L xs) mX12_farthest d 26 [(0, .ref y), (1, .int (iv x1)), (2, .int (iv v2_2)), (3, .int (iv v26_3)), (4, .int (iv v26_4))] [] hp26 n 0 0 (pV Γ n) := by
        refine lpS _ ?_
        intro k26 ih26 hp26 ht26 v26_3 v26_4 hf26 hm26
        refine r_iload (pc := 26) dX12_farthest_26 rfl ?_
        refine r_iload_n (pc := 28) dX12_farthest_28 (i := 3) rfl rfl ?_
        refine t_icmp_eq (pc := 29) (tgt := 58) dX12_farthest_29 (by decide) (by omega) (by omega) (fun c29 => ?_) (fun c29 => ?_)
        · refine r_iinc (pc := 58) (v := iv (v2_2 + 1)) (lv' := [(2, .int (iv (v2_2 + 1))), (0, .ref y), (1, .int (iv x1)), (3, .int (iv v26_3)), (4, .int (iv v26_4))]) dX12_farthest_58 rfl (iv_add _ _) (by decide) rfl ?_
          refine r_goto (pc := 61) (tgt := 2) dX12_farthest_61 (by decide) ?_
          refine Rn.pick (lv' := [(0, .ref y), (1, .int (iv x1)), (2, .int (iv (v2_2 + 1)))]) [1, 2, 0] rfl ?_
          exact ih2 (Int.toNat (16 - (v2_2 + 1))) (by omega) _ ht26 (v2_2 + 1) ⟨by omega, by omega⟩ (by omega)
        · refine r_aload_n (pc := 32) dX12_farthest_32 (i := 0) rfl rfl ?_
          refine t_getE (pc := 33) (.ref (y + 21)) ht26 hO fX12_72 dX12_farthest_33 rfl ?_
          refine r_iload_n (pc := 36) dX12_farthest_36 (i := 2) rfl rfl ?_
          refine r_dup2_11 (pc := 37) dX12_farthest_37 rfl rfl ?_
          refine t_lald (pc := 38) (t0 := 1) ht26 (rd_of hA_column) dX12_farthest_38 rfl (by decide) (by omega) (fun w7 _ => ?_)
          refine r_lconst (pc := 39) (v := 1) dX12_farthest_39 (by decide) ?_
          refine r_ladd (pc := 40) (v := w7 + (1 : Int64)) dX12_farthest_40 rfl ?_
          refine t_last (pc := 41) (t0 := 1) ht26 hA_column dX12_farthest_41 rfl (by decide) (by omega) trivial (fun hp8 ht9 => ?_)
          refine r_iload (pc := 42) dX12_farthest_42 rfl ?_
          refine r_istore_n (pc := 44) (lv' := [(3, .int (iv v26_4)), (0, .ref y), (1, .int (iv x1)), (2, .int (iv v2_2)), (4, .int (iv v26_4))]) dX12_farthest_44 (i := 3) rfl (by decide) rfl ?_
          refine r_iload_n (pc := 45) dX12_farthest_45 (i := 3) rfl rfl ?_
          refine r_aload_n (pc := 46) dX12_farthest_46 (i := 0) rfl rfl ?_
          refine r_iload_n (pc := 47) dX12_farthest_47 (i := 1) rfl rfl ?_
          refine r_iload_n (pc := 48) dX12_farthest_48 (i := 3) rfl rfl ?_
          refine t_callVR (pc := 49) (as := [.int (iv x1), .int (iv v26_4)]) (st := [.int (iv v26_4)]) ht9 hO kX12_231 rfl dX12_farthest_49 (t_X12_reach (d := d - 1) (x1 := x1) (x2 := v26_4) (by omega) hO hA_directs hA_many hA_from hA_to ht9 (by omega) (by omega)) rfl (by omega) (Nat.le_of_ble_eq_true rfl) rfl (fun hp10 y12 ht11 by12 => ?_)
          obtain ⟨z13, hz13, bz13⟩ := or_2 16 v26_4 y12 (by omega) (by omega) (by decide)
          refine r_ior (pc := 52) (v := iv z13) dX12_farthest_52 hz13 ?_
          refine r_istore (pc := 53) (lv' := [(4, .int (iv z13)), (3, .int (iv v26_4)), (0, .ref y), (1, .int (iv x1)), (2, .int (iv v2_2))]) dX12_farthest_53 (by decide) rfl ?_
          refine r_goto (pc := 55) (tgt := 26) dX12_farthest_55 (by decide) ?_
          refine Rn.pick (lv' := [(0, .ref y), (1, .int (iv x1)), (2, .int (iv v2_2)), (3, .int (iv v26_4)), (4, .int (iv z13))]) [2, 3, 4, 1, 0] rfl ?_
          exact ih26 (Int.toNat (65535 - v26_4)) (by omega) _ ht11 v26_4 z13 ⟨by omega, by omega, by omega, by omega, by omega⟩ (by omega)
      refine Rn.pick (lv' := [(0, .ref y), (1, .int (iv x1)), (2, .int (iv v2_2)), (3, .int (iv z2)), (4, .int (iv z6))]) [2, 3, 4, 1, 0] rfl ?_
      exact B26 (Int.toNat (65535 - z2)) _ ht4 z2 z6 ⟨by omega, by omega, by omega, by omega, by omega⟩ (by omega)
  refine Rn.pick (lv' := [(0, .ref y), (1, .int (iv x1)), (2, .int (iv 0))]) [1, 2, 0] rfl ?_
  exact B2 (Int.toNat (16 - 0)) _ ht 0 ⟨by omega, by omega⟩ (by omega)
set_option maxHeartbeats 4000000 in
set_option maxRecDepth 100000 in
theorem t_X12_walks {D : va_G} {cI cJ cZ cT : ClassId} {lo b L : Nat} {xs : Nat → Int32} {hp : MH} {n d : Nat} {Γ : TG} {y : Nat} {rf cnt nm : Int32} {x1 x2 : Int} (hd0 : 2 ≤ d) (hO : rd Γ y (tO 11 (mdF y rf cnt nm))) (hA_sizes : rd Γ (y + 2) (tI cI 121 (rg 0 16))) (hA_directs : rd Γ (y + 3) (tI cZ 121 (rg 0 1))) (hA_many : rd Γ (y + 4) (tI cI 121 (rg 0 60))) (hA_from : rd Γ (y + 5) (tI cI 7260 (rg 0 15))) (hA_to : rd Γ (y + 6) (tI cI 7260 (rg 0 15))) (hA_column : Γ (y + 21) = some (tJ cJ 16 anyJ)) (hA_next : Γ (y + 22) = some (tJ cJ 16 anyJ)) (ht : Tw Γ hp) (hx1 : 0 ≤ x1 ∧ x1 ≤ 120) (hx2 : 0 ≤ x2 ∧ x2 ≤ 1000) : Mt (gG D cI cJ cZ cT lo b L xs) mX12_walks d 0 0 [.ref y, .int (iv x1), .int (iv x2)] hp n (pV Γ n) := by
  refine Mt.of rfl (Nat.le_of_ble_eq_true rfl) ?_
  refine Rn.pick (lv' := [(0, .ref y), (1, .int (iv x1)), (2, .int (iv x2))]) [0, 1, 2] rfl ?_
  refine r_aload_n (pc := 0) dX12_walks_0 (i := 0) rfl rfl ?_
  refine t_getE (pc := 1) (.ref (y + 2)) ht hO fX12_13 dX12_walks_1 rfl ?_
  refine r_iload_n (pc := 4) dX12_walks_4 (i := 1) rfl rfl ?_
  refine t_ialdR (pc := 5) (t0 := 0) ht hA_sizes dX12_walks_5 rfl (by decide) (by omega) (fun y1 by1 => ?_)
  refine r_istore_n (pc := 6) (lv' := [(3, .int (iv y1)), (0, .ref y), (1, .int (iv x1)), (2, .int (iv x2))]) dX12_walks_6 (i := 3) rfl (by decide) rfl ?_
  refine r_iconst (pc := 7) (v := iv 0) dX12_walks_7 (by decide) ?_
  refine r_istore (pc := 8) (lv' := [(4, .int (iv 0)), (3, .int (iv y1)), (0, .ref y), (1, .int (iv x1)), (2, .int (iv x2))]) dX12_walks_8 (by decide) rfl ?_
  have B10 : ∀ k : Nat, ∀ hp10 : MH, Tw Γ hp10 → ∀  (v10_4 : Int), 0 ≤ v10_4 ∧ v10_4 ≤ 1001 → 1001 - v10_4 ≤ (k : Int) → Rn (gG D cI cJ cZ cT lo b L xs) mX12_walks d 10 [(0, .ref y), (1, .int (iv x1)), (2, .int (iv x2)), (3, .int (iv y1)), (4, .int (iv v10_4))] [] hp10 n 0 0 (pV Γ n) := by
    refine lpS _ ?_
    intro k10 ih10 hp10 ht10 v10_4 hf10 hm10
    refine r_iload (pc := 10) dX12_walks_10 rfl ?_
    refine r_iload_n (pc := 12) dX12_walks_12 (i := 2) rfl rfl ?_
    refine t_icmp_ge (pc := 13) (tgt := 130) dX12_walks_13 (by decide) (by omega) (by omega) (fun c13 => ?_) (fun c13 => ?_)
    · exact r_vret (pc := 130) dX12_walks_130 rfl ⟨rfl, ht10, rfl⟩
    · refine r_iconst (pc := 16) (v := iv 0) dX12_walks_16 (by decide) ?_
      refine r_istore (pc := 17) (lv' := [(5, .int (iv 0)), (0, .ref y), (1, .int (iv x1)), (2, .int (iv x2)), (3, .int (iv y1)), (4, .int (iv v10_4))]) dX12_walks_17 (by decide) rfl ?_
      have B19 : ∀ k : Nat, ∀ hp19 : MH, Tw Γ hp19 → ∀  (v19_5 : Int), 0 ≤ v19_5 ∧ v19_5 ≤ 16 → 16 - v19_5 ≤ (k : Int) → Rn (gG D cI cJ cZ cT lo b L xs) mX12_walks d 19 [(0, .ref y), (1, .int (iv x1)), (2, .int (iv x2)), (3, .int (iv y1)), (4, .int (iv v10_4)), (5, .int (iv v19_5))] [] hp19 n 0 0 (pV Γ n) := by
        refine lpS _ ?_
        intro k19 ih19 hp19 ht19 v19_5 hf19 hm19
        refine r_iload (pc := 19) dX12_walks_19 rfl ?_
        refine r_iload_n (pc := 21) dX12_walks_21 (i := 3) rfl rfl ?_
        refine t_icmp_ge (pc := 22) (tgt := 95) dX12_walks_22 (by decide) (by omega) (by omega) (fun c22 => ?_) (fun c22 => ?_)
        · refine r_iconst (pc := 95) (v := iv 0) dX12_walks_95 (by decide) ?_
          refine r_istore (pc := 96) (lv' := [(5, .int (iv 0)), (0, .ref y), (1, .int (iv x1)), (2, .int (iv x2)), (3, .int (iv y1)), (4, .int (iv v10_4))]) dX12_walks_96 (by decide) rfl ?_
          have B98 : ∀ k : Nat, ∀ hp98 : MH, Tw Γ hp98 → ∀  (v98_5 : Int), 0 ≤ v98_5 ∧ v98_5 ≤ 16 → 16 - v98_5 ≤ (k : Int) → Rn (gG D cI cJ cZ cT lo b L xs) mX12_walks d 98 [(0, .ref y), (1, .int (iv x1)), (2, .int (iv x2)), (3, .int (iv y1)), (4, .int (iv v10_4)), (5, .int (iv v98_5))] [] hp98 n 0 0 (pV Γ n) := by
            refine lpS _ ?_
            intro k98 ih98 hp98 ht98 v98_5 hf98 hm98
            refine r_iload (pc := 98) dX12_walks_98 rfl ?_
            refine r_iload_n (pc := 100) dX12_walks_100 (i := 3) rfl rfl ?_
            refine t_icmp_ge (pc := 101) (tgt := 124) dX12_walks_101 (by decide) (by omega) (by omega) (fun c101 => ?_) (fun c101 => ?_)
            · refine r_iinc (pc := 124) (v := iv (v10_4 + 1)) (lv' := [(4, .int (iv (v10_4 + 1))), (0, .ref y), (1, .int (iv x1)), (2, .int (iv x2)), (3, .int (iv y1)), (5, .int (iv v98_5))]) dX12_walks_124 rfl (iv_add _ _) (by decide) rfl ?_
              refine r_goto (pc := 127) (tgt := 10) dX12_walks_127 (by decide) ?_
              refine Rn.pick (lv' := [(0, .ref y), (1, .int (iv x1)), (2, .int (iv x2)), (3, .int (iv y1)), (4, .int (iv (v10_4 + 1)))]) [1, 2, 3, 4, 0] rfl ?_
              exact ih10 (Int.toNat (1001 - (v10_4 + 1))) (by omega) _ ht98 (v10_4 + 1) ⟨by omega, by omega⟩ (by omega)
            · refine r_aload_n (pc := 104) dX12_walks_104 (i := 0) rfl rfl ?_
              refine t_getE (pc := 105) (.ref (y + 21)) ht98 hO fX12_72 dX12_walks_105 rfl ?_
              refine r_iload (pc := 108) dX12_walks_108 rfl ?_
              refine r_aload_n (pc := 110) dX12_walks_110 (i := 0) rfl rfl ?_
              refine t_getE (pc := 111) (.ref (y + 22)) ht98 hO fX12_75 dX12_walks_111 rfl ?_
              refine r_iload (pc := 114) dX12_walks_114 rfl ?_
              refine t_lald (pc := 116) (t0 := 1) ht98 (rd_of hA_next) dX12_walks_116 rfl (by decide) (by omega) (fun w2 _ => ?_)
              refine t_last (pc := 117) (t0 := 1) ht98 hA_column dX12_walks_117 rfl (by decide) (by omega) trivial (fun hp3 ht4 => ?_)
              refine r_iinc (pc := 118) (v := iv (v98_5 + 1)) (lv' := [(5, .int (iv (v98_5 + 1))), (0, .ref y), (1, .int (iv x1)), (2, .int (iv x2)), (3, .int (iv y1)), (4, .int (iv v10_4))]) dX12_walks_118 rfl (iv_add _ _) (by decide) rfl ?_
              refine r_goto (pc := 121) (tgt := 98) dX12_walks_121 (by decide) ?_
              refine Rn.pick (lv' := [(0, .ref y), (1, .int (iv x1)), (2, .int (iv x2)), (3, .int (iv y1)), (4, .int (iv v10_4)), (5, .int (iv (v98_5 + 1)))]) [1, 2, 3, 4, 5, 0] rfl ?_
              exact ih98 (Int.toNat (16 - (v98_5 + 1))) (by omega) _ ht4 (v98_5 + 1) ⟨by omega, by omega⟩ (by omega)
          refine Rn.pick (lv' := [(0, .ref y), (1, .int (iv x1)), (2, .int (iv x2)), (3, .int (iv y1)), (4, .int (iv v10_4)), (5, .int (iv 0))]) [1, 2, 3, 4, 5, 0] rfl ?_
          exact B98 (Int.toNat (16 - 0)) _ ht19 0 ⟨by omega, by omega⟩ (by omega)
        · refine r_lconst (pc := 25) (v := 0) dX12_walks_25 (by decide) ?_
          refine r_lstore (pc := 26) (lv' := [(6, .long (0 : Int64)), (0, .ref y), (1, .int (iv x1)), (2, .int (iv x2)), (3, .int (iv y1)), (4, .int (iv v10_4)), (5, .int (iv v19_5))]) dX12_walks_26 (by decide) rfl ?_
          refine r_iconst (pc := 28) (v := iv 0) dX12_walks_28 (by decide) ?_
          refine r_istore (pc := 29) (lv' := [(8, .int (iv 0)), (6, .long (0 : Int64)), (0, .ref y), (1, .int (iv x1)), (2, .int (iv x2)), (3, .int (iv y1)), (4, .int (iv v10_4)), (5, .int (iv v19_5))]) dX12_walks_29 (by decide) rfl ?_
          have B31 : ∀ k : Nat, ∀ hp31 : MH, Tw Γ hp31 → ∀  (v31_8 : Int) (w31_6 : Int64), 0 ≤ v31_8 ∧ v31_8 ≤ 60 → 60 - v31_8 ≤ (k : Int) → Rn (gG D cI cJ cZ cT lo b L xs) mX12_walks d 31 [(0, .ref y), (1, .int (iv x1)), (2, .int (iv x2)), (3, .int (iv y1)), (4, .int (iv v10_4)), (5, .int (iv v19_5)), (6, .long w31_6), (8, .int (iv v31_8))] [] hp31 n 0 0 (pV Γ n) := by
            refine lpS _ ?_
            intro k31 ih31 hp31 ht31 v31_8 w31_6 hf31 hm31
            refine r_iload (pc := 31) dX12_walks_31 rfl ?_
            refine r_aload_n (pc := 33) dX12_walks_33 (i := 0) rfl rfl ?_
            refine t_getE (pc := 34) (.ref (y + 4)) ht31 hO fX12_20 dX12_walks_34 rfl ?_
            refine r_iload_n (pc := 37) dX12_walks_37 (i := 1) rfl rfl ?_
            refine t_ialdR (pc := 38) (t0 := 0) ht31 hA_many dX12_walks_38 rfl (by decide) (by omega) (fun y5 by5 => ?_)
            refine t_icmp_ge (pc := 39) (tgt := 80) dX12_walks_39 (by decide) (by omega) (by omega) (fun c39 => ?_) (fun c39 => ?_)
            · refine r_aload_n (pc := 80) dX12_walks_80 (i := 0) rfl rfl ?_
              refine t_getE (pc := 81) (.ref (y + 22)) ht31 hO fX12_75 dX12_walks_81 rfl ?_
              refine r_iload (pc := 84) dX12_walks_84 rfl ?_
              refine r_lload (pc := 86) dX12_walks_86 rfl ?_
              refine t_last (pc := 88) (t0 := 1) ht31 hA_next dX12_walks_88 rfl (by decide) (by omega) trivial (fun hp6 ht7 => ?_)
              refine r_iinc (pc := 89) (v := iv (v19_5 + 1)) (lv' := [(5, .int (iv (v19_5 + 1))), (0, .ref y), (1, .int (iv x1)), (2, .int (iv x2)), (3, .int (iv y1)), (4, .int (iv v10_4)), (6, .long w31_6), (8, .int (iv v31_8))]) dX12_walks_89 rfl (iv_add _ _) (by decide) rfl ?_
              refine r_goto (pc := 92) (tgt := 19) dX12_walks_92 (by decide) ?_
              refine Rn.pick (lv' := [(0, .ref y), (1, .int (iv x1)), (2, .int (iv x2)), (3, .int (iv y1)), (4, .int (iv v10_4)), (5, .int (iv (v19_5 + 1)))]) [1, 2, 3, 4, 5, 0] rfl ?_
              exact ih19 (Int.toNat (16 - (v19_5 + 1))) (by omega) _ ht7 (v19_5 + 1) ⟨by omega, by omega⟩ (by omega)
            · refine r_aload_n (pc := 42) dX12_walks_42 (i := 0) rfl rfl ?_
              refine r_iload_n (pc := 43) dX12_walks_43 (i := 1) rfl rfl ?_
              refine r_iload (pc := 44) dX12_walks_44 rfl ?_
              refine r_iload (pc := 46) dX12_walks_46 rfl ?_
              refine t_callVR (pc := 48) (as := [.int (iv x1), .int (iv v31_8), .int (iv v19_5)]) (st := []) ht31 hO kX12_205 rfl dX12_walks_48 (t_X12_over (d := d - 1) (x1 := x1) (x2 := v31_8) (x3 := v19_5) (by omega) hO hA_directs hA_from hA_to ht31 (by omega) (by omega) (by omega)) rfl (by omega) (Nat.le_of_ble_eq_true rfl) rfl (fun hp8 y10 ht9 by10 => ?_)
              refine r_istore (pc := 51) (lv' := [(9, .int (iv y10)), (0, .ref y), (1, .int (iv x1)), (2, .int (iv x2)), (3, .int (iv y1)), (4, .int (iv v10_4)), (5, .int (iv v19_5)), (6, .long w31_6), (8, .int (iv v31_8))]) dX12_walks_51 (by decide) rfl ?_
              refine r_lload (pc := 53) dX12_walks_53 rfl ?_
              refine r_iload (pc := 55) dX12_walks_55 rfl ?_
              have B71 : ∀ hp71 : MH, Tw Γ hp71 → ∀  (x71_1 : Int64), True → Rn (gG D cI cJ cZ cT lo b L xs) mX12_walks d 71 [(0, .ref y), (1, .int (iv x1)), (2, .int (iv x2)), (3, .int (iv y1)), (4, .int (iv v10_4)), (5, .int (iv v19_5)), (8, .int (iv v31_8))] [.long x71_1, .long w31_6] hp71 n 0 0 (pV Γ n) := by
                intro hp71 ht71 x71_1 hf71
                refine r_ladd (pc := 71) (v := w31_6 + x71_1) dX12_walks_71 rfl ?_
                refine r_lstore (pc := 72) (lv' := [(6, .long (w31_6 + x71_1)), (0, .ref y), (1, .int (iv x1)), (2, .int (iv x2)), (3, .int (iv y1)), (4, .int (iv v10_4)), (5, .int (iv v19_5)), (8, .int (iv v31_8))]) dX12_walks_72 (by decide) rfl ?_
                refine r_iinc (pc := 74) (v := iv (v31_8 + 1)) (lv' := [(8, .int (iv (v31_8 + 1))), (6, .long (w31_6 + x71_1)), (0, .ref y), (1, .int (iv x1)), (2, .int (iv x2)), (3, .int (iv y1)), (4, .int (iv v10_4)), (5, .int (iv v19_5))]) dX12_walks_74 rfl (iv_add _ _) (by decide) rfl ?_
                refine r_goto (pc := 77) (tgt := 31) dX12_walks_77 (by decide) ?_
                refine Rn.pick (lv' := [(0, .ref y), (1, .int (iv x1)), (2, .int (iv x2)), (3, .int (iv y1)), (4, .int (iv v10_4)), (5, .int (iv v19_5)), (6, .long (w31_6 + x71_1)), (8, .int (iv (v31_8 + 1)))]) [2, 3, 4, 5, 6, 7, 1, 0] rfl ?_
                exact ih31 (Int.toNat (60 - (v31_8 + 1))) (by omega) _ ht71 (v31_8 + 1) (w31_6 + x71_1) ⟨by omega, by omega⟩ (by omega)
              refine t_if_lt (pc := 57) (tgt := 70) dX12_walks_57 (by decide) (by omega) (fun c57 => ?_) (fun c57 => ?_)
              · refine r_lconst (pc := 70) (v := 0) dX12_walks_70 (by decide) ?_
                refine Rn.pick (lv' := [(0, .ref y), (1, .int (iv x1)), (2, .int (iv x2)), (3, .int (iv y1)), (4, .int (iv v10_4)), (5, .int (iv v19_5)), (8, .int (iv v31_8))]) [1, 2, 3, 4, 5, 6, 8] rfl ?_
                exact B71 _ ht9 (0 : Int64) trivial
              · refine r_aload_n (pc := 60) dX12_walks_60 (i := 0) rfl rfl ?_
                refine t_getE (pc := 61) (.ref (y + 21)) ht9 hO fX12_72 dX12_walks_61 rfl ?_
                refine r_iload (pc := 64) dX12_walks_64 rfl ?_
                refine t_lald (pc := 66) (t0 := 1) ht9 (rd_of hA_column) dX12_walks_66 rfl (by decide) (by omega) (fun w11 _ => ?_)
                refine r_goto (pc := 67) (tgt := 71) dX12_walks_67 (by decide) ?_
                refine Rn.pick (lv' := [(0, .ref y), (1, .int (iv x1)), (2, .int (iv x2)), (3, .int (iv y1)), (4, .int (iv v10_4)), (5, .int (iv v19_5)), (8, .int (iv v31_8))]) [1, 2, 3, 4, 5, 6, 8] rfl ?_
                exact B71 _ ht9 w11 trivial
          refine Rn.pick (lv' := [(0, .ref y), (1, .int (iv x1)), (2, .int (iv x2)), (3, .int (iv y1)), (4, .int (iv v10_4)), (5, .int (iv v19_5)), (6, .long (0 : Int64)), (8, .int (iv 0))]) [2, 3, 4, 5, 6, 7, 1, 0] rfl ?_
          exact B31 (Int.toNat (60 - 0)) _ ht19 0 (0 : Int64) ⟨by omega, by omega⟩ (by omega)
      refine Rn.pick (lv' := [(0, .ref y), (1, .int (iv x1)), (2, .int (iv x2)), (3, .int (iv y1)), (4, .int (iv v10_4)), (5, .int (iv 0))]) [1, 2, 3, 4, 5, 0] rfl ?_
      exact B19 (Int.toNat (16 - 0)) _ ht10 0 ⟨by omega, by omega⟩ (by omega)
  refine Rn.pick (lv' := [(0, .ref y), (1, .int (iv x1)), (2, .int (iv x2)), (3, .int (iv y1)), (4, .int (iv 0))]) [2, 3, 4, 1, 0] rfl ?_
  exact B10 (Int.toNat (1001 - 0)) _ ht 0 ⟨by omega, by omega⟩ (by omega)
set_option maxHeartbeats 4000000 in
set_option maxRecDepth 100000 in
theorem t_X12_joinsOf {D : va_G} {cI cJ cZ cT : ClassId} {lo b L : Nat} {xs : Nat → Int32} {hp : MH} {n d : Nat} {Γ : TG} {y : Nat} {rf cnt nm : Int32} {x1 x2 : Int} (hd0 : 1 ≤ d) (hO : rd Γ y (tO 11 (mdF y rf cnt nm))) (hA_many : rd Γ (y + 4) (tI cI 121 (rg 0 60))) (hA_from : rd Γ (y + 5) (tI cI 7260 (rg 0 15))) (hA_to : rd Γ (y + 6) (tI cI 7260 (rg 0 15))) (hA_beside : Γ (y + 24) = some (tI cI 16 (rg 0 65535))) (ht : Tw Γ hp) (hx1 : 0 ≤ x1 ∧ x1 ≤ 120) (hx2 : (-1) ≤ x2 ∧ x2 ≤ 59) : Mt (gG D cI cJ cZ cT lo b L xs) mX12_joinsOf d 0 0 [.ref y, .int (iv x1), .int (iv x2)] hp n (pV Γ n) := by
  refine Mt.of rfl (Nat.le_of_ble_eq_true rfl) ?_
  refine Rn.pick (lv' := [(0, .ref y), (1, .int (iv x1)), (2, .int (iv x2))]) [0, 1, 2] rfl ?_
  refine r_iconst (pc := 0) (v := iv 0) dX12_joinsOf_0 (by decide) ?_
  refine r_istore_n (pc := 1) (lv' := [(3, .int (iv 0)), (0, .ref y), (1, .int (iv x1)), (2, .int (iv x2))]) dX12_joinsOf_1 (i := 3) rfl (by decide) rfl ?_
  have B2 : ∀ k : Nat, ∀ hp2 : MH, Tw Γ hp2 → ∀  (v2_3 : Int), 0 ≤ v2_3 ∧ v2_3 ≤ 16 → 16 - v2_3 ≤ (k : Int) → Rn (gG D cI cJ cZ cT lo b L xs) mX12_joinsOf d 2 [(0, .ref y), (1, .int (iv x1)), (2, .int (iv x2)), (3, .int (iv v2_3))] [] hp2 n 0 0 (pV Γ n) := by
    refine lpS _ ?_
    intro k2 ih2 hp2 ht2 v2_3 hf2 hm2
    refine r_iload_n (pc := 2) dX12_joinsOf_2 (i := 3) rfl rfl ?_
    refine r_bipush (pc := 3) (v := iv 16) dX12_joinsOf_3 (by decide) ?_
    refine t_icmp_ge (pc := 5) (tgt := 21) dX12_joinsOf_5 (by decide) (by omega) (by omega) (fun c5 => ?_) (fun c5 => ?_)
    · refine r_iconst (pc := 21) (v := iv 0) dX12_joinsOf_21 (by decide) ?_
      refine r_istore_n (pc := 22) (lv' := [(3, .int (iv 0)), (0, .ref y), (1, .int (iv x1)), (2, .int (iv x2))]) dX12_joinsOf_22 (i := 3) rfl (by decide) rfl ?_
      have B23 : ∀ k : Nat, ∀ hp23 : MH, Tw Γ hp23 → ∀  (v23_3 : Int), 0 ≤ v23_3 ∧ v23_3 ≤ 60 → 60 - v23_3 ≤ (k : Int) → Rn (gG D cI cJ cZ cT lo b L xs) mX12_joinsOf d 23 [(0, .ref y), (1, .int (iv x1)), (2, .int (iv x2)), (3, .int (iv v23_3))] [] hp23 n 0 0 (pV Γ n) := by
        refine lpS _ ?_
        intro k23 ih23 hp23 ht23 v23_3 hf23 hm23
        refine r_iload_n (pc := 23) dX12_joinsOf_23 (i := 3) rfl rfl ?_
        refine r_aload_n (pc := 24) dX12_joinsOf_24 (i := 0) rfl rfl ?_
        refine t_getE (pc := 25) (.ref (y + 4)) ht23 hO fX12_20 dX12_joinsOf_25 rfl ?_
        refine r_iload_n (pc := 28) dX12_joinsOf_28 (i := 1) rfl rfl ?_
        refine t_ialdR (pc := 29) (t0 := 0) ht23 hA_many dX12_joinsOf_29 rfl (by decide) (by omega) (fun y1 by1 => ?_)
        refine t_icmp_ge (pc := 30) (tgt := 116) dX12_joinsOf_30 (by decide) (by omega) (by omega) (fun c30 => ?_) (fun c30 => ?_)
        · exact r_vret (pc := 116) dX12_joinsOf_116 rfl ⟨rfl, ht23, rfl⟩
        · refine r_iload_n (pc := 33) dX12_joinsOf_33 (i := 1) rfl rfl ?_
          refine r_iload_n (pc := 34) dX12_joinsOf_34 (i := 3) rfl rfl ?_
          refine t_callSR (pc := 35) (as := [.int (iv x1), .int (iv v23_3)]) (st := []) kX12_157 dX12_joinsOf_35 (t_X12_at1 (d := d - 1) (x1 := x1) (x2 := v23_3) (by omega)  ht23 (by omega) (by omega)) rfl (by omega) (Nat.le_of_ble_eq_true rfl) rfl (fun hp2 y4 ht3 by4 => ?_)
          refine r_istore (pc := 38) (lv' := [(4, .int (iv y4)), (0, .ref y), (1, .int (iv x1)), (2, .int (iv x2)), (3, .int (iv v23_3))]) dX12_joinsOf_38 (by decide) rfl ?_
          refine r_iload_n (pc := 40) dX12_joinsOf_40 (i := 3) rfl rfl ?_
          refine r_iload_n (pc := 41) dX12_joinsOf_41 (i := 2) rfl rfl ?_
          have B110 : ∀ hp110 : MH, Tw Γ hp110 → True → Rn (gG D cI cJ cZ cT lo b L xs) mX12_joinsOf d 110 [(0, .ref y), (1, .int (iv x1)), (2, .int (iv x2)), (3, .int (iv v23_3))] [] hp110 n 0 0 (pV Γ n) := by
            intro hp110 ht110 hf110
            refine r_iinc (pc := 110) (v := iv (v23_3 + 1)) (lv' := [(3, .int (iv (v23_3 + 1))), (0, .ref y), (1, .int (iv x1)), (2, .int (iv x2))]) dX12_joinsOf_110 rfl (iv_add _ _) (by decide) rfl ?_
            refine r_goto (pc := 113) (tgt := 23) dX12_joinsOf_113 (by decide) ?_
            refine Rn.pick (lv' := [(0, .ref y), (1, .int (iv x1)), (2, .int (iv x2)), (3, .int (iv (v23_3 + 1)))]) [1, 2, 3, 0] rfl ?_
            exact ih23 (Int.toNat (60 - (v23_3 + 1))) (by omega) _ ht110 (v23_3 + 1) ⟨by omega, by omega⟩ (by omega)
          refine t_icmp_eq (pc := 42) (tgt := 110) dX12_joinsOf_42 (by decide) (by omega) (by omega) (fun c42 => ?_) (fun c42 => ?_)
          · refine Rn.pick (lv' := [(0, .ref y), (1, .int (iv x1)), (2, .int (iv x2)), (3, .int (iv v23_3))]) [1, 2, 3, 4] rfl ?_
            exact B110 _ ht3 trivial
          · refine r_aload_n (pc := 45) dX12_joinsOf_45 (i := 0) rfl rfl ?_
            refine t_getE (pc := 46) (.ref (y + 5)) ht3 hO fX12_23 dX12_joinsOf_46 rfl ?_
            refine r_iload (pc := 49) dX12_joinsOf_49 rfl ?_
            refine t_ialdR (pc := 51) (t0 := 0) ht3 hA_from dX12_joinsOf_51 rfl (by decide) (by omega) (fun y5 by5 => ?_)
            refine r_aload_n (pc := 52) dX12_joinsOf_52 (i := 0) rfl rfl ?_
            refine t_getE (pc := 53) (.ref (y + 6)) ht3 hO fX12_26 dX12_joinsOf_53 rfl ?_
            refine r_iload (pc := 56) dX12_joinsOf_56 rfl ?_
            refine t_ialdR (pc := 58) (t0 := 0) ht3 hA_to dX12_joinsOf_58 rfl (by decide) (by omega) (fun y6 by6 => ?_)
            refine t_icmp_eq (pc := 59) (tgt := 110) dX12_joinsOf_59 (by decide) (by omega) (by omega) (fun c59 => ?_) (fun c59 => ?_)
            · refine Rn.pick (lv' := [(0, .ref y), (1, .int (iv x1)), (2, .int (iv x2)), (3, .int (iv v23_3))]) [1, 2, 3, 4] rfl ?_
              exact B110 _ ht3 trivial
            · refine r_aload_n (pc := 62) dX12_joinsOf_62 (i := 0) rfl rfl ?_
              refine t_getE (pc := 63) (.ref (y + 24)) ht3 hO fX12_81 dX12_joinsOf_63 rfl ?_
              refine r_aload_n (pc := 66) dX12_joinsOf_66 (i := 0) rfl rfl ?_
              refine t_getE (pc := 67) (.ref (y + 5)) ht3 hO fX12_23 dX12_joinsOf_67 rfl ?_
              refine r_iload (pc := 70) dX12_joinsOf_70 rfl ?_
              refine t_ialdR (pc := 72) (t0 := 0) ht3 hA_from dX12_joinsOf_72 rfl (by decide) (by omega) (fun y7 by7 => ?_)
              refine r_dup2_11 (pc := 73) dX12_joinsOf_73 rfl rfl ?_
              refine t_ialdR (pc := 74) (t0 := 0) ht3 (rd_of hA_beside) dX12_joinsOf_74 rfl (by decide) (by omega) (fun y8 by8 => ?_)
              refine r_iconst (pc := 75) (v := iv 1) dX12_joinsOf_75 (by decide) ?_
              refine r_aload_n (pc := 76) dX12_joinsOf_76 (i := 0) rfl rfl ?_
              refine t_getE (pc := 77) (.ref (y + 6)) ht3 hO fX12_26 dX12_joinsOf_77 rfl ?_
              refine r_iload (pc := 80) dX12_joinsOf_80 rfl ?_
              refine t_ialdR (pc := 82) (t0 := 0) ht3 hA_to dX12_joinsOf_82 rfl (by decide) (by omega) (fun y9 by9 => ?_)
              obtain ⟨z10, hz10, bz10⟩ := shl_1 0 15 y9 (by omega) (by omega) (by decide)
              refine r_ishl (pc := 83) (v := iv z10) dX12_joinsOf_83 hz10 ?_
              obtain ⟨z11, hz11, bz11⟩ := or_2 16 y8 z10 (by omega) (by omega) (by decide)
              refine r_ior (pc := 84) (v := iv z11) dX12_joinsOf_84 hz11 ?_
              refine t_iastR (pc := 85) (t0 := 0) ht3 hA_beside dX12_joinsOf_85 rfl (by decide) (by decide) (by omega) (by omega) (fun hp12 ht13 => ?_)
              refine r_aload_n (pc := 86) dX12_joinsOf_86 (i := 0) rfl rfl ?_
              refine t_getE (pc := 87) (.ref (y + 24)) ht13 hO fX12_81 dX12_joinsOf_87 rfl ?_
              refine r_aload_n (pc := 90) dX12_joinsOf_90 (i := 0) rfl rfl ?_
              refine t_getE (pc := 91) (.ref (y + 6)) ht13 hO fX12_26 dX12_joinsOf_91 rfl ?_
              refine r_iload (pc := 94) dX12_joinsOf_94 rfl ?_
              refine t_ialdR (pc := 96) (t0 := 0) ht13 hA_to dX12_joinsOf_96 rfl (by decide) (by omega) (fun y14 by14 => ?_)
              refine r_dup2_11 (pc := 97) dX12_joinsOf_97 rfl rfl ?_
              refine t_ialdR (pc := 98) (t0 := 0) ht13 (rd_of hA_beside) dX12_joinsOf_98 rfl (by decide) (by omega) (fun y15 by15 => ?_)
              refine r_iconst (pc := 99) (v := iv 1) dX12_joinsOf_99 (by decide) ?_
              refine r_aload_n (pc := 100) dX12_joinsOf_100 (i := 0) rfl rfl ?_
              refine t_getE (pc := 101) (.ref (y + 5)) ht13 hO fX12_23 dX12_joinsOf_101 rfl ?_
              refine r_iload (pc := 104) dX12_joinsOf_104 rfl ?_
              refine t_ialdR (pc := 106) (t0 := 0) ht13 hA_from dX12_joinsOf_106 rfl (by decide) (by omega) (fun y16 by16 => ?_)
              obtain ⟨z17, hz17, bz17⟩ := shl_1 0 15 y16 (by omega) (by omega) (by decide)
              refine r_ishl (pc := 107) (v := iv z17) dX12_joinsOf_107 hz17 ?_
              obtain ⟨z18, hz18, bz18⟩ := or_2 16 y15 z17 (by omega) (by omega) (by decide)
              refine r_ior (pc := 108) (v := iv z18) dX12_joinsOf_108 hz18 ?_
              refine t_iastR (pc := 109) (t0 := 0) ht13 hA_beside dX12_joinsOf_109 rfl (by decide) (by decide) (by omega) (by omega) (fun hp19 ht20 => ?_)
              refine Rn.pick (lv' := [(0, .ref y), (1, .int (iv x1)), (2, .int (iv x2)), (3, .int (iv v23_3))]) [1, 2, 3, 4] rfl ?_
              exact B110 _ ht20 trivial
      refine Rn.pick (lv' := [(0, .ref y), (1, .int (iv x1)), (2, .int (iv x2)), (3, .int (iv 0))]) [1, 2, 3, 0] rfl ?_
      exact B23 (Int.toNat (60 - 0)) _ ht2 0 ⟨by omega, by omega⟩ (by omega)
    · refine r_aload_n (pc := 8) dX12_joinsOf_8 (i := 0) rfl rfl ?_
      refine t_getE (pc := 9) (.ref (y + 24)) ht2 hO fX12_81 dX12_joinsOf_9 rfl ?_
      refine r_iload_n (pc := 12) dX12_joinsOf_12 (i := 3) rfl rfl ?_
      refine r_iconst (pc := 13) (v := iv 0) dX12_joinsOf_13 (by decide) ?_
      refine t_iastR (pc := 14) (t0 := 0) ht2 hA_beside dX12_joinsOf_14 rfl (by decide) (by decide) (by omega) (by omega) (fun hp21 ht22 => ?_)
      refine r_iinc (pc := 15) (v := iv (v2_3 + 1)) (lv' := [(3, .int (iv (v2_3 + 1))), (0, .ref y), (1, .int (iv x1)), (2, .int (iv x2))]) dX12_joinsOf_15 rfl (iv_add _ _) (by decide) rfl ?_
      refine r_goto (pc := 18) (tgt := 2) dX12_joinsOf_18 (by decide) ?_
      refine Rn.pick (lv' := [(0, .ref y), (1, .int (iv x1)), (2, .int (iv x2)), (3, .int (iv (v2_3 + 1)))]) [1, 2, 3, 0] rfl ?_
      exact ih2 (Int.toNat (16 - (v2_3 + 1))) (by omega) _ ht22 (v2_3 + 1) ⟨by omega, by omega⟩ (by omega)
  refine Rn.pick (lv' := [(0, .ref y), (1, .int (iv x1)), (2, .int (iv x2)), (3, .int (iv 0))]) [1, 2, 3, 0] rfl ?_
  exact B2 (Int.toNat (16 - 0)) _ ht 0 ⟨by omega, by omega⟩ (by omega)
set_option maxHeartbeats 4000000 in
set_option maxRecDepth 100000 in
theorem t_X12_joined {D : va_G} {cI cJ cZ cT : ClassId} {lo b L : Nat} {xs : Nat → Int32} {hp : MH} {n d : Nat} {Γ : TG} {x1 : Int} {j2 j3 : Int64} (hd0 : 0 ≤ d) (ht : Tw Γ hp) (hx1 : 0 ≤ x1 ∧ x1 ≤ 3) : Mt (gG D cI cJ cZ cT lo b L xs) mX12_joined d 0 0 [.int (iv x1), .long j2, .long j3] hp n (pJ Γ n yes64) := by
  refine Mt.of rfl (Nat.le_of_ble_eq_true rfl) ?_
  refine Rn.pick (lv' := [(0, .int (iv x1)), (1, .long j2), (3, .long j3)]) [0, 1, 2] rfl ?_
  refine r_iload_n (pc := 0) dX12_joined_0 (i := 0) rfl rfl ?_
  have B51 : ∀ hp51 : MH, Tw Γ hp51 → ∀  (x51_0 : Int64), True → Rn (gG D cI cJ cZ cT lo b L xs) mX12_joined d 51 [] [.long x51_0] hp51 n 0 0 (pJ Γ n yes64) := by
    intro hp51 ht51 x51_0 hf51
    exact r_lret (pc := 51) dX12_joined_51 rfl ⟨rfl, ht51, _, rfl, trivial⟩
  refine t_if_ne (pc := 1) (tgt := 18) dX12_joined_1 (by decide) (by omega) (fun c1 => ?_) (fun c1 => ?_)
  · refine r_iload_n (pc := 18) dX12_joined_18 (i := 0) rfl rfl ?_
    refine r_iconst (pc := 19) (v := iv 1) dX12_joined_19 (by decide) ?_
    refine t_icmp_ne (pc := 20) (tgt := 37) dX12_joined_20 (by decide) (by omega) (by omega) (fun c20 => ?_) (fun c20 => ?_)
    · refine r_iload_n (pc := 37) dX12_joined_37 (i := 0) rfl rfl ?_
      refine r_iconst (pc := 38) (v := iv 2) dX12_joined_38 (by decide) ?_
      refine t_icmp_ne (pc := 39) (tgt := 48) dX12_joined_39 (by decide) (by omega) (by omega) (fun c39 => ?_) (fun c39 => ?_)
      · refine r_lload_n (pc := 48) dX12_joined_48 (i := 1) rfl rfl ?_
        refine r_lload_n (pc := 49) dX12_joined_49 (i := 3) rfl rfl ?_
        refine r_lxor (pc := 50) (v := j2 ^^^ j3) dX12_joined_50 rfl ?_
        refine Rn.pick (lv' := []) [] rfl ?_
        exact B51 _ ht (j2 ^^^ j3) trivial
      · refine r_lload_n (pc := 42) dX12_joined_42 (i := 1) rfl rfl ?_
        refine r_lload_n (pc := 43) dX12_joined_43 (i := 3) rfl rfl ?_
        refine r_ladd (pc := 44) (v := j2 + j3) dX12_joined_44 rfl ?_
        refine r_goto (pc := 45) (tgt := 51) dX12_joined_45 (by decide) ?_
        refine Rn.pick (lv' := []) [] rfl ?_
        exact B51 _ ht (j2 + j3) trivial
    · refine r_lload_n (pc := 23) dX12_joined_23 (i := 1) rfl rfl ?_
      refine r_lload_n (pc := 24) dX12_joined_24 (i := 3) rfl rfl ?_
      refine r_lcmp (pc := 25) dX12_joined_25 ?_
      refine r_if_le (pc := 26) (tgt := 33) dX12_joined_26 (by decide) (fun c26 => ?_) (fun c26 => ?_)
      · refine r_lload_n (pc := 33) dX12_joined_33 (i := 3) rfl rfl ?_
        refine r_goto (pc := 34) (tgt := 51) dX12_joined_34 (by decide) ?_
        refine Rn.pick (lv' := []) [] rfl ?_
        exact B51 _ ht j3 trivial
      · refine r_lload_n (pc := 29) dX12_joined_29 (i := 1) rfl rfl ?_
        refine r_goto (pc := 30) (tgt := 51) dX12_joined_30 (by decide) ?_
        refine Rn.pick (lv' := []) [] rfl ?_
        exact B51 _ ht j2 trivial
  · refine r_lload_n (pc := 4) dX12_joined_4 (i := 1) rfl rfl ?_
    refine r_lload_n (pc := 5) dX12_joined_5 (i := 3) rfl rfl ?_
    refine r_lcmp (pc := 6) dX12_joined_6 ?_
    refine r_if_ge (pc := 7) (tgt := 14) dX12_joined_7 (by decide) (fun c7 => ?_) (fun c7 => ?_)
    · refine r_lload_n (pc := 14) dX12_joined_14 (i := 3) rfl rfl ?_
      refine r_goto (pc := 15) (tgt := 51) dX12_joined_15 (by decide) ?_
      refine Rn.pick (lv' := []) [] rfl ?_
      exact B51 _ ht j3 trivial
    · refine r_lload_n (pc := 10) dX12_joined_10 (i := 1) rfl rfl ?_
      refine r_goto (pc := 11) (tgt := 51) dX12_joined_11 (by decide) ?_
      refine Rn.pick (lv' := []) [] rfl ?_
      exact B51 _ ht j2 trivial
set_option maxHeartbeats 4000000 in
set_option maxRecDepth 100000 in
theorem t_X12_message {D : va_G} {cI cJ cZ cT : ClassId} {lo b L : Nat} {xs : Nat → Int32} {hp : MH} {n d : Nat} {Γ : TG} {x1 : Int} {j2 j3 : Int64} (hd0 : 0 ≤ d) (ht : Tw Γ hp) (hx1 : 0 ≤ x1 ∧ x1 ≤ 4) : Mt (gG D cI cJ cZ cT lo b L xs) mX12_message d 0 0 [.int (iv x1), .long j2, .long j3] hp n (pJ Γ n yes64) := by
  refine Mt.of rfl (Nat.le_of_ble_eq_true rfl) ?_
  refine Rn.pick (lv' := [(0, .int (iv x1)), (1, .long j2), (3, .long j3)]) [0, 1, 2] rfl ?_
  refine r_iload_n (pc := 0) dX12_message_0 (i := 0) rfl rfl ?_
  have B52 : ∀ hp52 : MH, Tw Γ hp52 → ∀  (x52_0 : Int64), True → Rn (gG D cI cJ cZ cT lo b L xs) mX12_message d 52 [] [.long x52_0] hp52 n 0 0 (pJ Γ n yes64) := by
    intro hp52 ht52 x52_0 hf52
    exact r_lret (pc := 52) dX12_message_52 rfl ⟨rfl, ht52, _, rfl, trivial⟩
  refine t_if_ne (pc := 1) (tgt := 8) dX12_message_1 (by decide) (by omega) (fun c1 => ?_) (fun c1 => ?_)
  · refine r_iload_n (pc := 8) dX12_message_8 (i := 0) rfl rfl ?_
    refine r_iconst (pc := 9) (v := iv 1) dX12_message_9 (by decide) ?_
    refine t_icmp_ne (pc := 10) (tgt := 19) dX12_message_10 (by decide) (by omega) (by omega) (fun c10 => ?_) (fun c10 => ?_)
    · refine r_iload_n (pc := 19) dX12_message_19 (i := 0) rfl rfl ?_
      refine r_iconst (pc := 20) (v := iv 2) dX12_message_20 (by decide) ?_
      refine t_icmp_ne (pc := 21) (tgt := 30) dX12_message_21 (by decide) (by omega) (by omega) (fun c21 => ?_) (fun c21 => ?_)
      · refine r_iload_n (pc := 30) dX12_message_30 (i := 0) rfl rfl ?_
        refine r_iconst (pc := 31) (v := iv 3) dX12_message_31 (by decide) ?_
        refine t_icmp_ne (pc := 32) (tgt := 49) dX12_message_32 (by decide) (by omega) (by omega) (fun c32 => ?_) (fun c32 => ?_)
        · refine r_lload_n (pc := 49) dX12_message_49 (i := 1) rfl rfl ?_
          refine r_lload_n (pc := 50) dX12_message_50 (i := 3) rfl rfl ?_
          refine r_lxor (pc := 51) (v := j2 ^^^ j3) dX12_message_51 rfl ?_
          refine Rn.pick (lv' := []) [] rfl ?_
          exact B52 _ ht (j2 ^^^ j3) trivial
        · refine r_lload_n (pc := 35) dX12_message_35 (i := 1) rfl rfl ?_
          refine r_lload_n (pc := 36) dX12_message_36 (i := 3) rfl rfl ?_
          refine r_lcmp (pc := 37) dX12_message_37 ?_
          refine r_if_ge (pc := 38) (tgt := 45) dX12_message_38 (by decide) (fun c38 => ?_) (fun c38 => ?_)
          · refine r_lload_n (pc := 45) dX12_message_45 (i := 3) rfl rfl ?_
            refine r_goto (pc := 46) (tgt := 52) dX12_message_46 (by decide) ?_
            refine Rn.pick (lv' := []) [] rfl ?_
            exact B52 _ ht j3 trivial
          · refine r_lload_n (pc := 41) dX12_message_41 (i := 1) rfl rfl ?_
            refine r_goto (pc := 42) (tgt := 52) dX12_message_42 (by decide) ?_
            refine Rn.pick (lv' := []) [] rfl ?_
            exact B52 _ ht j2 trivial
      · refine r_lload_n (pc := 24) dX12_message_24 (i := 1) rfl rfl ?_
        refine r_lload_n (pc := 25) dX12_message_25 (i := 3) rfl rfl ?_
        refine r_lmul (pc := 26) (v := j2 * j3) dX12_message_26 rfl ?_
        refine r_goto (pc := 27) (tgt := 52) dX12_message_27 (by decide) ?_
        refine Rn.pick (lv' := []) [] rfl ?_
        exact B52 _ ht (j2 * j3) trivial
    · refine r_lload_n (pc := 13) dX12_message_13 (i := 1) rfl rfl ?_
      refine r_lload_n (pc := 14) dX12_message_14 (i := 3) rfl rfl ?_
      refine r_ladd (pc := 15) (v := j2 + j3) dX12_message_15 rfl ?_
      refine r_goto (pc := 16) (tgt := 52) dX12_message_16 (by decide) ?_
      refine Rn.pick (lv' := []) [] rfl ?_
      exact B52 _ ht (j2 + j3) trivial
  · refine r_lload_n (pc := 4) dX12_message_4 (i := 1) rfl rfl ?_
    refine r_goto (pc := 5) (tgt := 52) dX12_message_5 (by decide) ?_
    refine Rn.pick (lv' := []) [] rfl ?_
    exact B52 _ ht j2 trivial
set_option maxHeartbeats 4000000 in
set_option maxRecDepth 100000 in
theorem t_X12_heard {D : va_G} {cI cJ cZ cT : ClassId} {lo b L : Nat} {xs : Nat → Int32} {hp : MH} {n d : Nat} {Γ : TG} {y : Nat} {rf cnt nm : Int32} {x1 x2 x3 x4 x5 : Int} (hd0 : 1 ≤ d) (hO : rd Γ y (tO 11 (mdF y rf cnt nm))) (hA_directs : rd Γ (y + 3) (tI cZ 121 (rg 0 1))) (hA_many : rd Γ (y + 4) (tI cI 121 (rg 0 60))) (hA_from : rd Γ (y + 5) (tI cI 7260 (rg 0 15))) (hA_to : rd Γ (y + 6) (tI cI 7260 (rg 0 15))) (hA_weight : rd Γ (y + 7) (tI cI 7260 (rg (-1000) 1000))) (hA_column : rd Γ (y + 21) (tJ cJ 16 anyJ)) (ht : Tw Γ hp) (hx1 : 0 ≤ x1 ∧ x1 ≤ 120) (hx2 : 0 ≤ x2 ∧ x2 ≤ 15) (hx3 : 0 ≤ x3 ∧ x3 ≤ 4) (hx4 : 0 ≤ x4 ∧ x4 ≤ 3) (hx5 : 0 ≤ x5 ∧ x5 ≤ 1) : Mt (gG D cI cJ cZ cT lo b L xs) mX12_heard d 0 0 [.ref y, .int (iv x1), .int (iv x2), .int (iv x3), .int (iv x4), .int (iv x5)] hp n (pJ Γ n yes64) := by
  refine Mt.of rfl (Nat.le_of_ble_eq_true rfl) ?_
  refine Rn.pick (lv' := [(0, .ref y), (1, .int (iv x1)), (2, .int (iv x2)), (3, .int (iv x3)), (4, .int (iv x4)), (5, .int (iv x5))]) [0, 1, 2, 3, 4, 5] rfl ?_
  refine r_iconst (pc := 0) (v := iv 0) dX12_heard_0 (by decide) ?_
  refine r_istore (pc := 1) (lv' := [(6, .int (iv 0)), (0, .ref y), (1, .int (iv x1)), (2, .int (iv x2)), (3, .int (iv x3)), (4, .int (iv x4)), (5, .int (iv x5))]) dX12_heard_1 (by decide) rfl ?_
  refine r_lconst (pc := 3) (v := 0) dX12_heard_3 (by decide) ?_
  refine r_lstore (pc := 4) (lv' := [(7, .long (0 : Int64)), (6, .int (iv 0)), (0, .ref y), (1, .int (iv x1)), (2, .int (iv x2)), (3, .int (iv x3)), (4, .int (iv x4)), (5, .int (iv x5))]) dX12_heard_4 (by decide) rfl ?_
  refine r_iconst (pc := 6) (v := iv 0) dX12_heard_6 (by decide) ?_
  refine r_istore (pc := 7) (lv' := [(9, .int (iv 0)), (7, .long (0 : Int64)), (6, .int (iv 0)), (0, .ref y), (1, .int (iv x1)), (2, .int (iv x2)), (3, .int (iv x3)), (4, .int (iv x4)), (5, .int (iv x5))]) dX12_heard_7 (by decide) rfl ?_
  have B9 : ∀ k : Nat, ∀ hp9 : MH, Tw Γ hp9 → ∀  (v9_6 : Int) (v9_9 : Int) (w9_7 : Int64), 0 ≤ v9_6 ∧ v9_6 ≤ 1 ∧ 0 ≤ v9_9 ∧ v9_9 ≤ 60 → 60 - v9_9 ≤ (k : Int) → Rn (gG D cI cJ cZ cT lo b L xs) mX12_heard d 9 [(0, .ref y), (1, .int (iv x1)), (2, .int (iv x2)), (3, .int (iv x3)), (4, .int (iv x4)), (5, .int (iv x5)), (6, .int (iv v9_6)), (7, .long w9_7), (9, .int (iv v9_9))] [] hp9 n 0 0 (pJ Γ n yes64) := by
    refine lpS _ ?_
    intro k9 ih9 hp9 ht9 v9_6 v9_9 w9_7 hf9 hm9
    refine r_iload (pc := 9) dX12_heard_9 rfl ?_
    refine r_aload_n (pc := 11) dX12_heard_11 (i := 0) rfl rfl ?_
    refine t_getE (pc := 12) (.ref (y + 4)) ht9 hO fX12_20 dX12_heard_12 rfl ?_
    refine r_iload_n (pc := 15) dX12_heard_15 (i := 1) rfl rfl ?_
    refine t_ialdR (pc := 16) (t0 := 0) ht9 hA_many dX12_heard_16 rfl (by decide) (by omega) (fun y1 by1 => ?_)
    refine t_icmp_ge (pc := 17) (tgt := 138) dX12_heard_17 (by decide) (by omega) (by omega) (fun c17 => ?_) (fun c17 => ?_)
    · refine r_iload (pc := 138) dX12_heard_138 rfl ?_
      have B175 : ∀ hp175 : MH, Tw Γ hp175 → ∀  (x175_0 : Int64), True → Rn (gG D cI cJ cZ cT lo b L xs) mX12_heard d 175 [] [.long x175_0] hp175 n 0 0 (pJ Γ n yes64) := by
        intro hp175 ht175 x175_0 hf175
        exact r_lret (pc := 175) dX12_heard_175 rfl ⟨rfl, ht175, _, rfl, trivial⟩
      refine t_if_ne (pc := 140) (tgt := 152) dX12_heard_140 (by decide) (by omega) (fun c140 => ?_) (fun c140 => ?_)
      · refine r_iload (pc := 152) dX12_heard_152 rfl ?_
        refine t_if_eq (pc := 154) (tgt := 173) dX12_heard_154 (by decide) (by omega) (fun c154 => ?_) (fun c154 => ?_)
        · refine r_lload (pc := 173) dX12_heard_173 rfl ?_
          refine Rn.pick (lv' := []) [] rfl ?_
          exact B175 _ ht9 w9_7 trivial
        · refine r_iload (pc := 157) dX12_heard_157 rfl ?_
          refine r_lload (pc := 159) dX12_heard_159 rfl ?_
          refine r_aload_n (pc := 161) dX12_heard_161 (i := 0) rfl rfl ?_
          refine t_getE (pc := 162) (.ref (y + 21)) ht9 hO fX12_72 dX12_heard_162 rfl ?_
          refine r_iload_n (pc := 165) dX12_heard_165 (i := 2) rfl rfl ?_
          refine t_lald (pc := 166) (t0 := 1) ht9 hA_column dX12_heard_166 rfl (by decide) (by omega) (fun w2 _ => ?_)
          refine t_callSJ (pc := 167) (as := [.int (iv x4), .long w9_7, .long w2]) (st := []) kX12_248 dX12_heard_167 (t_X12_joined (d := d - 1) (x1 := x4) (j2 := w9_7) (j3 := w2) (by omega)  ht9 (by omega)) rfl (by omega) (Nat.le_of_ble_eq_true rfl) rfl (fun hp3 y5 ht4 _ => ?_)
          refine r_goto (pc := 170) (tgt := 175) dX12_heard_170 (by decide) ?_
          refine Rn.pick (lv' := []) [] rfl ?_
          exact B175 _ ht4 y5 trivial
      · refine r_aload_n (pc := 143) dX12_heard_143 (i := 0) rfl rfl ?_
        refine t_getE (pc := 144) (.ref (y + 21)) ht9 hO fX12_72 dX12_heard_144 rfl ?_
        refine r_iload_n (pc := 147) dX12_heard_147 (i := 2) rfl rfl ?_
        refine t_lald (pc := 148) (t0 := 1) ht9 hA_column dX12_heard_148 rfl (by decide) (by omega) (fun w6 _ => ?_)
        refine r_goto (pc := 149) (tgt := 175) dX12_heard_149 (by decide) ?_
        refine Rn.pick (lv' := []) [] rfl ?_
        exact B175 _ ht9 w6 trivial
    · refine r_iload_n (pc := 20) dX12_heard_20 (i := 1) rfl rfl ?_
      refine r_iload (pc := 21) dX12_heard_21 rfl ?_
      refine t_callSR (pc := 23) (as := [.int (iv x1), .int (iv v9_9)]) (st := []) kX12_157 dX12_heard_23 (t_X12_at1 (d := d - 1) (x1 := x1) (x2 := v9_9) (by omega)  ht9 (by omega) (by omega)) rfl (by omega) (Nat.le_of_ble_eq_true rfl) rfl (fun hp7 y9 ht8 by9 => ?_)
      refine r_istore (pc := 26) (lv' := [(10, .int (iv y9)), (0, .ref y), (1, .int (iv x1)), (2, .int (iv x2)), (3, .int (iv x3)), (4, .int (iv x4)), (5, .int (iv x5)), (6, .int (iv v9_6)), (7, .long w9_7), (9, .int (iv v9_9))]) dX12_heard_26 (by decide) rfl ?_
      refine r_aload_n (pc := 28) dX12_heard_28 (i := 0) rfl rfl ?_
      refine t_getE (pc := 29) (.ref (y + 6)) ht8 hO fX12_26 dX12_heard_29 rfl ?_
      refine r_iload (pc := 32) dX12_heard_32 rfl ?_
      refine t_ialdR (pc := 34) (t0 := 0) ht8 hA_to dX12_heard_34 rfl (by decide) (by omega) (fun y10 by10 => ?_)
      refine r_iload_n (pc := 35) dX12_heard_35 (i := 2) rfl rfl ?_
      have B80 : ∀ hp80 : MH, Tw Γ hp80 → ∀  (u80_0 : Int), (-1) ≤ u80_0 ∧ u80_0 ≤ 15 → Rn (gG D cI cJ cZ cT lo b L xs) mX12_heard d 80 [(0, .ref y), (1, .int (iv x1)), (2, .int (iv x2)), (3, .int (iv x3)), (4, .int (iv x4)), (5, .int (iv x5)), (6, .int (iv v9_6)), (7, .long w9_7), (9, .int (iv v9_9)), (10, .int (iv y9))] [.int (iv u80_0)] hp80 n 0 0 (pJ Γ n yes64) := by
        intro hp80 ht80 u80_0 hf80
        refine r_istore (pc := 80) (lv' := [(11, .int (iv u80_0)), (0, .ref y), (1, .int (iv x1)), (2, .int (iv x2)), (3, .int (iv x3)), (4, .int (iv x4)), (5, .int (iv x5)), (6, .int (iv v9_6)), (7, .long w9_7), (9, .int (iv v9_9)), (10, .int (iv y9))]) dX12_heard_80 (by decide) rfl ?_
        refine r_iload (pc := 82) dX12_heard_82 rfl ?_
        have B132 : ∀ hp132 : MH, Tw Γ hp132 → ∀  (v132_6 : Int) (w132_7 : Int64), 0 ≤ v132_6 ∧ v132_6 ≤ 1 → Rn (gG D cI cJ cZ cT lo b L xs) mX12_heard d 132 [(0, .ref y), (1, .int (iv x1)), (2, .int (iv x2)), (3, .int (iv x3)), (4, .int (iv x4)), (5, .int (iv x5)), (6, .int (iv v132_6)), (7, .long w132_7), (9, .int (iv v9_9))] [] hp132 n 0 0 (pJ Γ n yes64) := by
          intro hp132 ht132 v132_6 w132_7 hf132
          refine r_iinc (pc := 132) (v := iv (v9_9 + 1)) (lv' := [(9, .int (iv (v9_9 + 1))), (0, .ref y), (1, .int (iv x1)), (2, .int (iv x2)), (3, .int (iv x3)), (4, .int (iv x4)), (5, .int (iv x5)), (6, .int (iv v132_6)), (7, .long w132_7)]) dX12_heard_132 rfl (iv_add _ _) (by decide) rfl ?_
          refine r_goto (pc := 135) (tgt := 9) dX12_heard_135 (by decide) ?_
          refine Rn.pick (lv' := [(0, .ref y), (1, .int (iv x1)), (2, .int (iv x2)), (3, .int (iv x3)), (4, .int (iv x4)), (5, .int (iv x5)), (6, .int (iv v132_6)), (7, .long w132_7), (9, .int (iv (v9_9 + 1)))]) [1, 2, 3, 4, 5, 6, 7, 8, 0] rfl ?_
          exact ih9 (Int.toNat (60 - (v9_9 + 1))) (by omega) _ ht132 v132_6 (v9_9 + 1) w132_7 ⟨by omega, by omega, by omega, by omega⟩ (by omega)
        refine t_if_lt (pc := 84) (tgt := 132) dX12_heard_84 (by decide) (by omega) (fun c84 => ?_) (fun c84 => ?_)
        · refine Rn.pick (lv' := [(0, .ref y), (1, .int (iv x1)), (2, .int (iv x2)), (3, .int (iv x3)), (4, .int (iv x4)), (5, .int (iv x5)), (6, .int (iv v9_6)), (7, .long w9_7), (9, .int (iv v9_9))]) [1, 2, 3, 4, 5, 6, 7, 8, 9] rfl ?_
          exact B132 _ ht80 v9_6 w9_7 ⟨by omega, by omega⟩
        · refine r_iload_n (pc := 87) dX12_heard_87 (i := 3) rfl rfl ?_
          refine r_aload_n (pc := 88) dX12_heard_88 (i := 0) rfl rfl ?_
          refine t_getE (pc := 89) (.ref (y + 21)) ht80 hO fX12_72 dX12_heard_89 rfl ?_
          refine r_iload (pc := 92) dX12_heard_92 rfl ?_
          refine t_lald (pc := 94) (t0 := 1) ht80 hA_column dX12_heard_94 rfl (by decide) (by omega) (fun w11 _ => ?_)
          refine r_aload_n (pc := 95) dX12_heard_95 (i := 0) rfl rfl ?_
          refine t_getE (pc := 96) (.ref (y + 7)) ht80 hO fX12_29 dX12_heard_96 rfl ?_
          refine r_iload (pc := 99) dX12_heard_99 rfl ?_
          refine t_ialdR (pc := 101) (t0 := 0) ht80 hA_weight dX12_heard_101 rfl (by decide) (by omega) (fun y12 by12 => ?_)
          refine r_i2l (pc := 102) (v := (iv y12).toInt64) dX12_heard_102 rfl ?_
          refine t_callSJ (pc := 103) (as := [.int (iv x3), .long w11, .long ((iv y12).toInt64)]) (st := []) kX12_244 dX12_heard_103 (t_X12_message (d := d - 1) (x1 := x3) (j2 := w11) (j3 := (iv y12).toInt64) (by omega)  ht80 (by omega)) rfl (by omega) (Nat.le_of_ble_eq_true rfl) rfl (fun hp13 y15 ht14 _ => ?_)
          refine r_lstore (pc := 106) (lv' := [(12, .long y15), (11, .int (iv u80_0)), (0, .ref y), (1, .int (iv x1)), (2, .int (iv x2)), (3, .int (iv x3)), (4, .int (iv x4)), (5, .int (iv x5)), (6, .int (iv v9_6)), (7, .long w9_7), (9, .int (iv v9_9)), (10, .int (iv y9))]) dX12_heard_106 (by decide) rfl ?_
          refine r_iload (pc := 108) dX12_heard_108 rfl ?_
          have B127 : ∀ hp127 : MH, Tw Γ hp127 → ∀  (x127_0 : Int64), True → Rn (gG D cI cJ cZ cT lo b L xs) mX12_heard d 127 [(0, .ref y), (1, .int (iv x1)), (2, .int (iv x2)), (3, .int (iv x3)), (4, .int (iv x4)), (5, .int (iv x5)), (9, .int (iv v9_9))] [.long x127_0] hp127 n 0 0 (pJ Γ n yes64) := by
            intro hp127 ht127 x127_0 hf127
            refine r_lstore (pc := 127) (lv' := [(7, .long x127_0), (0, .ref y), (1, .int (iv x1)), (2, .int (iv x2)), (3, .int (iv x3)), (4, .int (iv x4)), (5, .int (iv x5)), (9, .int (iv v9_9))]) dX12_heard_127 (by decide) rfl ?_
            refine r_iconst (pc := 129) (v := iv 1) dX12_heard_129 (by decide) ?_
            refine r_istore (pc := 130) (lv' := [(6, .int (iv 1)), (7, .long x127_0), (0, .ref y), (1, .int (iv x1)), (2, .int (iv x2)), (3, .int (iv x3)), (4, .int (iv x4)), (5, .int (iv x5)), (9, .int (iv v9_9))]) dX12_heard_130 (by decide) rfl ?_
            refine Rn.pick (lv' := [(0, .ref y), (1, .int (iv x1)), (2, .int (iv x2)), (3, .int (iv x3)), (4, .int (iv x4)), (5, .int (iv x5)), (6, .int (iv 1)), (7, .long x127_0), (9, .int (iv v9_9))]) [2, 3, 4, 5, 6, 7, 0, 1, 8] rfl ?_
            exact B132 _ ht127 1 x127_0 ⟨by omega, by omega⟩
          refine t_if_eq (pc := 110) (tgt := 125) dX12_heard_110 (by decide) (by omega) (fun c110 => ?_) (fun c110 => ?_)
          · refine r_lload (pc := 125) dX12_heard_125 rfl ?_
            refine Rn.pick (lv' := [(0, .ref y), (1, .int (iv x1)), (2, .int (iv x2)), (3, .int (iv x3)), (4, .int (iv x4)), (5, .int (iv x5)), (9, .int (iv v9_9))]) [2, 3, 4, 5, 6, 7, 10] rfl ?_
            exact B127 _ ht14 y15 trivial
          · refine r_iload (pc := 113) dX12_heard_113 rfl ?_
            refine r_lload (pc := 115) dX12_heard_115 rfl ?_
            refine r_lload (pc := 117) dX12_heard_117 rfl ?_
            refine t_callSJ (pc := 119) (as := [.int (iv x4), .long w9_7, .long y15]) (st := []) kX12_248 dX12_heard_119 (t_X12_joined (d := d - 1) (x1 := x4) (j2 := w9_7) (j3 := y15) (by omega)  ht14 (by omega)) rfl (by omega) (Nat.le_of_ble_eq_true rfl) rfl (fun hp16 y18 ht17 _ => ?_)
            refine r_goto (pc := 122) (tgt := 127) dX12_heard_122 (by decide) ?_
            refine Rn.pick (lv' := [(0, .ref y), (1, .int (iv x1)), (2, .int (iv x2)), (3, .int (iv x3)), (4, .int (iv x4)), (5, .int (iv x5)), (9, .int (iv v9_9))]) [2, 3, 4, 5, 6, 7, 10] rfl ?_
            exact B127 _ ht17 y18 trivial
      refine t_icmp_ne (pc := 36) (tgt := 49) dX12_heard_36 (by decide) (by omega) (by omega) (fun c36 => ?_) (fun c36 => ?_)
      · refine r_aload_n (pc := 49) dX12_heard_49 (i := 0) rfl rfl ?_
        refine t_getE (pc := 50) (.ref (y + 3)) ht8 hO fX12_16 dX12_heard_50 rfl ?_
        refine r_iload_n (pc := 53) dX12_heard_53 (i := 1) rfl rfl ?_
        refine t_zaldR (pc := 54) (t0 := 2) ht8 hA_directs dX12_heard_54 rfl (by decide) (by omega) (fun y19 by19 => ?_)
        have B79 : ∀ hp79 : MH, Tw Γ hp79 → True → Rn (gG D cI cJ cZ cT lo b L xs) mX12_heard d 79 [(0, .ref y), (1, .int (iv x1)), (2, .int (iv x2)), (3, .int (iv x3)), (4, .int (iv x4)), (5, .int (iv x5)), (6, .int (iv v9_6)), (7, .long w9_7), (9, .int (iv v9_9)), (10, .int (iv y9))] [] hp79 n 0 0 (pJ Γ n yes64) := by
          intro hp79 ht79 hf79
          refine r_iconst (pc := 79) (v := iv (-1)) dX12_heard_79 (by decide) ?_
          refine Rn.pick (lv' := [(0, .ref y), (1, .int (iv x1)), (2, .int (iv x2)), (3, .int (iv x3)), (4, .int (iv x4)), (5, .int (iv x5)), (6, .int (iv v9_6)), (7, .long w9_7), (9, .int (iv v9_9)), (10, .int (iv y9))]) [0, 1, 2, 3, 4, 5, 6, 7, 8, 9] rfl ?_
          exact B80 _ ht79 (-1) ⟨by omega, by omega⟩
        refine t_if_ne (pc := 55) (tgt := 79) dX12_heard_55 (by decide) (by omega) (fun c55 => ?_) (fun c55 => ?_)
        · refine Rn.pick (lv' := [(0, .ref y), (1, .int (iv x1)), (2, .int (iv x2)), (3, .int (iv x3)), (4, .int (iv x4)), (5, .int (iv x5)), (6, .int (iv v9_6)), (7, .long w9_7), (9, .int (iv v9_9)), (10, .int (iv y9))]) [1, 2, 3, 4, 5, 6, 7, 8, 9, 0] rfl ?_
          exact B79 _ ht8 trivial
        · refine r_aload_n (pc := 58) dX12_heard_58 (i := 0) rfl rfl ?_
          refine t_getE (pc := 59) (.ref (y + 5)) ht8 hO fX12_23 dX12_heard_59 rfl ?_
          refine r_iload (pc := 62) dX12_heard_62 rfl ?_
          refine t_ialdR (pc := 64) (t0 := 0) ht8 hA_from dX12_heard_64 rfl (by decide) (by omega) (fun y20 by20 => ?_)
          refine r_iload_n (pc := 65) dX12_heard_65 (i := 2) rfl rfl ?_
          refine t_icmp_ne (pc := 66) (tgt := 79) dX12_heard_66 (by decide) (by omega) (by omega) (fun c66 => ?_) (fun c66 => ?_)
          · refine Rn.pick (lv' := [(0, .ref y), (1, .int (iv x1)), (2, .int (iv x2)), (3, .int (iv x3)), (4, .int (iv x4)), (5, .int (iv x5)), (6, .int (iv v9_6)), (7, .long w9_7), (9, .int (iv v9_9)), (10, .int (iv y9))]) [1, 2, 3, 4, 5, 6, 7, 8, 9, 0] rfl ?_
            exact B79 _ ht8 trivial
          · refine r_aload_n (pc := 69) dX12_heard_69 (i := 0) rfl rfl ?_
            refine t_getE (pc := 70) (.ref (y + 6)) ht8 hO fX12_26 dX12_heard_70 rfl ?_
            refine r_iload (pc := 73) dX12_heard_73 rfl ?_
            refine t_ialdR (pc := 75) (t0 := 0) ht8 hA_to dX12_heard_75 rfl (by decide) (by omega) (fun y21 by21 => ?_)
            refine r_goto (pc := 76) (tgt := 80) dX12_heard_76 (by decide) ?_
            refine Rn.pick (lv' := [(0, .ref y), (1, .int (iv x1)), (2, .int (iv x2)), (3, .int (iv x3)), (4, .int (iv x4)), (5, .int (iv x5)), (6, .int (iv v9_6)), (7, .long w9_7), (9, .int (iv v9_9)), (10, .int (iv y9))]) [1, 2, 3, 4, 5, 6, 7, 8, 9, 0] rfl ?_
            exact B80 _ ht8 y21 ⟨by omega, by omega⟩
      · refine r_aload_n (pc := 39) dX12_heard_39 (i := 0) rfl rfl ?_
        refine t_getE (pc := 40) (.ref (y + 5)) ht8 hO fX12_23 dX12_heard_40 rfl ?_
        refine r_iload (pc := 43) dX12_heard_43 rfl ?_
        refine t_ialdR (pc := 45) (t0 := 0) ht8 hA_from dX12_heard_45 rfl (by decide) (by omega) (fun y22 by22 => ?_)
        refine r_goto (pc := 46) (tgt := 80) dX12_heard_46 (by decide) ?_
        refine Rn.pick (lv' := [(0, .ref y), (1, .int (iv x1)), (2, .int (iv x2)), (3, .int (iv x3)), (4, .int (iv x4)), (5, .int (iv x5)), (6, .int (iv v9_6)), (7, .long w9_7), (9, .int (iv v9_9)), (10, .int (iv y9))]) [1, 2, 3, 4, 5, 6, 7, 8, 9, 0] rfl ?_
        exact B80 _ ht8 y22 ⟨by omega, by omega⟩
  refine Rn.pick (lv' := [(0, .ref y), (1, .int (iv x1)), (2, .int (iv x2)), (3, .int (iv x3)), (4, .int (iv x4)), (5, .int (iv x5)), (6, .int (iv 0)), (7, .long (0 : Int64)), (9, .int (iv 0))]) [3, 4, 5, 6, 7, 8, 2, 1, 0] rfl ?_
  exact B9 (Int.toNat (60 - 0)) _ ht 0 0 (0 : Int64) ⟨by omega, by omega, by omega, by omega⟩ (by omega)
set_option maxHeartbeats 4000000 in
set_option maxRecDepth 100000 in
theorem t_X12_goes {D : va_G} {cI cJ cZ cT : ClassId} {lo b L : Nat} {xs : Nat → Int32} {hp : MH} {n d : Nat} {Γ : TG} {y : Nat} {rf cnt nm : Int32} {x1 x2 x3 : Int} {j4 : Int64} (hd0 : 1 ≤ d) (hO : rd Γ y (tO 11 (mdF y rf cnt nm))) (hA_weight : rd Γ (y + 7) (tI cI 7260 (rg (-1000) 1000))) (ht : Tw Γ hp) (hx1 : 0 ≤ x1 ∧ x1 ≤ 120) (hx2 : 0 ≤ x2 ∧ x2 ≤ 59) (hx3 : 0 ≤ x3 ∧ x3 ≤ 2) : Mt (gG D cI cJ cZ cT lo b L xs) mX12_goes d 0 0 [.ref y, .int (iv x1), .int (iv x2), .int (iv x3), .long j4] hp n (pR Γ n 0 1) := by
  refine Mt.of rfl (Nat.le_of_ble_eq_true rfl) ?_
  refine Rn.pick (lv' := [(0, .ref y), (1, .int (iv x1)), (2, .int (iv x2)), (3, .int (iv x3)), (4, .long j4)]) [0, 1, 2, 3, 4] rfl ?_
  refine r_iload_n (pc := 0) dX12_goes_0 (i := 3) rfl rfl ?_
  refine r_iconst (pc := 1) (v := iv 2) dX12_goes_1 (by decide) ?_
  have B27 : ∀ hp27 : MH, Tw Γ hp27 → ∀  (u27_0 : Int), 0 ≤ u27_0 ∧ u27_0 ≤ 1 → Rn (gG D cI cJ cZ cT lo b L xs) mX12_goes d 27 [] [.int (iv u27_0)] hp27 n 0 0 (pR Γ n 0 1) := by
    intro hp27 ht27 u27_0 hf27
    exact r_zret (pc := 27) dX12_goes_27 rfl (iv_nar (by omega)) ⟨rfl, ht27, _, rfl, by omega, by omega⟩
  have B22 : ∀ hp22 : MH, Tw Γ hp22 → True → Rn (gG D cI cJ cZ cT lo b L xs) mX12_goes d 22 [] [] hp22 n 0 0 (pR Γ n 0 1) := by
    intro hp22 ht22 hf22
    refine r_iconst (pc := 22) (v := iv 1) dX12_goes_22 (by decide) ?_
    refine r_goto (pc := 23) (tgt := 27) dX12_goes_23 (by decide) ?_
    refine Rn.pick (lv' := []) [] rfl ?_
    exact B27 _ ht22 1 ⟨by omega, by omega⟩
  refine t_icmp_ne (pc := 2) (tgt := 22) dX12_goes_2 (by decide) (by omega) (by omega) (fun c2 => ?_) (fun c2 => ?_)
  · refine Rn.pick (lv' := []) [] rfl ?_
    exact B22 _ ht trivial
  · refine r_aload_n (pc := 5) dX12_goes_5 (i := 0) rfl rfl ?_
    refine t_getE (pc := 6) (.ref (y + 7)) ht hO fX12_29 dX12_goes_6 rfl ?_
    refine r_iload_n (pc := 9) dX12_goes_9 (i := 1) rfl rfl ?_
    refine r_iload_n (pc := 10) dX12_goes_10 (i := 2) rfl rfl ?_
    refine t_callSR (pc := 11) (as := [.int (iv x1), .int (iv x2)]) (st := [.ref (y + 7)]) kX12_157 dX12_goes_11 (t_X12_at1 (d := d - 1) (x1 := x1) (x2 := x2) (by omega)  ht (by omega) (by omega)) rfl (by omega) (Nat.le_of_ble_eq_true rfl) rfl (fun hp1 y3 ht2 by3 => ?_)
    refine t_ialdR (pc := 14) (t0 := 0) ht2 hA_weight dX12_goes_14 rfl (by decide) (by omega) (fun y4 by4 => ?_)
    refine r_i2l (pc := 15) (v := (iv y4).toInt64) dX12_goes_15 rfl ?_
    refine r_lload (pc := 16) dX12_goes_16 rfl ?_
    refine r_lcmp (pc := 18) dX12_goes_18 ?_
    refine r_if_lt (pc := 19) (tgt := 26) dX12_goes_19 (by decide) (fun c19 => ?_) (fun c19 => ?_)
    · refine r_iconst (pc := 26) (v := iv 0) dX12_goes_26 (by decide) ?_
      refine Rn.pick (lv' := []) [] rfl ?_
      exact B27 _ ht2 0 ⟨by omega, by omega⟩
    · refine Rn.pick (lv' := []) [] rfl ?_
      exact B22 _ ht2 trivial
set_option maxHeartbeats 4000000 in
set_option maxRecDepth 100000 in
theorem t_X12_into {D : va_G} {cI cJ cZ cT : ClassId} {lo b L : Nat} {xs : Nat → Int32} {hp : MH} {n d : Nat} {Γ : TG} {y : Nat} {rf cnt nm : Int32} {x1 x2 x3 : Int} (hd0 : 1 ≤ d) (hO : rd Γ y (tO 11 (mdF y rf cnt nm))) (hA_directs : rd Γ (y + 3) (tI cZ 121 (rg 0 1))) (hA_from : rd Γ (y + 5) (tI cI 7260 (rg 0 15))) (hA_to : rd Γ (y + 6) (tI cI 7260 (rg 0 15))) (ht : Tw Γ hp) (hx1 : 0 ≤ x1 ∧ x1 ≤ 120) (hx2 : 0 ≤ x2 ∧ x2 ≤ 59) (hx3 : 0 ≤ x3 ∧ x3 ≤ 15) : Mt (gG D cI cJ cZ cT lo b L xs) mX12_into d 0 0 [.ref y, .int (iv x1), .int (iv x2), .int (iv x3)] hp n (pR Γ n (-1) 15) := by
  refine Mt.of rfl (Nat.le_of_ble_eq_true rfl) ?_
  refine Rn.pick (lv' := [(0, .ref y), (1, .int (iv x1)), (2, .int (iv x2)), (3, .int (iv x3))]) [0, 1, 2, 3] rfl ?_
  refine r_iload_n (pc := 0) dX12_into_0 (i := 1) rfl rfl ?_
  refine r_iload_n (pc := 1) dX12_into_1 (i := 2) rfl rfl ?_
  refine t_callSR (pc := 2) (as := [.int (iv x1), .int (iv x2)]) (st := []) kX12_157 dX12_into_2 (t_X12_at1 (d := d - 1) (x1 := x1) (x2 := x2) (by omega)  ht (by omega) (by omega)) rfl (by omega) (Nat.le_of_ble_eq_true rfl) rfl (fun hp1 y3 ht2 by3 => ?_)
  refine r_istore (pc := 5) (lv' := [(4, .int (iv y3)), (0, .ref y), (1, .int (iv x1)), (2, .int (iv x2)), (3, .int (iv x3))]) dX12_into_5 (by decide) rfl ?_
  refine r_aload_n (pc := 7) dX12_into_7 (i := 0) rfl rfl ?_
  refine t_getE (pc := 8) (.ref (y + 6)) ht2 hO fX12_26 dX12_into_8 rfl ?_
  refine r_iload (pc := 11) dX12_into_11 rfl ?_
  refine t_ialdR (pc := 13) (t0 := 0) ht2 hA_to dX12_into_13 rfl (by decide) (by omega) (fun y4 by4 => ?_)
  refine r_iload_n (pc := 14) dX12_into_14 (i := 3) rfl rfl ?_
  have B59 : ∀ hp59 : MH, Tw Γ hp59 → ∀  (u59_0 : Int), (-1) ≤ u59_0 ∧ u59_0 ≤ 15 → Rn (gG D cI cJ cZ cT lo b L xs) mX12_into d 59 [] [.int (iv u59_0)] hp59 n 0 0 (pR Γ n (-1) 15) := by
    intro hp59 ht59 u59_0 hf59
    exact r_iret (pc := 59) dX12_into_59 rfl ⟨rfl, ht59, _, rfl, by omega, by omega⟩
  refine t_icmp_ne (pc := 15) (tgt := 28) dX12_into_15 (by decide) (by omega) (by omega) (fun c15 => ?_) (fun c15 => ?_)
  · refine r_aload_n (pc := 28) dX12_into_28 (i := 0) rfl rfl ?_
    refine t_getE (pc := 29) (.ref (y + 3)) ht2 hO fX12_16 dX12_into_29 rfl ?_
    refine r_iload_n (pc := 32) dX12_into_32 (i := 1) rfl rfl ?_
    refine t_zaldR (pc := 33) (t0 := 2) ht2 hA_directs dX12_into_33 rfl (by decide) (by omega) (fun y5 by5 => ?_)
    have B58 : ∀ hp58 : MH, Tw Γ hp58 → True → Rn (gG D cI cJ cZ cT lo b L xs) mX12_into d 58 [] [] hp58 n 0 0 (pR Γ n (-1) 15) := by
      intro hp58 ht58 hf58
      refine r_iconst (pc := 58) (v := iv (-1)) dX12_into_58 (by decide) ?_
      refine Rn.pick (lv' := []) [] rfl ?_
      exact B59 _ ht58 (-1) ⟨by omega, by omega⟩
    refine t_if_ne (pc := 34) (tgt := 58) dX12_into_34 (by decide) (by omega) (fun c34 => ?_) (fun c34 => ?_)
    · refine Rn.pick (lv' := []) [] rfl ?_
      exact B58 _ ht2 trivial
    · refine r_aload_n (pc := 37) dX12_into_37 (i := 0) rfl rfl ?_
      refine t_getE (pc := 38) (.ref (y + 5)) ht2 hO fX12_23 dX12_into_38 rfl ?_
      refine r_iload (pc := 41) dX12_into_41 rfl ?_
      refine t_ialdR (pc := 43) (t0 := 0) ht2 hA_from dX12_into_43 rfl (by decide) (by omega) (fun y6 by6 => ?_)
      refine r_iload_n (pc := 44) dX12_into_44 (i := 3) rfl rfl ?_
      refine t_icmp_ne (pc := 45) (tgt := 58) dX12_into_45 (by decide) (by omega) (by omega) (fun c45 => ?_) (fun c45 => ?_)
      · refine Rn.pick (lv' := []) [] rfl ?_
        exact B58 _ ht2 trivial
      · refine r_aload_n (pc := 48) dX12_into_48 (i := 0) rfl rfl ?_
        refine t_getE (pc := 49) (.ref (y + 6)) ht2 hO fX12_26 dX12_into_49 rfl ?_
        refine r_iload (pc := 52) dX12_into_52 rfl ?_
        refine t_ialdR (pc := 54) (t0 := 0) ht2 hA_to dX12_into_54 rfl (by decide) (by omega) (fun y7 by7 => ?_)
        refine r_goto (pc := 55) (tgt := 59) dX12_into_55 (by decide) ?_
        refine Rn.pick (lv' := []) [] rfl ?_
        exact B59 _ ht2 y7 ⟨by omega, by omega⟩
  · refine r_aload_n (pc := 18) dX12_into_18 (i := 0) rfl rfl ?_
    refine t_getE (pc := 19) (.ref (y + 5)) ht2 hO fX12_23 dX12_into_19 rfl ?_
    refine r_iload (pc := 22) dX12_into_22 rfl ?_
    refine t_ialdR (pc := 24) (t0 := 0) ht2 hA_from dX12_into_24 rfl (by decide) (by omega) (fun y8 by8 => ?_)
    refine r_goto (pc := 25) (tgt := 59) dX12_into_25 (by decide) ?_
    refine Rn.pick (lv' := []) [] rfl ?_
    exact B59 _ ht2 y8 ⟨by omega, by omega⟩
set_option maxHeartbeats 4000000 in
set_option maxRecDepth 100000 in
theorem t_X12_spread {D : va_G} {cI cJ cZ cT : ClassId} {lo b L : Nat} {xs : Nat → Int32} {hp : MH} {n d : Nat} {Γ : TG} {y : Nat} {rf cnt nm : Int32} {x1 x2 x3 x4 : Int} {j5 : Int64} (hd0 : 2 ≤ d) (hO : rd Γ y (tO 11 (mdF y rf cnt nm))) (hA_sizes : rd Γ (y + 2) (tI cI 121 (rg 0 16))) (hA_directs : rd Γ (y + 3) (tI cZ 121 (rg 0 1))) (hA_many : rd Γ (y + 4) (tI cI 121 (rg 0 60))) (hA_from : rd Γ (y + 5) (tI cI 7260 (rg 0 15))) (hA_to : rd Γ (y + 6) (tI cI 7260 (rg 0 15))) (hA_weight : rd Γ (y + 7) (tI cI 7260 (rg (-1000) 1000))) (hA_best : Γ (y + 27) = some (tJ cJ 272 anyJ)) (hA_ways1 : Γ (y + 28) = some (tJ cJ 272 anyJ)) (ht : Tw Γ hp) (hx1 : 0 ≤ x1 ∧ x1 ≤ 120) (hx2 : 0 ≤ x2 ∧ x2 ≤ 2) (hx3 : 0 ≤ x3 ∧ x3 ≤ 15) (hx4 : 0 ≤ x4 ∧ x4 ≤ 16) : Mt (gG D cI cJ cZ cT lo b L xs) mX12_spread d 0 0 [.ref y, .int (iv x1), .int (iv x2), .int (iv x3), .int (iv x4), .long j5] hp n (pV Γ n) := by
  refine Mt.of rfl (Nat.le_of_ble_eq_true rfl) ?_
  refine Rn.pick (lv' := [(0, .ref y), (1, .int (iv x1)), (2, .int (iv x2)), (3, .int (iv x3)), (4, .int (iv x4)), (5, .long j5)]) [0, 1, 2, 3, 4, 5] rfl ?_
  refine r_aload_n (pc := 0) dX12_spread_0 (i := 0) rfl rfl ?_
  refine t_getE (pc := 1) (.ref (y + 2)) ht hO fX12_13 dX12_spread_1 rfl ?_
  refine r_iload_n (pc := 4) dX12_spread_4 (i := 1) rfl rfl ?_
  refine t_ialdR (pc := 5) (t0 := 0) ht hA_sizes dX12_spread_5 rfl (by decide) (by omega) (fun y1 by1 => ?_)
  refine r_istore (pc := 6) (lv' := [(7, .int (iv y1)), (0, .ref y), (1, .int (iv x1)), (2, .int (iv x2)), (3, .int (iv x3)), (4, .int (iv x4)), (5, .long j5)]) dX12_spread_6 (by decide) rfl ?_
  refine r_iconst (pc := 8) (v := iv 0) dX12_spread_8 (by decide) ?_
  refine r_istore (pc := 9) (lv' := [(8, .int (iv 0)), (7, .int (iv y1)), (0, .ref y), (1, .int (iv x1)), (2, .int (iv x2)), (3, .int (iv x3)), (4, .int (iv x4)), (5, .long j5)]) dX12_spread_9 (by decide) rfl ?_
  have B11 : ∀ k : Nat, ∀ hp11 : MH, Tw Γ hp11 → ∀  (v11_8 : Int), 0 ≤ v11_8 ∧ v11_8 ≤ 17 → 17 - v11_8 ≤ (k : Int) → Rn (gG D cI cJ cZ cT lo b L xs) mX12_spread d 11 [(0, .ref y), (1, .int (iv x1)), (2, .int (iv x2)), (3, .int (iv x3)), (4, .int (iv x4)), (5, .long j5), (7, .int (iv y1)), (8, .int (iv v11_8))] [] hp11 n 0 0 (pV Γ n) := by
    refine lpS _ ?_
    intro k11 ih11 hp11 ht11 v11_8 hf11 hm11
    refine r_iload (pc := 11) dX12_spread_11 rfl ?_
    refine r_iload (pc := 13) dX12_spread_13 rfl ?_
    refine t_icmp_gt (pc := 15) (tgt := 269) dX12_spread_15 (by decide) (by omega) (by omega) (fun c15 => ?_) (fun c15 => ?_)
    · exact r_vret (pc := 269) dX12_spread_269 rfl ⟨rfl, ht11, rfl⟩
    · refine r_iconst (pc := 18) (v := iv 0) dX12_spread_18 (by decide) ?_
      refine r_istore (pc := 19) (lv' := [(9, .int (iv 0)), (0, .ref y), (1, .int (iv x1)), (2, .int (iv x2)), (3, .int (iv x3)), (4, .int (iv x4)), (5, .long j5), (7, .int (iv y1)), (8, .int (iv v11_8))]) dX12_spread_19 (by decide) rfl ?_
      have B21 : ∀ k : Nat, ∀ hp21 : MH, Tw Γ hp21 → ∀  (v21_9 : Int), 0 ≤ v21_9 ∧ v21_9 ≤ 16 → 16 - v21_9 ≤ (k : Int) → Rn (gG D cI cJ cZ cT lo b L xs) mX12_spread d 21 [(0, .ref y), (1, .int (iv x1)), (2, .int (iv x2)), (3, .int (iv x3)), (4, .int (iv x4)), (5, .long j5), (7, .int (iv y1)), (8, .int (iv v11_8)), (9, .int (iv v21_9))] [] hp21 n 0 0 (pV Γ n) := by
        refine lpS _ ?_
        intro k21 ih21 hp21 ht21 v21_9 hf21 hm21
        refine r_iload (pc := 21) dX12_spread_21 rfl ?_
        refine r_iload (pc := 23) dX12_spread_23 rfl ?_
        refine t_icmp_ge (pc := 25) (tgt := 263) dX12_spread_25 (by decide) (by omega) (by omega) (fun c25 => ?_) (fun c25 => ?_)
        · refine r_iinc (pc := 263) (v := iv (v11_8 + 1)) (lv' := [(8, .int (iv (v11_8 + 1))), (0, .ref y), (1, .int (iv x1)), (2, .int (iv x2)), (3, .int (iv x3)), (4, .int (iv x4)), (5, .long j5), (7, .int (iv y1)), (9, .int (iv v21_9))]) dX12_spread_263 rfl (iv_add _ _) (by decide) rfl ?_
          refine r_goto (pc := 266) (tgt := 11) dX12_spread_266 (by decide) ?_
          refine Rn.pick (lv' := [(0, .ref y), (1, .int (iv x1)), (2, .int (iv x2)), (3, .int (iv x3)), (4, .int (iv x4)), (5, .long j5), (7, .int (iv y1)), (8, .int (iv (v11_8 + 1)))]) [1, 2, 3, 4, 5, 6, 7, 0] rfl ?_
          exact ih11 (Int.toNat (17 - (v11_8 + 1))) (by omega) _ ht21 (v11_8 + 1) ⟨by omega, by omega⟩ (by omega)
        · refine r_iload (pc := 28) dX12_spread_28 rfl ?_
          have B46 : ∀ hp46 : MH, Tw Γ hp46 → ∀  (x46_0 : Int64), True → Rn (gG D cI cJ cZ cT lo b L xs) mX12_spread d 46 [(0, .ref y), (1, .int (iv x1)), (2, .int (iv x2)), (3, .int (iv x3)), (4, .int (iv x4)), (5, .long j5), (7, .int (iv y1)), (8, .int (iv v11_8)), (9, .int (iv v21_9))] [.long x46_0] hp46 n 0 0 (pV Γ n) := by
            intro hp46 ht46 x46_0 hf46
            refine r_lstore (pc := 46) (lv' := [(10, .long x46_0), (0, .ref y), (1, .int (iv x1)), (2, .int (iv x2)), (3, .int (iv x3)), (4, .int (iv x4)), (5, .long j5), (7, .int (iv y1)), (8, .int (iv v11_8)), (9, .int (iv v21_9))]) dX12_spread_46 (by decide) rfl ?_
            refine r_iload (pc := 48) dX12_spread_48 rfl ?_
            have B64 : ∀ hp64 : MH, Tw Γ hp64 → ∀  (x64_0 : Int64), True → Rn (gG D cI cJ cZ cT lo b L xs) mX12_spread d 64 [(0, .ref y), (1, .int (iv x1)), (2, .int (iv x2)), (3, .int (iv x3)), (4, .int (iv x4)), (5, .long j5), (7, .int (iv y1)), (8, .int (iv v11_8)), (9, .int (iv v21_9)), (10, .long x46_0)] [.long x64_0] hp64 n 0 0 (pV Γ n) := by
              intro hp64 ht64 x64_0 hf64
              refine r_lstore (pc := 64) (lv' := [(12, .long x64_0), (0, .ref y), (1, .int (iv x1)), (2, .int (iv x2)), (3, .int (iv x3)), (4, .int (iv x4)), (5, .long j5), (7, .int (iv y1)), (8, .int (iv v11_8)), (9, .int (iv v21_9)), (10, .long x46_0)]) dX12_spread_64 (by decide) rfl ?_
              refine r_iconst (pc := 66) (v := iv 0) dX12_spread_66 (by decide) ?_
              refine r_istore (pc := 67) (lv' := [(14, .int (iv 0)), (12, .long x64_0), (0, .ref y), (1, .int (iv x1)), (2, .int (iv x2)), (3, .int (iv x3)), (4, .int (iv x4)), (5, .long j5), (7, .int (iv y1)), (8, .int (iv v11_8)), (9, .int (iv v21_9)), (10, .long x46_0)]) dX12_spread_67 (by decide) rfl ?_
              have B69 : ∀ k : Nat, ∀ hp69 : MH, Tw Γ hp69 → ∀  (v69_14 : Int) (w69_10 : Int64) (w69_12 : Int64), 0 ≤ v69_14 ∧ v69_14 ≤ 60 → 60 - v69_14 ≤ (k : Int) → Rn (gG D cI cJ cZ cT lo b L xs) mX12_spread d 69 [(0, .ref y), (1, .int (iv x1)), (2, .int (iv x2)), (3, .int (iv x3)), (4, .int (iv x4)), (5, .long j5), (7, .int (iv y1)), (8, .int (iv v11_8)), (9, .int (iv v21_9)), (10, .long w69_10), (12, .long w69_12), (14, .int (iv v69_14))] [] hp69 n 0 0 (pV Γ n) := by
                refine lpS _ ?_
                intro k69 ih69 hp69 ht69 v69_14 w69_10 w69_12 hf69 hm69
                refine r_iload (pc := 69) dX12_spread_69 rfl ?_
                refine r_aload_n (pc := 71) dX12_spread_71 (i := 0) rfl rfl ?_
                refine t_getE (pc := 72) (.ref (y + 4)) ht69 hO fX12_20 dX12_spread_72 rfl ?_
                refine r_iload_n (pc := 75) dX12_spread_75 (i := 1) rfl rfl ?_
                refine t_ialdR (pc := 76) (t0 := 0) ht69 hA_many dX12_spread_76 rfl (by decide) (by omega) (fun y2 by2 => ?_)
                have B227 : ∀ hp227 : MH, Tw Γ hp227 → True → Rn (gG D cI cJ cZ cT lo b L xs) mX12_spread d 227 [(0, .ref y), (1, .int (iv x1)), (2, .int (iv x2)), (3, .int (iv x3)), (4, .int (iv x4)), (5, .long j5), (7, .int (iv y1)), (8, .int (iv v11_8)), (9, .int (iv v21_9)), (10, .long w69_10), (12, .long w69_12)] [] hp227 n 0 0 (pV Γ n) := by
                  intro hp227 ht227 hf227
                  refine r_aload_n (pc := 227) dX12_spread_227 (i := 0) rfl rfl ?_
                  refine t_getE (pc := 228) (.ref (y + 27)) ht227 hO fX12_91 dX12_spread_228 rfl ?_
                  refine r_bipush (pc := 231) (v := iv 16) dX12_spread_231 (by decide) ?_
                  refine r_iload (pc := 233) dX12_spread_233 rfl ?_
                  refine r_imul (pc := 235) (v := iv (16 * v11_8)) dX12_spread_235 (iv_mul _ _) ?_
                  refine r_iload (pc := 236) dX12_spread_236 rfl ?_
                  refine r_iadd (pc := 238) (v := iv ((16 * v11_8) + v21_9)) dX12_spread_238 (iv_add _ _) ?_
                  refine r_lload (pc := 239) dX12_spread_239 rfl ?_
                  refine t_last (pc := 241) (t0 := 1) ht227 hA_best dX12_spread_241 rfl (by decide) (by omega) trivial (fun hp3 ht4 => ?_)
                  refine r_aload_n (pc := 242) dX12_spread_242 (i := 0) rfl rfl ?_
                  refine t_getE (pc := 243) (.ref (y + 28)) ht4 hO fX12_94 dX12_spread_243 rfl ?_
                  refine r_bipush (pc := 246) (v := iv 16) dX12_spread_246 (by decide) ?_
                  refine r_iload (pc := 248) dX12_spread_248 rfl ?_
                  refine r_imul (pc := 250) (v := iv (16 * v11_8)) dX12_spread_250 (iv_mul _ _) ?_
                  refine r_iload (pc := 251) dX12_spread_251 rfl ?_
                  refine r_iadd (pc := 253) (v := iv ((16 * v11_8) + v21_9)) dX12_spread_253 (iv_add _ _) ?_
                  refine r_lload (pc := 254) dX12_spread_254 rfl ?_
                  refine t_last (pc := 256) (t0 := 1) ht4 hA_ways1 dX12_spread_256 rfl (by decide) (by omega) trivial (fun hp5 ht6 => ?_)
                  refine r_iinc (pc := 257) (v := iv (v21_9 + 1)) (lv' := [(9, .int (iv (v21_9 + 1))), (0, .ref y), (1, .int (iv x1)), (2, .int (iv x2)), (3, .int (iv x3)), (4, .int (iv x4)), (5, .long j5), (7, .int (iv y1)), (8, .int (iv v11_8)), (10, .long w69_10), (12, .long w69_12)]) dX12_spread_257 rfl (iv_add _ _) (by decide) rfl ?_
                  refine r_goto (pc := 260) (tgt := 21) dX12_spread_260 (by decide) ?_
                  refine Rn.pick (lv' := [(0, .ref y), (1, .int (iv x1)), (2, .int (iv x2)), (3, .int (iv x3)), (4, .int (iv x4)), (5, .long j5), (7, .int (iv y1)), (8, .int (iv v11_8)), (9, .int (iv (v21_9 + 1)))]) [1, 2, 3, 4, 5, 6, 7, 8, 0] rfl ?_
                  exact ih21 (Int.toNat (16 - (v21_9 + 1))) (by omega) _ ht6 (v21_9 + 1) ⟨by omega, by omega⟩ (by omega)
                refine t_icmp_ge (pc := 77) (tgt := 227) dX12_spread_77 (by decide) (by omega) (by omega) (fun c77 => ?_) (fun c77 => ?_)
                · refine Rn.pick (lv' := [(0, .ref y), (1, .int (iv x1)), (2, .int (iv x2)), (3, .int (iv x3)), (4, .int (iv x4)), (5, .long j5), (7, .int (iv y1)), (8, .int (iv v11_8)), (9, .int (iv v21_9)), (10, .long w69_10), (12, .long w69_12)]) [0, 1, 2, 3, 4, 5, 6, 7, 8, 9, 10] rfl ?_
                  exact B227 _ ht69 trivial
                · refine r_iload (pc := 80) dX12_spread_80 rfl ?_
                  refine t_if_le (pc := 82) (tgt := 227) dX12_spread_82 (by decide) (by omega) (fun c82 => ?_) (fun c82 => ?_)
                  · refine Rn.pick (lv' := [(0, .ref y), (1, .int (iv x1)), (2, .int (iv x2)), (3, .int (iv x3)), (4, .int (iv x4)), (5, .long j5), (7, .int (iv y1)), (8, .int (iv v11_8)), (9, .int (iv v21_9)), (10, .long w69_10), (12, .long w69_12)]) [0, 1, 2, 3, 4, 5, 6, 7, 8, 9, 10] rfl ?_
                    exact B227 _ ht69 trivial
                  · refine r_aload_n (pc := 85) dX12_spread_85 (i := 0) rfl rfl ?_
                    refine r_iload_n (pc := 86) dX12_spread_86 (i := 1) rfl rfl ?_
                    refine r_iload (pc := 87) dX12_spread_87 rfl ?_
                    refine r_iload (pc := 89) dX12_spread_89 rfl ?_
                    refine t_callVR (pc := 91) (as := [.int (iv x1), .int (iv v69_14), .int (iv v21_9)]) (st := []) ht69 hO kX12_253 rfl dX12_spread_91 (t_X12_into (d := d - 1) (x1 := x1) (x2 := v69_14) (x3 := v21_9) (by omega) hO hA_directs hA_from hA_to ht69 (by omega) (by omega) (by omega)) rfl (by omega) (Nat.le_of_ble_eq_true rfl) rfl (fun hp7 y9 ht8 by9 => ?_)
                    refine r_istore (pc := 94) (lv' := [(15, .int (iv y9)), (0, .ref y), (1, .int (iv x1)), (2, .int (iv x2)), (3, .int (iv x3)), (4, .int (iv x4)), (5, .long j5), (7, .int (iv y1)), (8, .int (iv v11_8)), (9, .int (iv v21_9)), (10, .long w69_10), (12, .long w69_12), (14, .int (iv v69_14))]) dX12_spread_94 (by decide) rfl ?_
                    refine r_iload (pc := 96) dX12_spread_96 rfl ?_
                    have B221 : ∀ hp221 : MH, Tw Γ hp221 → ∀  (w221_10 : Int64) (w221_12 : Int64), True → Rn (gG D cI cJ cZ cT lo b L xs) mX12_spread d 221 [(0, .ref y), (1, .int (iv x1)), (2, .int (iv x2)), (3, .int (iv x3)), (4, .int (iv x4)), (5, .long j5), (7, .int (iv y1)), (8, .int (iv v11_8)), (9, .int (iv v21_9)), (10, .long w221_10), (12, .long w221_12), (14, .int (iv v69_14))] [] hp221 n 0 0 (pV Γ n) := by
                      intro hp221 ht221 w221_10 w221_12 hf221
                      refine r_iinc (pc := 221) (v := iv (v69_14 + 1)) (lv' := [(14, .int (iv (v69_14 + 1))), (0, .ref y), (1, .int (iv x1)), (2, .int (iv x2)), (3, .int (iv x3)), (4, .int (iv x4)), (5, .long j5), (7, .int (iv y1)), (8, .int (iv v11_8)), (9, .int (iv v21_9)), (10, .long w221_10), (12, .long w221_12)]) dX12_spread_221 rfl (iv_add _ _) (by decide) rfl ?_
                      refine r_goto (pc := 224) (tgt := 69) dX12_spread_224 (by decide) ?_
                      refine Rn.pick (lv' := [(0, .ref y), (1, .int (iv x1)), (2, .int (iv x2)), (3, .int (iv x3)), (4, .int (iv x4)), (5, .long j5), (7, .int (iv y1)), (8, .int (iv v11_8)), (9, .int (iv v21_9)), (10, .long w221_10), (12, .long w221_12), (14, .int (iv (v69_14 + 1)))]) [1, 2, 3, 4, 5, 6, 7, 8, 9, 10, 11, 0] rfl ?_
                      exact ih69 (Int.toNat (60 - (v69_14 + 1))) (by omega) _ ht221 (v69_14 + 1) w221_10 w221_12 ⟨by omega, by omega⟩ (by omega)
                    refine t_if_lt (pc := 98) (tgt := 221) dX12_spread_98 (by decide) (by omega) (fun c98 => ?_) (fun c98 => ?_)
                    · refine Rn.pick (lv' := [(0, .ref y), (1, .int (iv x1)), (2, .int (iv x2)), (3, .int (iv x3)), (4, .int (iv x4)), (5, .long j5), (7, .int (iv y1)), (8, .int (iv v11_8)), (9, .int (iv v21_9)), (10, .long w69_10), (12, .long w69_12), (14, .int (iv v69_14))]) [1, 2, 3, 4, 5, 6, 7, 8, 9, 10, 11, 12] rfl ?_
                      exact B221 _ ht8 w69_10 w69_12 trivial
                    · refine r_aload_n (pc := 101) dX12_spread_101 (i := 0) rfl rfl ?_
                      refine r_iload_n (pc := 102) dX12_spread_102 (i := 1) rfl rfl ?_
                      refine r_iload (pc := 103) dX12_spread_103 rfl ?_
                      refine r_iload_n (pc := 105) dX12_spread_105 (i := 2) rfl rfl ?_
                      refine r_lload (pc := 106) dX12_spread_106 rfl ?_
                      refine t_callVR (pc := 108) (as := [.int (iv x1), .int (iv v69_14), .int (iv x2), .long j5]) (st := []) ht8 hO kX12_256 rfl dX12_spread_108 (t_X12_goes (d := d - 1) (x1 := x1) (x2 := v69_14) (x3 := x2) (j4 := j5) (by omega) hO hA_weight ht8 (by omega) (by omega) (by omega)) rfl (by omega) (Nat.le_of_ble_eq_true rfl) rfl (fun hp10 y12 ht11 by12 => ?_)
                      refine t_if_eq (pc := 111) (tgt := 221) dX12_spread_111 (by decide) (by omega) (fun c111 => ?_) (fun c111 => ?_)
                      · refine Rn.pick (lv' := [(0, .ref y), (1, .int (iv x1)), (2, .int (iv x2)), (3, .int (iv x3)), (4, .int (iv x4)), (5, .long j5), (7, .int (iv y1)), (8, .int (iv v11_8)), (9, .int (iv v21_9)), (10, .long w69_10), (12, .long w69_12), (14, .int (iv v69_14))]) [1, 2, 3, 4, 5, 6, 7, 8, 9, 10, 11, 12] rfl ?_
                        exact B221 _ ht11 w69_10 w69_12 trivial
                      · refine r_aload_n (pc := 114) dX12_spread_114 (i := 0) rfl rfl ?_
                        refine t_getE (pc := 115) (.ref (y + 27)) ht11 hO fX12_91 dX12_spread_115 rfl ?_
                        refine r_bipush (pc := 118) (v := iv 16) dX12_spread_118 (by decide) ?_
                        refine r_iload (pc := 120) dX12_spread_120 rfl ?_
                        refine r_iconst (pc := 122) (v := iv 1) dX12_spread_122 (by decide) ?_
                        refine r_isub (pc := 123) (v := iv (v11_8 - 1)) dX12_spread_123 (iv_sub _ _) ?_
                        refine r_imul (pc := 124) (v := iv (16 * (v11_8 - 1))) dX12_spread_124 (iv_mul _ _) ?_
                        refine r_iload (pc := 125) dX12_spread_125 rfl ?_
                        refine r_iadd (pc := 127) (v := iv ((16 * (v11_8 - 1)) + y9)) dX12_spread_127 (iv_add _ _) ?_
                        refine t_lald (pc := 128) (t0 := 1) ht11 (rd_of hA_best) dX12_spread_128 rfl (by decide) (by omega) (fun w13 _ => ?_)
                        refine r_ldc2 (pc := 129) (v := 1000000000000) dX12_spread_129 kX12_251 ?_
                        refine r_lcmp (pc := 132) dX12_spread_132 ?_
                        refine r_if_ge (pc := 133) (tgt := 221) dX12_spread_133 (by decide) (fun c133 => ?_) (fun c133 => ?_)
                        · refine Rn.pick (lv' := [(0, .ref y), (1, .int (iv x1)), (2, .int (iv x2)), (3, .int (iv x3)), (4, .int (iv x4)), (5, .long j5), (7, .int (iv y1)), (8, .int (iv v11_8)), (9, .int (iv v21_9)), (10, .long w69_10), (12, .long w69_12), (14, .int (iv v69_14))]) [1, 2, 3, 4, 5, 6, 7, 8, 9, 10, 11, 12] rfl ?_
                          exact B221 _ ht11 w69_10 w69_12 trivial
                        · refine r_aload_n (pc := 136) dX12_spread_136 (i := 0) rfl rfl ?_
                          refine t_getE (pc := 137) (.ref (y + 27)) ht11 hO fX12_91 dX12_spread_137 rfl ?_
                          refine r_bipush (pc := 140) (v := iv 16) dX12_spread_140 (by decide) ?_
                          refine r_iload (pc := 142) dX12_spread_142 rfl ?_
                          refine r_iconst (pc := 144) (v := iv 1) dX12_spread_144 (by decide) ?_
                          refine r_isub (pc := 145) (v := iv (v11_8 - 1)) dX12_spread_145 (iv_sub _ _) ?_
                          refine r_imul (pc := 146) (v := iv (16 * (v11_8 - 1))) dX12_spread_146 (iv_mul _ _) ?_
                          refine r_iload (pc := 147) dX12_spread_147 rfl ?_
                          refine r_iadd (pc := 149) (v := iv ((16 * (v11_8 - 1)) + y9)) dX12_spread_149 (iv_add _ _) ?_
                          refine t_lald (pc := 150) (t0 := 1) ht11 (rd_of hA_best) dX12_spread_150 rfl (by decide) (by omega) (fun w14 _ => ?_)
                          refine r_iload_n (pc := 151) dX12_spread_151 (i := 2) rfl rfl ?_
                          have B170 : ∀ hp170 : MH, Tw Γ hp170 → ∀  (u170_1 : Int), (-1000) ≤ u170_1 ∧ u170_1 ≤ 1000 → Rn (gG D cI cJ cZ cT lo b L xs) mX12_spread d 170 [(0, .ref y), (1, .int (iv x1)), (2, .int (iv x2)), (3, .int (iv x3)), (4, .int (iv x4)), (5, .long j5), (7, .int (iv y1)), (8, .int (iv v11_8)), (9, .int (iv v21_9)), (10, .long w69_10), (12, .long w69_12), (14, .int (iv v69_14)), (15, .int (iv y9))] [.int (iv u170_1), .long w14] hp170 n 0 0 (pV Γ n) := by
                            intro hp170 ht170 u170_1 hf170
                            refine r_i2l (pc := 170) (v := (iv u170_1).toInt64) dX12_spread_170 rfl ?_
                            refine r_ladd (pc := 171) (v := w14 + ((iv u170_1).toInt64)) dX12_spread_171 rfl ?_
                            refine r_lstore (pc := 172) (lv' := [(16, .long (w14 + ((iv u170_1).toInt64))), (0, .ref y), (1, .int (iv x1)), (2, .int (iv x2)), (3, .int (iv x3)), (4, .int (iv x4)), (5, .long j5), (7, .int (iv y1)), (8, .int (iv v11_8)), (9, .int (iv v21_9)), (10, .long w69_10), (12, .long w69_12), (14, .int (iv v69_14)), (15, .int (iv y9))]) dX12_spread_172 (by decide) rfl ?_
                            refine r_lload (pc := 174) dX12_spread_174 rfl ?_
                            refine r_lload (pc := 176) dX12_spread_176 rfl ?_
                            refine r_lcmp (pc := 178) dX12_spread_178 ?_
                            have B189 : ∀ hp189 : MH, Tw Γ hp189 → ∀  (w189_10 : Int64) (w189_12 : Int64), True → Rn (gG D cI cJ cZ cT lo b L xs) mX12_spread d 189 [(0, .ref y), (1, .int (iv x1)), (2, .int (iv x2)), (3, .int (iv x3)), (4, .int (iv x4)), (5, .long j5), (7, .int (iv y1)), (8, .int (iv v11_8)), (9, .int (iv v21_9)), (10, .long w189_10), (12, .long w189_12), (14, .int (iv v69_14)), (15, .int (iv y9)), (16, .long (w14 + ((iv u170_1).toInt64)))] [] hp189 n 0 0 (pV Γ n) := by
                              intro hp189 ht189 w189_10 w189_12 hf189
                              refine r_lload (pc := 189) dX12_spread_189 rfl ?_
                              refine r_lload (pc := 191) dX12_spread_191 rfl ?_
                              refine r_lload (pc := 193) dX12_spread_193 rfl ?_
                              refine r_lcmp (pc := 195) dX12_spread_195 ?_
                              have B218 : ∀ hp218 : MH, Tw Γ hp218 → ∀  (x218_1 : Int64), True → Rn (gG D cI cJ cZ cT lo b L xs) mX12_spread d 218 [(0, .ref y), (1, .int (iv x1)), (2, .int (iv x2)), (3, .int (iv x3)), (4, .int (iv x4)), (5, .long j5), (7, .int (iv y1)), (8, .int (iv v11_8)), (9, .int (iv v21_9)), (10, .long w189_10), (14, .int (iv v69_14))] [.long x218_1, .long w189_12] hp218 n 0 0 (pV Γ n) := by
                                intro hp218 ht218 x218_1 hf218
                                refine r_ladd (pc := 218) (v := w189_12 + x218_1) dX12_spread_218 rfl ?_
                                refine r_lstore (pc := 219) (lv' := [(12, .long (w189_12 + x218_1)), (0, .ref y), (1, .int (iv x1)), (2, .int (iv x2)), (3, .int (iv x3)), (4, .int (iv x4)), (5, .long j5), (7, .int (iv y1)), (8, .int (iv v11_8)), (9, .int (iv v21_9)), (10, .long w189_10), (14, .int (iv v69_14))]) dX12_spread_219 (by decide) rfl ?_
                                refine Rn.pick (lv' := [(0, .ref y), (1, .int (iv x1)), (2, .int (iv x2)), (3, .int (iv x3)), (4, .int (iv x4)), (5, .long j5), (7, .int (iv y1)), (8, .int (iv v11_8)), (9, .int (iv v21_9)), (10, .long w189_10), (12, .long (w189_12 + x218_1)), (14, .int (iv v69_14))]) [1, 2, 3, 4, 5, 6, 7, 8, 9, 10, 0, 11] rfl ?_
                                exact B221 _ ht218 w189_10 (w189_12 + x218_1) trivial
                              refine r_if_ne (pc := 196) (tgt := 217) dX12_spread_196 (by decide) (fun c196 => ?_) (fun c196 => ?_)
                              · refine r_lconst (pc := 217) (v := 0) dX12_spread_217 (by decide) ?_
                                refine Rn.pick (lv' := [(0, .ref y), (1, .int (iv x1)), (2, .int (iv x2)), (3, .int (iv x3)), (4, .int (iv x4)), (5, .long j5), (7, .int (iv y1)), (8, .int (iv v11_8)), (9, .int (iv v21_9)), (10, .long w189_10), (14, .int (iv v69_14))]) [0, 1, 2, 3, 4, 5, 6, 7, 8, 9, 11] rfl ?_
                                exact B218 _ ht189 (0 : Int64) trivial
                              · refine r_aload_n (pc := 199) dX12_spread_199 (i := 0) rfl rfl ?_
                                refine t_getE (pc := 200) (.ref (y + 28)) ht189 hO fX12_94 dX12_spread_200 rfl ?_
                                refine r_bipush (pc := 203) (v := iv 16) dX12_spread_203 (by decide) ?_
                                refine r_iload (pc := 205) dX12_spread_205 rfl ?_
                                refine r_iconst (pc := 207) (v := iv 1) dX12_spread_207 (by decide) ?_
                                refine r_isub (pc := 208) (v := iv (v11_8 - 1)) dX12_spread_208 (iv_sub _ _) ?_
                                refine r_imul (pc := 209) (v := iv (16 * (v11_8 - 1))) dX12_spread_209 (iv_mul _ _) ?_
                                refine r_iload (pc := 210) dX12_spread_210 rfl ?_
                                refine r_iadd (pc := 212) (v := iv ((16 * (v11_8 - 1)) + y9)) dX12_spread_212 (iv_add _ _) ?_
                                refine t_lald (pc := 213) (t0 := 1) ht189 (rd_of hA_ways1) dX12_spread_213 rfl (by decide) (by omega) (fun w15 _ => ?_)
                                refine r_goto (pc := 214) (tgt := 218) dX12_spread_214 (by decide) ?_
                                refine Rn.pick (lv' := [(0, .ref y), (1, .int (iv x1)), (2, .int (iv x2)), (3, .int (iv x3)), (4, .int (iv x4)), (5, .long j5), (7, .int (iv y1)), (8, .int (iv v11_8)), (9, .int (iv v21_9)), (10, .long w189_10), (14, .int (iv v69_14))]) [0, 1, 2, 3, 4, 5, 6, 7, 8, 9, 11] rfl ?_
                                exact B218 _ ht189 w15 trivial
                            refine r_if_ge (pc := 179) (tgt := 189) dX12_spread_179 (by decide) (fun c179 => ?_) (fun c179 => ?_)
                            · refine Rn.pick (lv' := [(0, .ref y), (1, .int (iv x1)), (2, .int (iv x2)), (3, .int (iv x3)), (4, .int (iv x4)), (5, .long j5), (7, .int (iv y1)), (8, .int (iv v11_8)), (9, .int (iv v21_9)), (10, .long w69_10), (12, .long w69_12), (14, .int (iv v69_14)), (15, .int (iv y9)), (16, .long (w14 + ((iv u170_1).toInt64)))]) [1, 2, 3, 4, 5, 6, 7, 8, 9, 10, 11, 12, 13, 0] rfl ?_
                              exact B189 _ ht170 w69_10 w69_12 trivial
                            · refine r_lload (pc := 182) dX12_spread_182 rfl ?_
                              refine r_lstore (pc := 184) (lv' := [(10, .long (w14 + ((iv u170_1).toInt64))), (16, .long (w14 + ((iv u170_1).toInt64))), (0, .ref y), (1, .int (iv x1)), (2, .int (iv x2)), (3, .int (iv x3)), (4, .int (iv x4)), (5, .long j5), (7, .int (iv y1)), (8, .int (iv v11_8)), (9, .int (iv v21_9)), (12, .long w69_12), (14, .int (iv v69_14)), (15, .int (iv y9))]) dX12_spread_184 (by decide) rfl ?_
                              refine r_lconst (pc := 186) (v := 0) dX12_spread_186 (by decide) ?_
                              refine r_lstore (pc := 187) (lv' := [(12, .long (0 : Int64)), (10, .long (w14 + ((iv u170_1).toInt64))), (16, .long (w14 + ((iv u170_1).toInt64))), (0, .ref y), (1, .int (iv x1)), (2, .int (iv x2)), (3, .int (iv x3)), (4, .int (iv x4)), (5, .long j5), (7, .int (iv y1)), (8, .int (iv v11_8)), (9, .int (iv v21_9)), (14, .int (iv v69_14)), (15, .int (iv y9))]) dX12_spread_187 (by decide) rfl ?_
                              refine Rn.pick (lv' := [(0, .ref y), (1, .int (iv x1)), (2, .int (iv x2)), (3, .int (iv x3)), (4, .int (iv x4)), (5, .long j5), (7, .int (iv y1)), (8, .int (iv v11_8)), (9, .int (iv v21_9)), (10, .long (w14 + ((iv u170_1).toInt64))), (12, .long (0 : Int64)), (14, .int (iv v69_14)), (15, .int (iv y9)), (16, .long (w14 + ((iv u170_1).toInt64)))]) [3, 4, 5, 6, 7, 8, 9, 10, 11, 1, 0, 12, 13, 2] rfl ?_
                              exact B189 _ ht170 (w14 + ((iv u170_1).toInt64)) (0 : Int64) trivial
                          refine t_if_ne (pc := 152) (tgt := 169) dX12_spread_152 (by decide) (by omega) (fun c152 => ?_) (fun c152 => ?_)
                          · refine r_iconst (pc := 169) (v := iv 0) dX12_spread_169 (by decide) ?_
                            refine Rn.pick (lv' := [(0, .ref y), (1, .int (iv x1)), (2, .int (iv x2)), (3, .int (iv x3)), (4, .int (iv x4)), (5, .long j5), (7, .int (iv y1)), (8, .int (iv v11_8)), (9, .int (iv v21_9)), (10, .long w69_10), (12, .long w69_12), (14, .int (iv v69_14)), (15, .int (iv y9))]) [1, 2, 3, 4, 5, 6, 7, 8, 9, 10, 11, 12, 0] rfl ?_
                            exact B170 _ ht11 0 ⟨by omega, by omega⟩
                          · refine r_aload_n (pc := 155) dX12_spread_155 (i := 0) rfl rfl ?_
                            refine t_getE (pc := 156) (.ref (y + 7)) ht11 hO fX12_29 dX12_spread_156 rfl ?_
                            refine r_iload_n (pc := 159) dX12_spread_159 (i := 1) rfl rfl ?_
                            refine r_iload (pc := 160) dX12_spread_160 rfl ?_
                            refine t_callSR (pc := 162) (as := [.int (iv x1), .int (iv v69_14)]) (st := [.ref (y + 7), .long w14]) kX12_157 dX12_spread_162 (t_X12_at1 (d := d - 1) (x1 := x1) (x2 := v69_14) (by omega)  ht11 (by omega) (by omega)) rfl (by omega) (Nat.le_of_ble_eq_true rfl) rfl (fun hp16 y18 ht17 by18 => ?_)
                            refine t_ialdR (pc := 165) (t0 := 0) ht17 hA_weight dX12_spread_165 rfl (by decide) (by omega) (fun y19 by19 => ?_)
                            refine r_goto (pc := 166) (tgt := 170) dX12_spread_166 (by decide) ?_
                            refine Rn.pick (lv' := [(0, .ref y), (1, .int (iv x1)), (2, .int (iv x2)), (3, .int (iv x3)), (4, .int (iv x4)), (5, .long j5), (7, .int (iv y1)), (8, .int (iv v11_8)), (9, .int (iv v21_9)), (10, .long w69_10), (12, .long w69_12), (14, .int (iv v69_14)), (15, .int (iv y9))]) [1, 2, 3, 4, 5, 6, 7, 8, 9, 10, 11, 12, 0] rfl ?_
                            exact B170 _ ht17 y19 ⟨by omega, by omega⟩
              refine Rn.pick (lv' := [(0, .ref y), (1, .int (iv x1)), (2, .int (iv x2)), (3, .int (iv x3)), (4, .int (iv x4)), (5, .long j5), (7, .int (iv y1)), (8, .int (iv v11_8)), (9, .int (iv v21_9)), (10, .long x46_0), (12, .long x64_0), (14, .int (iv 0))]) [2, 3, 4, 5, 6, 7, 8, 9, 10, 11, 1, 0] rfl ?_
              exact B69 (Int.toNat (60 - 0)) _ ht64 0 x46_0 x64_0 ⟨by omega, by omega⟩ (by omega)
            have B63 : ∀ hp63 : MH, Tw Γ hp63 → True → Rn (gG D cI cJ cZ cT lo b L xs) mX12_spread d 63 [(0, .ref y), (1, .int (iv x1)), (2, .int (iv x2)), (3, .int (iv x3)), (4, .int (iv x4)), (5, .long j5), (7, .int (iv y1)), (8, .int (iv v11_8)), (9, .int (iv v21_9)), (10, .long x46_0)] [] hp63 n 0 0 (pV Γ n) := by
              intro hp63 ht63 hf63
              refine r_lconst (pc := 63) (v := 0) dX12_spread_63 (by decide) ?_
              refine Rn.pick (lv' := [(0, .ref y), (1, .int (iv x1)), (2, .int (iv x2)), (3, .int (iv x3)), (4, .int (iv x4)), (5, .long j5), (7, .int (iv y1)), (8, .int (iv v11_8)), (9, .int (iv v21_9)), (10, .long x46_0)]) [0, 1, 2, 3, 4, 5, 6, 7, 8, 9] rfl ?_
              exact B64 _ ht63 (0 : Int64) trivial
            refine t_if_ne (pc := 50) (tgt := 63) dX12_spread_50 (by decide) (by omega) (fun c50 => ?_) (fun c50 => ?_)
            · refine Rn.pick (lv' := [(0, .ref y), (1, .int (iv x1)), (2, .int (iv x2)), (3, .int (iv x3)), (4, .int (iv x4)), (5, .long j5), (7, .int (iv y1)), (8, .int (iv v11_8)), (9, .int (iv v21_9)), (10, .long x46_0)]) [1, 2, 3, 4, 5, 6, 7, 8, 9, 0] rfl ?_
              exact B63 _ ht46 trivial
            · refine r_iload (pc := 53) dX12_spread_53 rfl ?_
              refine r_iload_n (pc := 55) dX12_spread_55 (i := 3) rfl rfl ?_
              refine t_icmp_ne (pc := 56) (tgt := 63) dX12_spread_56 (by decide) (by omega) (by omega) (fun c56 => ?_) (fun c56 => ?_)
              · refine Rn.pick (lv' := [(0, .ref y), (1, .int (iv x1)), (2, .int (iv x2)), (3, .int (iv x3)), (4, .int (iv x4)), (5, .long j5), (7, .int (iv y1)), (8, .int (iv v11_8)), (9, .int (iv v21_9)), (10, .long x46_0)]) [1, 2, 3, 4, 5, 6, 7, 8, 9, 0] rfl ?_
                exact B63 _ ht46 trivial
              · refine r_lconst (pc := 59) (v := 1) dX12_spread_59 (by decide) ?_
                refine r_goto (pc := 60) (tgt := 64) dX12_spread_60 (by decide) ?_
                refine Rn.pick (lv' := [(0, .ref y), (1, .int (iv x1)), (2, .int (iv x2)), (3, .int (iv x3)), (4, .int (iv x4)), (5, .long j5), (7, .int (iv y1)), (8, .int (iv v11_8)), (9, .int (iv v21_9)), (10, .long x46_0)]) [1, 2, 3, 4, 5, 6, 7, 8, 9, 0] rfl ?_
                exact B64 _ ht46 (1 : Int64) trivial
          have B43 : ∀ hp43 : MH, Tw Γ hp43 → True → Rn (gG D cI cJ cZ cT lo b L xs) mX12_spread d 43 [(0, .ref y), (1, .int (iv x1)), (2, .int (iv x2)), (3, .int (iv x3)), (4, .int (iv x4)), (5, .long j5), (7, .int (iv y1)), (8, .int (iv v11_8)), (9, .int (iv v21_9))] [] hp43 n 0 0 (pV Γ n) := by
            intro hp43 ht43 hf43
            refine r_ldc2 (pc := 43) (v := 1000000000000) dX12_spread_43 kX12_251 ?_
            refine Rn.pick (lv' := [(0, .ref y), (1, .int (iv x1)), (2, .int (iv x2)), (3, .int (iv x3)), (4, .int (iv x4)), (5, .long j5), (7, .int (iv y1)), (8, .int (iv v11_8)), (9, .int (iv v21_9))]) [0, 1, 2, 3, 4, 5, 6, 7, 8] rfl ?_
            exact B46 _ ht43 (1000000000000 : Int64) trivial
          refine t_if_ne (pc := 30) (tgt := 43) dX12_spread_30 (by decide) (by omega) (fun c30 => ?_) (fun c30 => ?_)
          · refine Rn.pick (lv' := [(0, .ref y), (1, .int (iv x1)), (2, .int (iv x2)), (3, .int (iv x3)), (4, .int (iv x4)), (5, .long j5), (7, .int (iv y1)), (8, .int (iv v11_8)), (9, .int (iv v21_9))]) [0, 1, 2, 3, 4, 5, 6, 7, 8] rfl ?_
            exact B43 _ ht21 trivial
          · refine r_iload (pc := 33) dX12_spread_33 rfl ?_
            refine r_iload_n (pc := 35) dX12_spread_35 (i := 3) rfl rfl ?_
            refine t_icmp_ne (pc := 36) (tgt := 43) dX12_spread_36 (by decide) (by omega) (by omega) (fun c36 => ?_) (fun c36 => ?_)
            · refine Rn.pick (lv' := [(0, .ref y), (1, .int (iv x1)), (2, .int (iv x2)), (3, .int (iv x3)), (4, .int (iv x4)), (5, .long j5), (7, .int (iv y1)), (8, .int (iv v11_8)), (9, .int (iv v21_9))]) [0, 1, 2, 3, 4, 5, 6, 7, 8] rfl ?_
              exact B43 _ ht21 trivial
            · refine r_lconst (pc := 39) (v := 0) dX12_spread_39 (by decide) ?_
              refine r_goto (pc := 40) (tgt := 46) dX12_spread_40 (by decide) ?_
              refine Rn.pick (lv' := [(0, .ref y), (1, .int (iv x1)), (2, .int (iv x2)), (3, .int (iv x3)), (4, .int (iv x4)), (5, .long j5), (7, .int (iv y1)), (8, .int (iv v11_8)), (9, .int (iv v21_9))]) [0, 1, 2, 3, 4, 5, 6, 7, 8] rfl ?_
              exact B46 _ ht21 (0 : Int64) trivial
      refine Rn.pick (lv' := [(0, .ref y), (1, .int (iv x1)), (2, .int (iv x2)), (3, .int (iv x3)), (4, .int (iv x4)), (5, .long j5), (7, .int (iv y1)), (8, .int (iv v11_8)), (9, .int (iv 0))]) [1, 2, 3, 4, 5, 6, 7, 8, 0] rfl ?_
      exact B21 (Int.toNat (16 - 0)) _ ht11 0 ⟨by omega, by omega⟩ (by omega)
  refine Rn.pick (lv' := [(0, .ref y), (1, .int (iv x1)), (2, .int (iv x2)), (3, .int (iv x3)), (4, .int (iv x4)), (5, .long j5), (7, .int (iv y1)), (8, .int (iv 0))]) [2, 3, 4, 5, 6, 7, 1, 0] rfl ?_
  exact B11 (Int.toNat (17 - 0)) _ ht 0 ⟨by omega, by omega⟩ (by omega)
set_option maxHeartbeats 4000000 in
set_option maxRecDepth 100000 in
theorem t_X12_widest {D : va_G} {cI cJ cZ cT : ClassId} {lo b L : Nat} {xs : Nat → Int32} {hp : MH} {n d : Nat} {Γ : TG} {y : Nat} {rf cnt nm : Int32} {x1 x2 x3 : Int} (hd0 : 1 ≤ d) (hO : rd Γ y (tO 11 (mdF y rf cnt nm))) (hA_directs : rd Γ (y + 3) (tI cZ 121 (rg 0 1))) (hA_many : rd Γ (y + 4) (tI cI 121 (rg 0 60))) (hA_from : rd Γ (y + 5) (tI cI 7260 (rg 0 15))) (hA_to : rd Γ (y + 6) (tI cI 7260 (rg 0 15))) (hA_weight : rd Γ (y + 7) (tI cI 7260 (rg (-1000) 1000))) (ht : Tw Γ hp) (hx1 : 0 ≤ x1 ∧ x1 ≤ 120) (hx2 : 0 ≤ x2 ∧ x2 ≤ 15) (hx3 : 0 ≤ x3 ∧ x3 ≤ 15) : Mt (gG D cI cJ cZ cT lo b L xs) mX12_widest d 0 0 [.ref y, .int (iv x1), .int (iv x2), .int (iv x3)] hp n (pJ Γ n yes64) := by
  refine Mt.of rfl (Nat.le_of_ble_eq_true rfl) ?_
  refine Rn.pick (lv' := [(0, .ref y), (1, .int (iv x1)), (2, .int (iv x2)), (3, .int (iv x3))]) [0, 1, 2, 3] rfl ?_
  refine r_iload_n (pc := 0) dX12_widest_0 (i := 2) rfl rfl ?_
  refine r_iload_n (pc := 1) dX12_widest_1 (i := 3) rfl rfl ?_
  refine t_icmp_ne (pc := 2) (tgt := 9) dX12_widest_2 (by decide) (by omega) (by omega) (fun c2 => ?_) (fun c2 => ?_)
  · refine r_sipush (pc := 9) (v := iv 1000) dX12_widest_9 (by decide) ?_
    refine r_istore (pc := 12) (lv' := [(4, .int (iv 1000)), (0, .ref y), (1, .int (iv x1)), (2, .int (iv x2)), (3, .int (iv x3))]) dX12_widest_12 (by decide) rfl ?_
    have B14 : ∀ k : Nat, ∀ hp14 : MH, Tw Γ hp14 → ∀  (v14_4 : Int), (-1001) ≤ v14_4 ∧ v14_4 ≤ 1000 → v14_4 - (-1001) ≤ (k : Int) → Rn (gG D cI cJ cZ cT lo b L xs) mX12_widest d 14 [(0, .ref y), (1, .int (iv x1)), (2, .int (iv x2)), (3, .int (iv x3)), (4, .int (iv v14_4))] [] hp14 n 0 0 (pJ Γ n yes64) := by
      refine lpS _ ?_
      intro k14 ih14 hp14 ht14 v14_4 hf14 hm14
      refine r_iload (pc := 14) dX12_widest_14 rfl ?_
      refine r_sipush (pc := 16) (v := iv (-1000)) dX12_widest_16 (by decide) ?_
      refine t_icmp_lt (pc := 19) (tgt := 181) dX12_widest_19 (by decide) (by omega) (by omega) (fun c19 => ?_) (fun c19 => ?_)
      · refine r_ldc2 (pc := 181) (v := (-5000)) dX12_widest_181 kX12_270 ?_
        exact r_lret (pc := 184) dX12_widest_184 rfl ⟨rfl, ht14, _, rfl, trivial⟩
      · refine r_iconst (pc := 22) (v := iv 1) dX12_widest_22 (by decide) ?_
        refine r_iload_n (pc := 23) dX12_widest_23 (i := 2) rfl rfl ?_
        obtain ⟨z1, hz1, bz1⟩ := shl_1 0 15 x2 (by omega) (by omega) (by decide)
        refine r_ishl (pc := 24) (v := iv z1) dX12_widest_24 hz1 ?_
        refine r_istore (pc := 25) (lv' := [(5, .int (iv z1)), (0, .ref y), (1, .int (iv x1)), (2, .int (iv x2)), (3, .int (iv x3)), (4, .int (iv v14_4))]) dX12_widest_25 (by decide) rfl ?_
        refine r_iconst (pc := 27) (v := iv 0) dX12_widest_27 (by decide) ?_
        refine r_istore (pc := 28) (lv' := [(6, .int (iv 0)), (5, .int (iv z1)), (0, .ref y), (1, .int (iv x1)), (2, .int (iv x2)), (3, .int (iv x3)), (4, .int (iv v14_4))]) dX12_widest_28 (by decide) rfl ?_
        have B30 : ∀ k : Nat, ∀ hp30 : MH, Tw Γ hp30 → ∀  (v30_5 : Int) (v30_6 : Int), 1 ≤ v30_5 ∧ v30_5 ≤ 65535 ∧ z1 ≤ v30_5 ∧ 0 ≤ v30_6 ∧ v30_6 ≤ 65535 ∧ v30_6 ≤ v30_5 → 65536 - v30_6 ≤ (k : Int) → Rn (gG D cI cJ cZ cT lo b L xs) mX12_widest d 30 [(0, .ref y), (1, .int (iv x1)), (2, .int (iv x2)), (3, .int (iv x3)), (4, .int (iv v14_4)), (5, .int (iv v30_5)), (6, .int (iv v30_6))] [] hp30 n 0 0 (pJ Γ n yes64) := by
          refine lpS _ ?_
          intro k30 ih30 hp30 ht30 v30_5 v30_6 hf30 hm30
          refine r_iload (pc := 30) dX12_widest_30 rfl ?_
          refine r_iload (pc := 32) dX12_widest_32 rfl ?_
          refine t_icmp_eq (pc := 34) (tgt := 161) dX12_widest_34 (by decide) (by omega) (by omega) (fun c34 => ?_) (fun c34 => ?_)
          · refine r_iload (pc := 161) dX12_widest_161 rfl ?_
            refine r_iload_n (pc := 163) dX12_widest_163 (i := 3) rfl rfl ?_
            obtain ⟨z2, hz2, bz2⟩ := shr_x v30_5 x3 (by omega) (by omega)
            refine r_ishr (pc := 164) (v := iv z2) dX12_widest_164 hz2 ?_
            refine r_iconst (pc := 165) (v := iv 1) dX12_widest_165 (by decide) ?_
            obtain ⟨z3, hz3, bz3⟩ := and_2 z2 1 (by omega) (by omega)
            refine r_iand (pc := 166) (v := iv z3) dX12_widest_166 hz3 ?_
            refine r_iconst (pc := 167) (v := iv 1) dX12_widest_167 (by decide) ?_
            refine t_icmp_ne (pc := 168) (tgt := 175) dX12_widest_168 (by decide) (by omega) (by omega) (fun c168 => ?_) (fun c168 => ?_)
            · refine r_iinc (pc := 175) (v := iv (v14_4 - 1)) (lv' := [(4, .int (iv (v14_4 - 1))), (0, .ref y), (1, .int (iv x1)), (2, .int (iv x2)), (3, .int (iv x3)), (5, .int (iv v30_5)), (6, .int (iv v30_6))]) dX12_widest_175 rfl ((iv_add _ _).trans (congrArg iv (show v14_4 + (-1) = v14_4 - 1 by omega))) (by decide) rfl ?_
              refine r_goto (pc := 178) (tgt := 14) dX12_widest_178 (by decide) ?_
              refine Rn.pick (lv' := [(0, .ref y), (1, .int (iv x1)), (2, .int (iv x2)), (3, .int (iv x3)), (4, .int (iv (v14_4 - 1)))]) [1, 2, 3, 4, 0] rfl ?_
              exact ih14 (Int.toNat ((v14_4 - 1) - (-1001))) (by omega) _ ht30 (v14_4 - 1) ⟨by omega, by omega⟩ (by omega)
            · refine r_iload (pc := 171) dX12_widest_171 rfl ?_
              refine r_i2l (pc := 173) (v := (iv v14_4).toInt64) dX12_widest_173 rfl ?_
              exact r_lret (pc := 174) dX12_widest_174 rfl ⟨rfl, ht30, _, rfl, trivial⟩
          · refine r_iload (pc := 37) dX12_widest_37 rfl ?_
            refine r_istore (pc := 39) (lv' := [(6, .int (iv v30_5)), (0, .ref y), (1, .int (iv x1)), (2, .int (iv x2)), (3, .int (iv x3)), (4, .int (iv v14_4)), (5, .int (iv v30_5))]) dX12_widest_39 (by decide) rfl ?_
            refine r_iconst (pc := 41) (v := iv 0) dX12_widest_41 (by decide) ?_
            refine r_istore (pc := 42) (lv' := [(7, .int (iv 0)), (6, .int (iv v30_5)), (0, .ref y), (1, .int (iv x1)), (2, .int (iv x2)), (3, .int (iv x3)), (4, .int (iv v14_4)), (5, .int (iv v30_5))]) dX12_widest_42 (by decide) rfl ?_
            have B44 : ∀ k : Nat, ∀ hp44 : MH, Tw Γ hp44 → ∀  (v44_5 : Int) (v44_7 : Int), 1 ≤ v44_5 ∧ v44_5 ≤ 65535 ∧ v30_5 ≤ v44_5 ∧ 0 ≤ v44_7 ∧ v44_7 ≤ 60 → 60 - v44_7 ≤ (k : Int) → Rn (gG D cI cJ cZ cT lo b L xs) mX12_widest d 44 [(0, .ref y), (1, .int (iv x1)), (2, .int (iv x2)), (3, .int (iv x3)), (4, .int (iv v14_4)), (5, .int (iv v44_5)), (6, .int (iv v30_5)), (7, .int (iv v44_7))] [] hp44 n 0 0 (pJ Γ n yes64) := by
              refine lpS _ ?_
              intro k44 ih44 hp44 ht44 v44_5 v44_7 hf44 hm44
              refine r_iload (pc := 44) dX12_widest_44 rfl ?_
              refine r_aload_n (pc := 46) dX12_widest_46 (i := 0) rfl rfl ?_
              refine t_getE (pc := 47) (.ref (y + 4)) ht44 hO fX12_20 dX12_widest_47 rfl ?_
              refine r_iload_n (pc := 50) dX12_widest_50 (i := 1) rfl rfl ?_
              refine t_ialdR (pc := 51) (t0 := 0) ht44 hA_many dX12_widest_51 rfl (by decide) (by omega) (fun y4 by4 => ?_)
              refine t_icmp_ge (pc := 52) (tgt := 158) dX12_widest_52 (by decide) (by omega) (by omega) (fun c52 => ?_) (fun c52 => ?_)
              · refine r_goto (pc := 158) (tgt := 30) dX12_widest_158 (by decide) ?_
                refine Rn.pick (lv' := [(0, .ref y), (1, .int (iv x1)), (2, .int (iv x2)), (3, .int (iv x3)), (4, .int (iv v14_4)), (5, .int (iv v44_5)), (6, .int (iv v30_5))]) [0, 1, 2, 3, 4, 5, 6] rfl ?_
                exact ih30 (Int.toNat (65536 - v30_5)) (by omega) _ ht44 v44_5 v30_5 ⟨by omega, by omega, by omega, by omega, by omega, by omega⟩ (by omega)
              · refine r_iload_n (pc := 55) dX12_widest_55 (i := 1) rfl rfl ?_
                refine r_iload (pc := 56) dX12_widest_56 rfl ?_
                refine t_callSR (pc := 58) (as := [.int (iv x1), .int (iv v44_7)]) (st := []) kX12_157 dX12_widest_58 (t_X12_at1 (d := d - 1) (x1 := x1) (x2 := v44_7) (by omega)  ht44 (by omega) (by omega)) rfl (by omega) (Nat.le_of_ble_eq_true rfl) rfl (fun hp5 y7 ht6 by7 => ?_)
                refine r_istore (pc := 61) (lv' := [(8, .int (iv y7)), (0, .ref y), (1, .int (iv x1)), (2, .int (iv x2)), (3, .int (iv x3)), (4, .int (iv v14_4)), (5, .int (iv v44_5)), (6, .int (iv v30_5)), (7, .int (iv v44_7))]) dX12_widest_61 (by decide) rfl ?_
                refine r_aload_n (pc := 63) dX12_widest_63 (i := 0) rfl rfl ?_
                refine t_getE (pc := 64) (.ref (y + 7)) ht6 hO fX12_29 dX12_widest_64 rfl ?_
                refine r_iload (pc := 67) dX12_widest_67 rfl ?_
                refine t_ialdR (pc := 69) (t0 := 0) ht6 hA_weight dX12_widest_69 rfl (by decide) (by omega) (fun y8 by8 => ?_)
                refine r_iload (pc := 70) dX12_widest_70 rfl ?_
                have B152 : ∀ hp152 : MH, Tw Γ hp152 → ∀  (v152_5 : Int), 1 ≤ v152_5 ∧ v152_5 ≤ 65535 ∧ v44_5 ≤ v152_5 → Rn (gG D cI cJ cZ cT lo b L xs) mX12_widest d 152 [(0, .ref y), (1, .int (iv x1)), (2, .int (iv x2)), (3, .int (iv x3)), (4, .int (iv v14_4)), (5, .int (iv v152_5)), (6, .int (iv v30_5)), (7, .int (iv v44_7))] [] hp152 n 0 0 (pJ Γ n yes64) := by
                  intro hp152 ht152 v152_5 hf152
                  refine r_iinc (pc := 152) (v := iv (v44_7 + 1)) (lv' := [(7, .int (iv (v44_7 + 1))), (0, .ref y), (1, .int (iv x1)), (2, .int (iv x2)), (3, .int (iv x3)), (4, .int (iv v14_4)), (5, .int (iv v152_5)), (6, .int (iv v30_5))]) dX12_widest_152 rfl (iv_add _ _) (by decide) rfl ?_
                  refine r_goto (pc := 155) (tgt := 44) dX12_widest_155 (by decide) ?_
                  refine Rn.pick (lv' := [(0, .ref y), (1, .int (iv x1)), (2, .int (iv x2)), (3, .int (iv x3)), (4, .int (iv v14_4)), (5, .int (iv v152_5)), (6, .int (iv v30_5)), (7, .int (iv (v44_7 + 1)))]) [1, 2, 3, 4, 5, 6, 7, 0] rfl ?_
                  exact ih44 (Int.toNat (60 - (v44_7 + 1))) (by omega) _ ht152 v152_5 (v44_7 + 1) ⟨by omega, by omega, by omega, by omega, by omega⟩ (by omega)
                refine t_icmp_lt (pc := 72) (tgt := 152) dX12_widest_72 (by decide) (by omega) (by omega) (fun c72 => ?_) (fun c72 => ?_)
                · refine Rn.pick (lv' := [(0, .ref y), (1, .int (iv x1)), (2, .int (iv x2)), (3, .int (iv x3)), (4, .int (iv v14_4)), (5, .int (iv v44_5)), (6, .int (iv v30_5)), (7, .int (iv v44_7))]) [1, 2, 3, 4, 5, 6, 7, 8] rfl ?_
                  exact B152 _ ht6 v44_5 ⟨by omega, by omega, by omega⟩
                · refine r_iload (pc := 75) dX12_widest_75 rfl ?_
                  refine r_iload (pc := 77) dX12_widest_77 rfl ?_
                  refine r_aload_n (pc := 79) dX12_widest_79 (i := 0) rfl rfl ?_
                  refine t_getE (pc := 80) (.ref (y + 5)) ht6 hO fX12_23 dX12_widest_80 rfl ?_
                  refine r_iload (pc := 83) dX12_widest_83 rfl ?_
                  refine t_ialdR (pc := 85) (t0 := 0) ht6 hA_from dX12_widest_85 rfl (by decide) (by omega) (fun y9 by9 => ?_)
                  obtain ⟨z10, hz10, bz10⟩ := shr_x v44_5 y9 (by omega) (by omega)
                  refine r_ishr (pc := 86) (v := iv z10) dX12_widest_86 hz10 ?_
                  refine r_iconst (pc := 87) (v := iv 1) dX12_widest_87 (by decide) ?_
                  obtain ⟨z11, hz11, bz11⟩ := and_2 z10 1 (by omega) (by omega)
                  refine r_iand (pc := 88) (v := iv z11) dX12_widest_88 hz11 ?_
                  refine r_iconst (pc := 89) (v := iv 1) dX12_widest_89 (by decide) ?_
                  have B106 : ∀ hp106 : MH, Tw Γ hp106 → ∀  (u106_1 : Int), 0 ≤ u106_1 ∧ u106_1 ≤ 32768 → Rn (gG D cI cJ cZ cT lo b L xs) mX12_widest d 106 [(0, .ref y), (1, .int (iv x1)), (2, .int (iv x2)), (3, .int (iv x3)), (4, .int (iv v14_4)), (6, .int (iv v30_5)), (7, .int (iv v44_7)), (8, .int (iv y7))] [.int (iv u106_1), .int (iv v44_5)] hp106 n 0 0 (pJ Γ n yes64) := by
                    intro hp106 ht106 u106_1 hf106
                    obtain ⟨z12, hz12, bz12⟩ := or_2 16 v44_5 u106_1 (by omega) (by omega) (by decide)
                    refine r_ior (pc := 106) (v := iv z12) dX12_widest_106 hz12 ?_
                    refine r_istore (pc := 107) (lv' := [(5, .int (iv z12)), (0, .ref y), (1, .int (iv x1)), (2, .int (iv x2)), (3, .int (iv x3)), (4, .int (iv v14_4)), (6, .int (iv v30_5)), (7, .int (iv v44_7)), (8, .int (iv y7))]) dX12_widest_107 (by decide) rfl ?_
                    refine r_iload (pc := 109) dX12_widest_109 rfl ?_
                    refine r_aload_n (pc := 111) dX12_widest_111 (i := 0) rfl rfl ?_
                    refine t_getE (pc := 112) (.ref (y + 3)) ht106 hO fX12_16 dX12_widest_112 rfl ?_
                    refine r_iload_n (pc := 115) dX12_widest_115 (i := 1) rfl rfl ?_
                    refine t_zaldR (pc := 116) (t0 := 2) ht106 hA_directs dX12_widest_116 rfl (by decide) (by omega) (fun y13 by13 => ?_)
                    have B149 : ∀ hp149 : MH, Tw Γ hp149 → ∀  (u149_1 : Int), 0 ≤ u149_1 ∧ u149_1 ≤ 32768 → Rn (gG D cI cJ cZ cT lo b L xs) mX12_widest d 149 [(0, .ref y), (1, .int (iv x1)), (2, .int (iv x2)), (3, .int (iv x3)), (4, .int (iv v14_4)), (6, .int (iv v30_5)), (7, .int (iv v44_7))] [.int (iv u149_1), .int (iv z12)] hp149 n 0 0 (pJ Γ n yes64) := by
                      intro hp149 ht149 u149_1 hf149
                      obtain ⟨z14, hz14, bz14⟩ := or_2 16 z12 u149_1 (by omega) (by omega) (by decide)
                      refine r_ior (pc := 149) (v := iv z14) dX12_widest_149 hz14 ?_
                      refine r_istore (pc := 150) (lv' := [(5, .int (iv z14)), (0, .ref y), (1, .int (iv x1)), (2, .int (iv x2)), (3, .int (iv x3)), (4, .int (iv v14_4)), (6, .int (iv v30_5)), (7, .int (iv v44_7))]) dX12_widest_150 (by decide) rfl ?_
                      refine Rn.pick (lv' := [(0, .ref y), (1, .int (iv x1)), (2, .int (iv x2)), (3, .int (iv x3)), (4, .int (iv v14_4)), (5, .int (iv z14)), (6, .int (iv v30_5)), (7, .int (iv v44_7))]) [1, 2, 3, 4, 5, 0, 6, 7] rfl ?_
                      exact B152 _ ht149 z14 ⟨by omega, by omega, by omega⟩
                    have B148 : ∀ hp148 : MH, Tw Γ hp148 → True → Rn (gG D cI cJ cZ cT lo b L xs) mX12_widest d 148 [(0, .ref y), (1, .int (iv x1)), (2, .int (iv x2)), (3, .int (iv x3)), (4, .int (iv v14_4)), (6, .int (iv v30_5)), (7, .int (iv v44_7))] [.int (iv z12)] hp148 n 0 0 (pJ Γ n yes64) := by
                      intro hp148 ht148 hf148
                      refine r_iconst (pc := 148) (v := iv 0) dX12_widest_148 (by decide) ?_
                      refine Rn.pick (lv' := [(0, .ref y), (1, .int (iv x1)), (2, .int (iv x2)), (3, .int (iv x3)), (4, .int (iv v14_4)), (6, .int (iv v30_5)), (7, .int (iv v44_7))]) [0, 1, 2, 3, 4, 5, 6] rfl ?_
                      exact B149 _ ht148 0 ⟨by omega, by omega⟩
                    refine t_if_ne (pc := 117) (tgt := 148) dX12_widest_117 (by decide) (by omega) (fun c117 => ?_) (fun c117 => ?_)
                    · refine Rn.pick (lv' := [(0, .ref y), (1, .int (iv x1)), (2, .int (iv x2)), (3, .int (iv x3)), (4, .int (iv v14_4)), (6, .int (iv v30_5)), (7, .int (iv v44_7))]) [1, 2, 3, 4, 5, 6, 7] rfl ?_
                      exact B148 _ ht106 trivial
                    · refine r_iload (pc := 120) dX12_widest_120 rfl ?_
                      refine r_aload_n (pc := 122) dX12_widest_122 (i := 0) rfl rfl ?_
                      refine t_getE (pc := 123) (.ref (y + 6)) ht106 hO fX12_26 dX12_widest_123 rfl ?_
                      refine r_iload (pc := 126) dX12_widest_126 rfl ?_
                      refine t_ialdR (pc := 128) (t0 := 0) ht106 hA_to dX12_widest_128 rfl (by decide) (by omega) (fun y15 by15 => ?_)
                      obtain ⟨z16, hz16, bz16⟩ := shr_x z12 y15 (by omega) (by omega)
                      refine r_ishr (pc := 129) (v := iv z16) dX12_widest_129 hz16 ?_
                      refine r_iconst (pc := 130) (v := iv 1) dX12_widest_130 (by decide) ?_
                      obtain ⟨z17, hz17, bz17⟩ := and_2 z16 1 (by omega) (by omega)
                      refine r_iand (pc := 131) (v := iv z17) dX12_widest_131 hz17 ?_
                      refine r_iconst (pc := 132) (v := iv 1) dX12_widest_132 (by decide) ?_
                      refine t_icmp_ne (pc := 133) (tgt := 148) dX12_widest_133 (by decide) (by omega) (by omega) (fun c133 => ?_) (fun c133 => ?_)
                      · refine Rn.pick (lv' := [(0, .ref y), (1, .int (iv x1)), (2, .int (iv x2)), (3, .int (iv x3)), (4, .int (iv v14_4)), (6, .int (iv v30_5)), (7, .int (iv v44_7))]) [1, 2, 3, 4, 5, 6, 7] rfl ?_
                        exact B148 _ ht106 trivial
                      · refine r_iconst (pc := 136) (v := iv 1) dX12_widest_136 (by decide) ?_
                        refine r_aload_n (pc := 137) dX12_widest_137 (i := 0) rfl rfl ?_
                        refine t_getE (pc := 138) (.ref (y + 5)) ht106 hO fX12_23 dX12_widest_138 rfl ?_
                        refine r_iload (pc := 141) dX12_widest_141 rfl ?_
                        refine t_ialdR (pc := 143) (t0 := 0) ht106 hA_from dX12_widest_143 rfl (by decide) (by omega) (fun y18 by18 => ?_)
                        obtain ⟨z19, hz19, bz19⟩ := shl_1 0 15 y18 (by omega) (by omega) (by decide)
                        refine r_ishl (pc := 144) (v := iv z19) dX12_widest_144 hz19 ?_
                        refine r_goto (pc := 145) (tgt := 149) dX12_widest_145 (by decide) ?_
                        refine Rn.pick (lv' := [(0, .ref y), (1, .int (iv x1)), (2, .int (iv x2)), (3, .int (iv x3)), (4, .int (iv v14_4)), (6, .int (iv v30_5)), (7, .int (iv v44_7))]) [1, 2, 3, 4, 5, 6, 7] rfl ?_
                        exact B149 _ ht106 z19 ⟨by omega, by omega⟩
                  refine t_icmp_ne (pc := 90) (tgt := 105) dX12_widest_90 (by decide) (by omega) (by omega) (fun c90 => ?_) (fun c90 => ?_)
                  · refine r_iconst (pc := 105) (v := iv 0) dX12_widest_105 (by decide) ?_
                    refine Rn.pick (lv' := [(0, .ref y), (1, .int (iv x1)), (2, .int (iv x2)), (3, .int (iv x3)), (4, .int (iv v14_4)), (6, .int (iv v30_5)), (7, .int (iv v44_7)), (8, .int (iv y7))]) [1, 2, 3, 4, 5, 7, 8, 0] rfl ?_
                    exact B106 _ ht6 0 ⟨by omega, by omega⟩
                  · refine r_iconst (pc := 93) (v := iv 1) dX12_widest_93 (by decide) ?_
                    refine r_aload_n (pc := 94) dX12_widest_94 (i := 0) rfl rfl ?_
                    refine t_getE (pc := 95) (.ref (y + 6)) ht6 hO fX12_26 dX12_widest_95 rfl ?_
                    refine r_iload (pc := 98) dX12_widest_98 rfl ?_
                    refine t_ialdR (pc := 100) (t0 := 0) ht6 hA_to dX12_widest_100 rfl (by decide) (by omega) (fun y20 by20 => ?_)
                    obtain ⟨z21, hz21, bz21⟩ := shl_1 0 15 y20 (by omega) (by omega) (by decide)
                    refine r_ishl (pc := 101) (v := iv z21) dX12_widest_101 hz21 ?_
                    refine r_goto (pc := 102) (tgt := 106) dX12_widest_102 (by decide) ?_
                    refine Rn.pick (lv' := [(0, .ref y), (1, .int (iv x1)), (2, .int (iv x2)), (3, .int (iv x3)), (4, .int (iv v14_4)), (6, .int (iv v30_5)), (7, .int (iv v44_7)), (8, .int (iv y7))]) [1, 2, 3, 4, 5, 7, 8, 0] rfl ?_
                    exact B106 _ ht6 z21 ⟨by omega, by omega⟩
            refine Rn.pick (lv' := [(0, .ref y), (1, .int (iv x1)), (2, .int (iv x2)), (3, .int (iv x3)), (4, .int (iv v14_4)), (5, .int (iv v30_5)), (6, .int (iv v30_5)), (7, .int (iv 0))]) [2, 3, 4, 5, 6, 7, 1, 0] rfl ?_
            exact B44 (Int.toNat (60 - 0)) _ ht30 v30_5 0 ⟨by omega, by omega, by omega, by omega, by omega⟩ (by omega)
        refine Rn.pick (lv' := [(0, .ref y), (1, .int (iv x1)), (2, .int (iv x2)), (3, .int (iv x3)), (4, .int (iv v14_4)), (5, .int (iv z1)), (6, .int (iv 0))]) [2, 3, 4, 5, 6, 1, 0] rfl ?_
        exact B30 (Int.toNat (65536 - 0)) _ ht14 z1 0 ⟨by omega, by omega, by omega, by omega, by omega, by omega⟩ (by omega)
    refine Rn.pick (lv' := [(0, .ref y), (1, .int (iv x1)), (2, .int (iv x2)), (3, .int (iv x3)), (4, .int (iv 1000))]) [1, 2, 3, 4, 0] rfl ?_
    exact B14 (Int.toNat (1000 - (-1001))) _ ht 1000 ⟨by omega, by omega⟩ (by omega)
  · refine r_ldc2 (pc := 5) (v := 1001) dX12_widest_5 kX12_268 ?_
    exact r_lret (pc := 8) dX12_widest_8 rfl ⟨rfl, ht, _, rfl, trivial⟩
set_option maxHeartbeats 4000000 in
set_option maxRecDepth 100000 in
theorem t_X12_isLast {D : va_G} {cI cJ cZ cT : ClassId} {lo b L : Nat} {xs : Nat → Int32} {hp : MH} {n d : Nat} {Γ : TG} {y : Nat} {rf cnt nm : Int32} {x1 x2 x4 x5 x6 : Int} {j3 : Int64} (hd0 : 2 ≤ d) (hO : rd Γ y (tO 11 (mdF y rf cnt nm))) (hA_directs : rd Γ (y + 3) (tI cZ 121 (rg 0 1))) (hA_from : rd Γ (y + 5) (tI cI 7260 (rg 0 15))) (hA_to : rd Γ (y + 6) (tI cI 7260 (rg 0 15))) (hA_weight : rd Γ (y + 7) (tI cI 7260 (rg (-1000) 1000))) (hA_best : rd Γ (y + 27) (tJ cJ 272 anyJ)) (ht : Tw Γ hp) (hx1 : 0 ≤ x1 ∧ x1 ≤ 120) (hx2 : 0 ≤ x2 ∧ x2 ≤ 2) (hx4 : 0 ≤ x4 ∧ x4 ≤ 59) (hx5 : 0 ≤ x5 ∧ x5 ≤ 15) (hx6 : 1 ≤ x6 ∧ x6 ≤ 16) : Mt (gG D cI cJ cZ cT lo b L xs) mX12_isLast d 0 0 [.ref y, .int (iv x1), .int (iv x2), .long j3, .int (iv x4), .int (iv x5), .int (iv x6)] hp n (pR Γ n 0 1) := by
  refine Mt.of rfl (Nat.le_of_ble_eq_true rfl) ?_
  refine Rn.pick (lv' := [(0, .ref y), (1, .int (iv x1)), (2, .int (iv x2)), (3, .long j3), (5, .int (iv x4)), (6, .int (iv x5)), (7, .int (iv x6))]) [0, 1, 2, 3, 4, 5, 6] rfl ?_
  refine r_aload_n (pc := 0) dX12_isLast_0 (i := 0) rfl rfl ?_
  refine r_iload_n (pc := 1) dX12_isLast_1 (i := 1) rfl rfl ?_
  refine r_iload (pc := 2) dX12_isLast_2 rfl ?_
  refine r_iload (pc := 4) dX12_isLast_4 rfl ?_
  refine t_callVR (pc := 6) (as := [.int (iv x1), .int (iv x4), .int (iv x5)]) (st := []) ht hO kX12_253 rfl dX12_isLast_6 (t_X12_into (d := d - 1) (x1 := x1) (x2 := x4) (x3 := x5) (by omega) hO hA_directs hA_from hA_to ht (by omega) (by omega) (by omega)) rfl (by omega) (Nat.le_of_ble_eq_true rfl) rfl (fun hp1 y3 ht2 by3 => ?_)
  refine r_istore (pc := 9) (lv' := [(8, .int (iv y3)), (0, .ref y), (1, .int (iv x1)), (2, .int (iv x2)), (3, .long j3), (5, .int (iv x4)), (6, .int (iv x5)), (7, .int (iv x6))]) dX12_isLast_9 (by decide) rfl ?_
  refine r_iload (pc := 11) dX12_isLast_11 rfl ?_
  have B108 : ∀ hp108 : MH, Tw Γ hp108 → ∀  (u108_0 : Int), 0 ≤ u108_0 ∧ u108_0 ≤ 1 → Rn (gG D cI cJ cZ cT lo b L xs) mX12_isLast d 108 [] [.int (iv u108_0)] hp108 n 0 0 (pR Γ n 0 1) := by
    intro hp108 ht108 u108_0 hf108
    exact r_zret (pc := 108) dX12_isLast_108 rfl (iv_nar (by omega)) ⟨rfl, ht108, _, rfl, by omega, by omega⟩
  have B107 : ∀ hp107 : MH, Tw Γ hp107 → True → Rn (gG D cI cJ cZ cT lo b L xs) mX12_isLast d 107 [] [] hp107 n 0 0 (pR Γ n 0 1) := by
    intro hp107 ht107 hf107
    refine r_iconst (pc := 107) (v := iv 0) dX12_isLast_107 (by decide) ?_
    refine Rn.pick (lv' := []) [] rfl ?_
    exact B108 _ ht107 0 ⟨by omega, by omega⟩
  refine t_if_lt (pc := 13) (tgt := 107) dX12_isLast_13 (by decide) (by omega) (fun c13 => ?_) (fun c13 => ?_)
  · refine Rn.pick (lv' := []) [] rfl ?_
    exact B107 _ ht2 trivial
  · refine r_aload_n (pc := 16) dX12_isLast_16 (i := 0) rfl rfl ?_
    refine r_iload_n (pc := 17) dX12_isLast_17 (i := 1) rfl rfl ?_
    refine r_iload (pc := 18) dX12_isLast_18 rfl ?_
    refine r_iload_n (pc := 20) dX12_isLast_20 (i := 2) rfl rfl ?_
    refine r_lload_n (pc := 21) dX12_isLast_21 (i := 3) rfl rfl ?_
    refine t_callVR (pc := 22) (as := [.int (iv x1), .int (iv x4), .int (iv x2), .long j3]) (st := []) ht2 hO kX12_256 rfl dX12_isLast_22 (t_X12_goes (d := d - 1) (x1 := x1) (x2 := x4) (x3 := x2) (j4 := j3) (by omega) hO hA_weight ht2 (by omega) (by omega) (by omega)) rfl (by omega) (Nat.le_of_ble_eq_true rfl) rfl (fun hp4 y6 ht5 by6 => ?_)
    refine t_if_eq (pc := 25) (tgt := 107) dX12_isLast_25 (by decide) (by omega) (fun c25 => ?_) (fun c25 => ?_)
    · refine Rn.pick (lv' := []) [] rfl ?_
      exact B107 _ ht5 trivial
    · refine r_aload_n (pc := 28) dX12_isLast_28 (i := 0) rfl rfl ?_
      refine t_getE (pc := 29) (.ref (y + 27)) ht5 hO fX12_91 dX12_isLast_29 rfl ?_
      refine r_bipush (pc := 32) (v := iv 16) dX12_isLast_32 (by decide) ?_
      refine r_iload (pc := 34) dX12_isLast_34 rfl ?_
      refine r_iconst (pc := 36) (v := iv 1) dX12_isLast_36 (by decide) ?_
      refine r_isub (pc := 37) (v := iv (x6 - 1)) dX12_isLast_37 (iv_sub _ _) ?_
      refine r_imul (pc := 38) (v := iv (16 * (x6 - 1))) dX12_isLast_38 (iv_mul _ _) ?_
      refine r_iload (pc := 39) dX12_isLast_39 rfl ?_
      refine r_iadd (pc := 41) (v := iv ((16 * (x6 - 1)) + y3)) dX12_isLast_41 (iv_add _ _) ?_
      refine t_lald (pc := 42) (t0 := 1) ht5 hA_best dX12_isLast_42 rfl (by decide) (by omega) (fun w7 _ => ?_)
      refine r_ldc2 (pc := 43) (v := 1000000000000) dX12_isLast_43 kX12_251 ?_
      refine r_lcmp (pc := 46) dX12_isLast_46 ?_
      refine r_if_ge (pc := 47) (tgt := 107) dX12_isLast_47 (by decide) (fun c47 => ?_) (fun c47 => ?_)
      · refine Rn.pick (lv' := []) [] rfl ?_
        exact B107 _ ht5 trivial
      · refine r_aload_n (pc := 50) dX12_isLast_50 (i := 0) rfl rfl ?_
        refine t_getE (pc := 51) (.ref (y + 27)) ht5 hO fX12_91 dX12_isLast_51 rfl ?_
        refine r_bipush (pc := 54) (v := iv 16) dX12_isLast_54 (by decide) ?_
        refine r_iload (pc := 56) dX12_isLast_56 rfl ?_
        refine r_iconst (pc := 58) (v := iv 1) dX12_isLast_58 (by decide) ?_
        refine r_isub (pc := 59) (v := iv (x6 - 1)) dX12_isLast_59 (iv_sub _ _) ?_
        refine r_imul (pc := 60) (v := iv (16 * (x6 - 1))) dX12_isLast_60 (iv_mul _ _) ?_
        refine r_iload (pc := 61) dX12_isLast_61 rfl ?_
        refine r_iadd (pc := 63) (v := iv ((16 * (x6 - 1)) + y3)) dX12_isLast_63 (iv_add _ _) ?_
        refine t_lald (pc := 64) (t0 := 1) ht5 hA_best dX12_isLast_64 rfl (by decide) (by omega) (fun w8 _ => ?_)
        refine r_iload_n (pc := 65) dX12_isLast_65 (i := 2) rfl rfl ?_
        have B84 : ∀ hp84 : MH, Tw Γ hp84 → ∀  (u84_1 : Int), (-1000) ≤ u84_1 ∧ u84_1 ≤ 1000 → Rn (gG D cI cJ cZ cT lo b L xs) mX12_isLast d 84 [(0, .ref y), (6, .int (iv x5)), (7, .int (iv x6))] [.int (iv u84_1), .long w8] hp84 n 0 0 (pR Γ n 0 1) := by
          intro hp84 ht84 u84_1 hf84
          refine r_i2l (pc := 84) (v := (iv u84_1).toInt64) dX12_isLast_84 rfl ?_
          refine r_ladd (pc := 85) (v := w8 + ((iv u84_1).toInt64)) dX12_isLast_85 rfl ?_
          refine r_aload_n (pc := 86) dX12_isLast_86 (i := 0) rfl rfl ?_
          refine t_getE (pc := 87) (.ref (y + 27)) ht84 hO fX12_91 dX12_isLast_87 rfl ?_
          refine r_bipush (pc := 90) (v := iv 16) dX12_isLast_90 (by decide) ?_
          refine r_iload (pc := 92) dX12_isLast_92 rfl ?_
          refine r_imul (pc := 94) (v := iv (16 * x6)) dX12_isLast_94 (iv_mul _ _) ?_
          refine r_iload (pc := 95) dX12_isLast_95 rfl ?_
          refine r_iadd (pc := 97) (v := iv ((16 * x6) + x5)) dX12_isLast_97 (iv_add _ _) ?_
          refine t_lald (pc := 98) (t0 := 1) ht84 hA_best dX12_isLast_98 rfl (by decide) (by omega) (fun w9 _ => ?_)
          refine r_lcmp (pc := 99) dX12_isLast_99 ?_
          refine r_if_ne (pc := 100) (tgt := 107) dX12_isLast_100 (by decide) (fun c100 => ?_) (fun c100 => ?_)
          · refine Rn.pick (lv' := []) [] rfl ?_
            exact B107 _ ht84 trivial
          · refine r_iconst (pc := 103) (v := iv 1) dX12_isLast_103 (by decide) ?_
            refine r_goto (pc := 104) (tgt := 108) dX12_isLast_104 (by decide) ?_
            refine Rn.pick (lv' := []) [] rfl ?_
            exact B108 _ ht84 1 ⟨by omega, by omega⟩
        refine t_if_ne (pc := 66) (tgt := 83) dX12_isLast_66 (by decide) (by omega) (fun c66 => ?_) (fun c66 => ?_)
        · refine r_iconst (pc := 83) (v := iv 0) dX12_isLast_83 (by decide) ?_
          refine Rn.pick (lv' := [(0, .ref y), (6, .int (iv x5)), (7, .int (iv x6))]) [1, 6, 7] rfl ?_
          exact B84 _ ht5 0 ⟨by omega, by omega⟩
        · refine r_aload_n (pc := 69) dX12_isLast_69 (i := 0) rfl rfl ?_
          refine t_getE (pc := 70) (.ref (y + 7)) ht5 hO fX12_29 dX12_isLast_70 rfl ?_
          refine r_iload_n (pc := 73) dX12_isLast_73 (i := 1) rfl rfl ?_
          refine r_iload (pc := 74) dX12_isLast_74 rfl ?_
          refine t_callSR (pc := 76) (as := [.int (iv x1), .int (iv x4)]) (st := [.ref (y + 7), .long w8]) kX12_157 dX12_isLast_76 (t_X12_at1 (d := d - 1) (x1 := x1) (x2 := x4) (by omega)  ht5 (by omega) (by omega)) rfl (by omega) (Nat.le_of_ble_eq_true rfl) rfl (fun hp10 y12 ht11 by12 => ?_)
          refine t_ialdR (pc := 79) (t0 := 0) ht11 hA_weight dX12_isLast_79 rfl (by decide) (by omega) (fun y13 by13 => ?_)
          refine r_goto (pc := 80) (tgt := 84) dX12_isLast_80 (by decide) ?_
          refine Rn.pick (lv' := [(0, .ref y), (6, .int (iv x5)), (7, .int (iv x6))]) [1, 6, 7] rfl ?_
          exact B84 _ ht11 y13 ⟨by omega, by omega⟩
set_option maxHeartbeats 4000000 in
set_option maxRecDepth 100000 in
theorem t_X12_reachAll {D : va_G} {cI cJ cZ cT : ClassId} {lo b L : Nat} {xs : Nat → Int32} {hp : MH} {n d : Nat} {Γ : TG} {y : Nat} {rf cnt nm : Int32} {x1 x2 : Int} (hd0 : 2 ≤ d) (hO : rd Γ y (tO 11 (mdF y rf cnt nm))) (hA_directs : rd Γ (y + 3) (tI cZ 121 (rg 0 1))) (hA_many : rd Γ (y + 4) (tI cI 121 (rg 0 60))) (hA_from : rd Γ (y + 5) (tI cI 7260 (rg 0 15))) (hA_to : rd Γ (y + 6) (tI cI 7260 (rg 0 15))) (ht : Tw Γ hp) (hx1 : 0 ≤ x1 ∧ x1 ≤ 120) (hx2 : 0 ≤ x2 ∧ x2 ≤ 65535) : Mt (gG D cI cJ cZ cT lo b L xs) mX12_reachAll d 0 0 [.ref y, .int (iv x1), .int (iv x2)] hp n (pR Γ n 0 65535) := by
  refine Mt.of rfl (Nat.le_of_ble_eq_true rfl) ?_
  refine Rn.pick (lv' := [(0, .ref y), (1, .int (iv x1)), (2, .int (iv x2))]) [0, 1, 2] rfl ?_
  refine r_iload_n (pc := 0) dX12_reachAll_0 (i := 2) rfl rfl ?_
  refine r_istore_n (pc := 1) (lv' := [(3, .int (iv x2)), (0, .ref y), (1, .int (iv x1)), (2, .int (iv x2))]) dX12_reachAll_1 (i := 3) rfl (by decide) rfl ?_
  refine r_iload_n (pc := 2) dX12_reachAll_2 (i := 3) rfl rfl ?_
  refine r_aload_n (pc := 3) dX12_reachAll_3 (i := 0) rfl rfl ?_
  refine r_iload_n (pc := 4) dX12_reachAll_4 (i := 1) rfl rfl ?_
  refine r_iload_n (pc := 5) dX12_reachAll_5 (i := 3) rfl rfl ?_
  refine t_callVR (pc := 6) (as := [.int (iv x1), .int (iv x2)]) (st := [.int (iv x2)]) ht hO kX12_231 rfl dX12_reachAll_6 (t_X12_reach (d := d - 1) (x1 := x1) (x2 := x2) (by omega) hO hA_directs hA_many hA_from hA_to ht (by omega) (by omega)) rfl (by omega) (Nat.le_of_ble_eq_true rfl) rfl (fun hp1 y3 ht2 by3 => ?_)
  obtain ⟨z4, hz4, bz4⟩ := or_2 16 x2 y3 (by omega) (by omega) (by decide)
  refine r_ior (pc := 9) (v := iv z4) dX12_reachAll_9 hz4 ?_
  refine r_istore (pc := 10) (lv' := [(4, .int (iv z4)), (3, .int (iv x2)), (0, .ref y), (1, .int (iv x1)), (2, .int (iv x2))]) dX12_reachAll_10 (by decide) rfl ?_
  have B12 : ∀ k : Nat, ∀ hp12 : MH, Tw Γ hp12 → ∀  (v12_3 : Int) (v12_4 : Int), 0 ≤ v12_3 ∧ v12_3 ≤ 65535 ∧ 0 ≤ v12_4 ∧ v12_4 ≤ 65535 ∧ v12_3 ≤ v12_4 → 65535 - v12_3 ≤ (k : Int) → Rn (gG D cI cJ cZ cT lo b L xs) mX12_reachAll d 12 [(0, .ref y), (1, .int (iv x1)), (3, .int (iv v12_3)), (4, .int (iv v12_4))] [] hp12 n 0 0 (pR Γ n 0 65535) := by
    refine lpS _ ?_
    intro k12 ih12 hp12 ht12 v12_3 v12_4 hf12 hm12
    refine r_iload (pc := 12) dX12_reachAll_12 rfl ?_
    refine r_iload_n (pc := 14) dX12_reachAll_14 (i := 3) rfl rfl ?_
    refine t_icmp_eq (pc := 15) (tgt := 34) dX12_reachAll_15 (by decide) (by omega) (by omega) (fun c15 => ?_) (fun c15 => ?_)
    · refine r_iload_n (pc := 34) dX12_reachAll_34 (i := 3) rfl rfl ?_
      exact r_iret (pc := 35) dX12_reachAll_35 rfl ⟨rfl, ht12, _, rfl, by omega, by omega⟩
    · refine r_iload (pc := 18) dX12_reachAll_18 rfl ?_
      refine r_istore_n (pc := 20) (lv' := [(3, .int (iv v12_4)), (0, .ref y), (1, .int (iv x1)), (4, .int (iv v12_4))]) dX12_reachAll_20 (i := 3) rfl (by decide) rfl ?_
      refine r_iload_n (pc := 21) dX12_reachAll_21 (i := 3) rfl rfl ?_
      refine r_aload_n (pc := 22) dX12_reachAll_22 (i := 0) rfl rfl ?_
      refine r_iload_n (pc := 23) dX12_reachAll_23 (i := 1) rfl rfl ?_
      refine r_iload_n (pc := 24) dX12_reachAll_24 (i := 3) rfl rfl ?_
      refine t_callVR (pc := 25) (as := [.int (iv x1), .int (iv v12_4)]) (st := [.int (iv v12_4)]) ht12 hO kX12_231 rfl dX12_reachAll_25 (t_X12_reach (d := d - 1) (x1 := x1) (x2 := v12_4) (by omega) hO hA_directs hA_many hA_from hA_to ht12 (by omega) (by omega)) rfl (by omega) (Nat.le_of_ble_eq_true rfl) rfl (fun hp5 y7 ht6 by7 => ?_)
      obtain ⟨z8, hz8, bz8⟩ := or_2 16 v12_4 y7 (by omega) (by omega) (by decide)
      refine r_ior (pc := 28) (v := iv z8) dX12_reachAll_28 hz8 ?_
      refine r_istore (pc := 29) (lv' := [(4, .int (iv z8)), (3, .int (iv v12_4)), (0, .ref y), (1, .int (iv x1))]) dX12_reachAll_29 (by decide) rfl ?_
      refine r_goto (pc := 31) (tgt := 12) dX12_reachAll_31 (by decide) ?_
      refine Rn.pick (lv' := [(0, .ref y), (1, .int (iv x1)), (3, .int (iv v12_4)), (4, .int (iv z8))]) [2, 3, 1, 0] rfl ?_
      exact ih12 (Int.toNat (65535 - v12_4)) (by omega) _ ht6 v12_4 z8 ⟨by omega, by omega, by omega, by omega, by omega⟩ (by omega)
  refine Rn.pick (lv' := [(0, .ref y), (1, .int (iv x1)), (3, .int (iv x2)), (4, .int (iv z4))]) [2, 3, 1, 0] rfl ?_
  exact B12 (Int.toNat (65535 - x2)) _ ht2 x2 z4 ⟨by omega, by omega, by omega, by omega, by omega⟩ (by omega)
set_option maxHeartbeats 4000000 in
set_option maxRecDepth 100000 in
theorem t_X12_isFalling {D : va_G} {cI cJ cZ cT : ClassId} {lo b L : Nat} {xs : Nat → Int32} {hp : MH} {n d : Nat} {Γ : TG} {y : Nat} {rf cnt nm : Int32} {x1 x2 : Int} (hd0 : 2 ≤ d) (hO : rd Γ y (tO 11 (mdF y rf cnt nm))) (hA_sizes : rd Γ (y + 2) (tI cI 121 (rg 0 16))) (hA_directs : rd Γ (y + 3) (tI cZ 121 (rg 0 1))) (hA_many : rd Γ (y + 4) (tI cI 121 (rg 0 60))) (hA_from : rd Γ (y + 5) (tI cI 7260 (rg 0 15))) (hA_to : rd Γ (y + 6) (tI cI 7260 (rg 0 15))) (hA_weight : rd Γ (y + 7) (tI cI 7260 (rg (-1000) 1000))) (hA_round : Γ (y + 29) = some (tJ cJ 16 anyJ)) (hA_round2 : Γ (y + 30) = some (tJ cJ 16 anyJ)) (ht : Tw Γ hp) (hx1 : 0 ≤ x1 ∧ x1 ≤ 120) (hx2 : 0 ≤ x2 ∧ x2 ≤ 15) : Mt (gG D cI cJ cZ cT lo b L xs) mX12_isFalling d 0 0 [.ref y, .int (iv x1), .int (iv x2)] hp n (pR Γ n 0 1) := by
  refine Mt.of rfl (Nat.le_of_ble_eq_true rfl) ?_
  refine Rn.pick (lv' := [(0, .ref y), (1, .int (iv x1)), (2, .int (iv x2))]) [0, 1, 2] rfl ?_
  refine r_aload_n (pc := 0) dX12_isFalling_0 (i := 0) rfl rfl ?_
  refine t_getE (pc := 1) (.ref (y + 2)) ht hO fX12_13 dX12_isFalling_1 rfl ?_
  refine r_iload_n (pc := 4) dX12_isFalling_4 (i := 1) rfl rfl ?_
  refine t_ialdR (pc := 5) (t0 := 0) ht hA_sizes dX12_isFalling_5 rfl (by decide) (by omega) (fun y1 by1 => ?_)
  refine r_istore_n (pc := 6) (lv' := [(3, .int (iv y1)), (0, .ref y), (1, .int (iv x1)), (2, .int (iv x2))]) dX12_isFalling_6 (i := 3) rfl (by decide) rfl ?_
  refine r_iconst (pc := 7) (v := iv 0) dX12_isFalling_7 (by decide) ?_
  refine r_istore (pc := 8) (lv' := [(4, .int (iv 0)), (3, .int (iv y1)), (0, .ref y), (1, .int (iv x1)), (2, .int (iv x2))]) dX12_isFalling_8 (by decide) rfl ?_
  have B10 : ∀ k : Nat, ∀ hp10 : MH, Tw Γ hp10 → ∀  (v10_4 : Int), 0 ≤ v10_4 ∧ v10_4 ≤ 16 → 16 - v10_4 ≤ (k : Int) → Rn (gG D cI cJ cZ cT lo b L xs) mX12_isFalling d 10 [(0, .ref y), (1, .int (iv x1)), (2, .int (iv x2)), (3, .int (iv y1)), (4, .int (iv v10_4))] [] hp10 n 0 0 (pR Γ n 0 1) := by
    refine lpS _ ?_
    intro k10 ih10 hp10 ht10 v10_4 hf10 hm10
    refine r_iload (pc := 10) dX12_isFalling_10 rfl ?_
    refine r_iload_n (pc := 12) dX12_isFalling_12 (i := 3) rfl rfl ?_
    refine t_icmp_ge (pc := 13) (tgt := 42) dX12_isFalling_13 (by decide) (by omega) (by omega) (fun c13 => ?_) (fun c13 => ?_)
    · refine r_iconst (pc := 42) (v := iv 0) dX12_isFalling_42 (by decide) ?_
      refine r_istore (pc := 43) (lv' := [(4, .int (iv 0)), (0, .ref y), (1, .int (iv x1)), (2, .int (iv x2)), (3, .int (iv y1))]) dX12_isFalling_43 (by decide) rfl ?_
      refine r_iconst (pc := 45) (v := iv 0) dX12_isFalling_45 (by decide) ?_
      refine r_istore (pc := 46) (lv' := [(5, .int (iv 0)), (4, .int (iv 0)), (0, .ref y), (1, .int (iv x1)), (2, .int (iv x2)), (3, .int (iv y1))]) dX12_isFalling_46 (by decide) rfl ?_
      have B48 : ∀ k : Nat, ∀ hp48 : MH, Tw Γ hp48 → ∀  (v48_4 : Int) (v48_5 : Int), 0 ≤ v48_4 ∧ v48_4 ≤ 1 ∧ 0 ≤ v48_5 ∧ v48_5 ≤ 16 → 16 - v48_5 ≤ (k : Int) → Rn (gG D cI cJ cZ cT lo b L xs) mX12_isFalling d 48 [(0, .ref y), (1, .int (iv x1)), (2, .int (iv x2)), (3, .int (iv y1)), (4, .int (iv v48_4)), (5, .int (iv v48_5))] [] hp48 n 0 0 (pR Γ n 0 1) := by
        refine lpS _ ?_
        intro k48 ih48 hp48 ht48 v48_4 v48_5 hf48 hm48
        refine r_iload (pc := 48) dX12_isFalling_48 rfl ?_
        refine r_iload_n (pc := 50) dX12_isFalling_50 (i := 3) rfl rfl ?_
        have B245 : ∀ hp245 : MH, Tw Γ hp245 → True → Rn (gG D cI cJ cZ cT lo b L xs) mX12_isFalling d 245 [(4, .int (iv v48_4))] [] hp245 n 0 0 (pR Γ n 0 1) := by
          intro hp245 ht245 hf245
          refine r_iload (pc := 245) dX12_isFalling_245 rfl ?_
          exact r_zret (pc := 247) dX12_isFalling_247 rfl (iv_nar (by omega)) ⟨rfl, ht245, _, rfl, by omega, by omega⟩
        refine t_icmp_ge (pc := 51) (tgt := 245) dX12_isFalling_51 (by decide) (by omega) (by omega) (fun c51 => ?_) (fun c51 => ?_)
        · refine Rn.pick (lv' := [(4, .int (iv v48_4))]) [4] rfl ?_
          exact B245 _ ht48 trivial
        · refine r_iload (pc := 54) dX12_isFalling_54 rfl ?_
          refine t_if_ne (pc := 56) (tgt := 245) dX12_isFalling_56 (by decide) (by omega) (fun c56 => ?_) (fun c56 => ?_)
          · refine Rn.pick (lv' := [(4, .int (iv v48_4))]) [4] rfl ?_
            exact B245 _ ht48 trivial
          · refine r_iconst (pc := 59) (v := iv 0) dX12_isFalling_59 (by decide) ?_
            refine r_istore (pc := 60) (lv' := [(6, .int (iv 0)), (0, .ref y), (1, .int (iv x1)), (2, .int (iv x2)), (3, .int (iv y1)), (4, .int (iv v48_4)), (5, .int (iv v48_5))]) dX12_isFalling_60 (by decide) rfl ?_
            have B62 : ∀ k : Nat, ∀ hp62 : MH, Tw Γ hp62 → ∀  (v62_6 : Int), 0 ≤ v62_6 ∧ v62_6 ≤ 16 → 16 - v62_6 ≤ (k : Int) → Rn (gG D cI cJ cZ cT lo b L xs) mX12_isFalling d 62 [(0, .ref y), (1, .int (iv x1)), (2, .int (iv x2)), (3, .int (iv y1)), (5, .int (iv v48_5)), (6, .int (iv v62_6))] [] hp62 n 0 0 (pR Γ n 0 1) := by
              refine lpS _ ?_
              intro k62 ih62 hp62 ht62 v62_6 hf62 hm62
              refine r_iload (pc := 62) dX12_isFalling_62 rfl ?_
              refine r_iload_n (pc := 64) dX12_isFalling_64 (i := 3) rfl rfl ?_
              refine t_icmp_ge (pc := 65) (tgt := 192) dX12_isFalling_65 (by decide) (by omega) (by omega) (fun c65 => ?_) (fun c65 => ?_)
              · refine r_iconst (pc := 192) (v := iv 0) dX12_isFalling_192 (by decide) ?_
                refine r_istore (pc := 193) (lv' := [(6, .int (iv 0)), (0, .ref y), (1, .int (iv x1)), (2, .int (iv x2)), (3, .int (iv y1)), (5, .int (iv v48_5))]) dX12_isFalling_193 (by decide) rfl ?_
                have B195 : ∀ k : Nat, ∀ hp195 : MH, Tw Γ hp195 → ∀  (v195_6 : Int), 0 ≤ v195_6 ∧ v195_6 ≤ 16 → 16 - v195_6 ≤ (k : Int) → Rn (gG D cI cJ cZ cT lo b L xs) mX12_isFalling d 195 [(0, .ref y), (1, .int (iv x1)), (2, .int (iv x2)), (3, .int (iv y1)), (5, .int (iv v48_5)), (6, .int (iv v195_6))] [] hp195 n 0 0 (pR Γ n 0 1) := by
                  refine lpS _ ?_
                  intro k195 ih195 hp195 ht195 v195_6 hf195 hm195
                  refine r_iload (pc := 195) dX12_isFalling_195 rfl ?_
                  refine r_iload_n (pc := 197) dX12_isFalling_197 (i := 3) rfl rfl ?_
                  refine t_icmp_ge (pc := 198) (tgt := 221) dX12_isFalling_198 (by decide) (by omega) (by omega) (fun c198 => ?_) (fun c198 => ?_)
                  · refine r_aload_n (pc := 221) dX12_isFalling_221 (i := 0) rfl rfl ?_
                    refine t_getE (pc := 222) (.ref (y + 29)) ht195 hO fX12_97 dX12_isFalling_222 rfl ?_
                    refine r_iload_n (pc := 225) dX12_isFalling_225 (i := 2) rfl rfl ?_
                    refine t_lald (pc := 226) (t0 := 1) ht195 (rd_of hA_round) dX12_isFalling_226 rfl (by decide) (by omega) (fun w2 _ => ?_)
                    refine r_lconst (pc := 227) (v := 0) dX12_isFalling_227 (by decide) ?_
                    refine r_lcmp (pc := 228) dX12_isFalling_228 ?_
                    have B237 : ∀ hp237 : MH, Tw Γ hp237 → ∀  (u237_0 : Int), 0 ≤ u237_0 ∧ u237_0 ≤ 1 → Rn (gG D cI cJ cZ cT lo b L xs) mX12_isFalling d 237 [(0, .ref y), (1, .int (iv x1)), (2, .int (iv x2)), (3, .int (iv y1)), (5, .int (iv v48_5))] [.int (iv u237_0)] hp237 n 0 0 (pR Γ n 0 1) := by
                      intro hp237 ht237 u237_0 hf237
                      refine r_istore (pc := 237) (lv' := [(4, .int (iv u237_0)), (0, .ref y), (1, .int (iv x1)), (2, .int (iv x2)), (3, .int (iv y1)), (5, .int (iv v48_5))]) dX12_isFalling_237 (by decide) rfl ?_
                      refine r_iinc (pc := 239) (v := iv (v48_5 + 1)) (lv' := [(5, .int (iv (v48_5 + 1))), (4, .int (iv u237_0)), (0, .ref y), (1, .int (iv x1)), (2, .int (iv x2)), (3, .int (iv y1))]) dX12_isFalling_239 rfl (iv_add _ _) (by decide) rfl ?_
                      refine r_goto (pc := 242) (tgt := 48) dX12_isFalling_242 (by decide) ?_
                      refine Rn.pick (lv' := [(0, .ref y), (1, .int (iv x1)), (2, .int (iv x2)), (3, .int (iv y1)), (4, .int (iv u237_0)), (5, .int (iv (v48_5 + 1)))]) [2, 3, 4, 5, 1, 0] rfl ?_
                      exact ih48 (Int.toNat (16 - (v48_5 + 1))) (by omega) _ ht237 u237_0 (v48_5 + 1) ⟨by omega, by omega, by omega, by omega⟩ (by omega)
                    refine r_if_ge (pc := 229) (tgt := 236) dX12_isFalling_229 (by decide) (fun c229 => ?_) (fun c229 => ?_)
                    · refine r_iconst (pc := 236) (v := iv 0) dX12_isFalling_236 (by decide) ?_
                      refine Rn.pick (lv' := [(0, .ref y), (1, .int (iv x1)), (2, .int (iv x2)), (3, .int (iv y1)), (5, .int (iv v48_5))]) [0, 1, 2, 3, 4] rfl ?_
                      exact B237 _ ht195 0 ⟨by omega, by omega⟩
                    · refine r_iconst (pc := 232) (v := iv 1) dX12_isFalling_232 (by decide) ?_
                      refine r_goto (pc := 233) (tgt := 237) dX12_isFalling_233 (by decide) ?_
                      refine Rn.pick (lv' := [(0, .ref y), (1, .int (iv x1)), (2, .int (iv x2)), (3, .int (iv y1)), (5, .int (iv v48_5))]) [0, 1, 2, 3, 4] rfl ?_
                      exact B237 _ ht195 1 ⟨by omega, by omega⟩
                  · refine r_aload_n (pc := 201) dX12_isFalling_201 (i := 0) rfl rfl ?_
                    refine t_getE (pc := 202) (.ref (y + 29)) ht195 hO fX12_97 dX12_isFalling_202 rfl ?_
                    refine r_iload (pc := 205) dX12_isFalling_205 rfl ?_
                    refine r_aload_n (pc := 207) dX12_isFalling_207 (i := 0) rfl rfl ?_
                    refine t_getE (pc := 208) (.ref (y + 30)) ht195 hO fX12_100 dX12_isFalling_208 rfl ?_
                    refine r_iload (pc := 211) dX12_isFalling_211 rfl ?_
                    refine t_lald (pc := 213) (t0 := 1) ht195 (rd_of hA_round2) dX12_isFalling_213 rfl (by decide) (by omega) (fun w3 _ => ?_)
                    refine t_last (pc := 214) (t0 := 1) ht195 hA_round dX12_isFalling_214 rfl (by decide) (by omega) trivial (fun hp4 ht5 => ?_)
                    refine r_iinc (pc := 215) (v := iv (v195_6 + 1)) (lv' := [(6, .int (iv (v195_6 + 1))), (0, .ref y), (1, .int (iv x1)), (2, .int (iv x2)), (3, .int (iv y1)), (5, .int (iv v48_5))]) dX12_isFalling_215 rfl (iv_add _ _) (by decide) rfl ?_
                    refine r_goto (pc := 218) (tgt := 195) dX12_isFalling_218 (by decide) ?_
                    refine Rn.pick (lv' := [(0, .ref y), (1, .int (iv x1)), (2, .int (iv x2)), (3, .int (iv y1)), (5, .int (iv v48_5)), (6, .int (iv (v195_6 + 1)))]) [1, 2, 3, 4, 5, 0] rfl ?_
                    exact ih195 (Int.toNat (16 - (v195_6 + 1))) (by omega) _ ht5 (v195_6 + 1) ⟨by omega, by omega⟩ (by omega)
                refine Rn.pick (lv' := [(0, .ref y), (1, .int (iv x1)), (2, .int (iv x2)), (3, .int (iv y1)), (5, .int (iv v48_5)), (6, .int (iv 0))]) [1, 2, 3, 4, 5, 0] rfl ?_
                exact B195 (Int.toNat (16 - 0)) _ ht62 0 ⟨by omega, by omega⟩ (by omega)
              · refine r_aload_n (pc := 68) dX12_isFalling_68 (i := 0) rfl rfl ?_
                refine t_getE (pc := 69) (.ref (y + 30)) ht62 hO fX12_100 dX12_isFalling_69 rfl ?_
                refine r_iload (pc := 72) dX12_isFalling_72 rfl ?_
                refine r_ldc2 (pc := 74) (v := 1000000000000) dX12_isFalling_74 kX12_251 ?_
                refine t_last (pc := 77) (t0 := 1) ht62 hA_round2 dX12_isFalling_77 rfl (by decide) (by omega) trivial (fun hp6 ht7 => ?_)
                refine r_iconst (pc := 78) (v := iv 0) dX12_isFalling_78 (by decide) ?_
                refine r_istore (pc := 79) (lv' := [(7, .int (iv 0)), (0, .ref y), (1, .int (iv x1)), (2, .int (iv x2)), (3, .int (iv y1)), (5, .int (iv v48_5)), (6, .int (iv v62_6))]) dX12_isFalling_79 (by decide) rfl ?_
                have B81 : ∀ k : Nat, ∀ hp81 : MH, Tw Γ hp81 → ∀  (v81_7 : Int), 0 ≤ v81_7 ∧ v81_7 ≤ 60 → 60 - v81_7 ≤ (k : Int) → Rn (gG D cI cJ cZ cT lo b L xs) mX12_isFalling d 81 [(0, .ref y), (1, .int (iv x1)), (2, .int (iv x2)), (3, .int (iv y1)), (5, .int (iv v48_5)), (6, .int (iv v62_6)), (7, .int (iv v81_7))] [] hp81 n 0 0 (pR Γ n 0 1) := by
                  refine lpS _ ?_
                  intro k81 ih81 hp81 ht81 v81_7 hf81 hm81
                  refine r_iload (pc := 81) dX12_isFalling_81 rfl ?_
                  refine r_aload_n (pc := 83) dX12_isFalling_83 (i := 0) rfl rfl ?_
                  refine t_getE (pc := 84) (.ref (y + 4)) ht81 hO fX12_20 dX12_isFalling_84 rfl ?_
                  refine r_iload_n (pc := 87) dX12_isFalling_87 (i := 1) rfl rfl ?_
                  refine t_ialdR (pc := 88) (t0 := 0) ht81 hA_many dX12_isFalling_88 rfl (by decide) (by omega) (fun y8 by8 => ?_)
                  refine t_icmp_ge (pc := 89) (tgt := 186) dX12_isFalling_89 (by decide) (by omega) (by omega) (fun c89 => ?_) (fun c89 => ?_)
                  · refine r_iinc (pc := 186) (v := iv (v62_6 + 1)) (lv' := [(6, .int (iv (v62_6 + 1))), (0, .ref y), (1, .int (iv x1)), (2, .int (iv x2)), (3, .int (iv y1)), (5, .int (iv v48_5)), (7, .int (iv v81_7))]) dX12_isFalling_186 rfl (iv_add _ _) (by decide) rfl ?_
                    refine r_goto (pc := 189) (tgt := 62) dX12_isFalling_189 (by decide) ?_
                    refine Rn.pick (lv' := [(0, .ref y), (1, .int (iv x1)), (2, .int (iv x2)), (3, .int (iv y1)), (5, .int (iv v48_5)), (6, .int (iv (v62_6 + 1)))]) [1, 2, 3, 4, 5, 0] rfl ?_
                    exact ih62 (Int.toNat (16 - (v62_6 + 1))) (by omega) _ ht81 (v62_6 + 1) ⟨by omega, by omega⟩ (by omega)
                  · refine r_aload_n (pc := 92) dX12_isFalling_92 (i := 0) rfl rfl ?_
                    refine r_iload_n (pc := 93) dX12_isFalling_93 (i := 1) rfl rfl ?_
                    refine r_iload (pc := 94) dX12_isFalling_94 rfl ?_
                    refine r_iload (pc := 96) dX12_isFalling_96 rfl ?_
                    refine t_callVR (pc := 98) (as := [.int (iv x1), .int (iv v81_7), .int (iv v62_6)]) (st := []) ht81 hO kX12_253 rfl dX12_isFalling_98 (t_X12_into (d := d - 1) (x1 := x1) (x2 := v81_7) (x3 := v62_6) (by omega) hO hA_directs hA_from hA_to ht81 (by omega) (by omega) (by omega)) rfl (by omega) (Nat.le_of_ble_eq_true rfl) rfl (fun hp9 y11 ht10 by11 => ?_)
                    refine r_istore (pc := 101) (lv' := [(8, .int (iv y11)), (0, .ref y), (1, .int (iv x1)), (2, .int (iv x2)), (3, .int (iv y1)), (5, .int (iv v48_5)), (6, .int (iv v62_6)), (7, .int (iv v81_7))]) dX12_isFalling_101 (by decide) rfl ?_
                    refine r_iload (pc := 103) dX12_isFalling_103 rfl ?_
                    have B180 : ∀ hp180 : MH, Tw Γ hp180 → True → Rn (gG D cI cJ cZ cT lo b L xs) mX12_isFalling d 180 [(0, .ref y), (1, .int (iv x1)), (2, .int (iv x2)), (3, .int (iv y1)), (5, .int (iv v48_5)), (6, .int (iv v62_6)), (7, .int (iv v81_7))] [] hp180 n 0 0 (pR Γ n 0 1) := by
                      intro hp180 ht180 hf180
                      refine r_iinc (pc := 180) (v := iv (v81_7 + 1)) (lv' := [(7, .int (iv (v81_7 + 1))), (0, .ref y), (1, .int (iv x1)), (2, .int (iv x2)), (3, .int (iv y1)), (5, .int (iv v48_5)), (6, .int (iv v62_6))]) dX12_isFalling_180 rfl (iv_add _ _) (by decide) rfl ?_
                      refine r_goto (pc := 183) (tgt := 81) dX12_isFalling_183 (by decide) ?_
                      refine Rn.pick (lv' := [(0, .ref y), (1, .int (iv x1)), (2, .int (iv x2)), (3, .int (iv y1)), (5, .int (iv v48_5)), (6, .int (iv v62_6)), (7, .int (iv (v81_7 + 1)))]) [1, 2, 3, 4, 5, 6, 0] rfl ?_
                      exact ih81 (Int.toNat (60 - (v81_7 + 1))) (by omega) _ ht180 (v81_7 + 1) ⟨by omega, by omega⟩ (by omega)
                    refine t_if_lt (pc := 105) (tgt := 180) dX12_isFalling_105 (by decide) (by omega) (fun c105 => ?_) (fun c105 => ?_)
                    · refine Rn.pick (lv' := [(0, .ref y), (1, .int (iv x1)), (2, .int (iv x2)), (3, .int (iv y1)), (5, .int (iv v48_5)), (6, .int (iv v62_6)), (7, .int (iv v81_7))]) [1, 2, 3, 4, 5, 6, 7] rfl ?_
                      exact B180 _ ht10 trivial
                    · refine r_aload_n (pc := 108) dX12_isFalling_108 (i := 0) rfl rfl ?_
                      refine t_getE (pc := 109) (.ref (y + 29)) ht10 hO fX12_97 dX12_isFalling_109 rfl ?_
                      refine r_iload (pc := 112) dX12_isFalling_112 rfl ?_
                      refine t_lald (pc := 114) (t0 := 1) ht10 (rd_of hA_round) dX12_isFalling_114 rfl (by decide) (by omega) (fun w12 _ => ?_)
                      refine r_ldc2 (pc := 115) (v := 1000000000000) dX12_isFalling_115 kX12_251 ?_
                      refine r_lcmp (pc := 118) dX12_isFalling_118 ?_
                      refine r_if_ge (pc := 119) (tgt := 180) dX12_isFalling_119 (by decide) (fun c119 => ?_) (fun c119 => ?_)
                      · refine Rn.pick (lv' := [(0, .ref y), (1, .int (iv x1)), (2, .int (iv x2)), (3, .int (iv y1)), (5, .int (iv v48_5)), (6, .int (iv v62_6)), (7, .int (iv v81_7))]) [1, 2, 3, 4, 5, 6, 7] rfl ?_
                        exact B180 _ ht10 trivial
                      · refine r_aload_n (pc := 122) dX12_isFalling_122 (i := 0) rfl rfl ?_
                        refine t_getE (pc := 123) (.ref (y + 29)) ht10 hO fX12_97 dX12_isFalling_123 rfl ?_
                        refine r_iload (pc := 126) dX12_isFalling_126 rfl ?_
                        refine t_lald (pc := 128) (t0 := 1) ht10 (rd_of hA_round) dX12_isFalling_128 rfl (by decide) (by omega) (fun w13 _ => ?_)
                        refine r_aload_n (pc := 129) dX12_isFalling_129 (i := 0) rfl rfl ?_
                        refine t_getE (pc := 130) (.ref (y + 7)) ht10 hO fX12_29 dX12_isFalling_130 rfl ?_
                        refine r_iload_n (pc := 133) dX12_isFalling_133 (i := 1) rfl rfl ?_
                        refine r_iload (pc := 134) dX12_isFalling_134 rfl ?_
                        refine t_callSR (pc := 136) (as := [.int (iv x1), .int (iv v81_7)]) (st := [.ref (y + 7), .long w13]) kX12_157 dX12_isFalling_136 (t_X12_at1 (d := d - 1) (x1 := x1) (x2 := v81_7) (by omega)  ht10 (by omega) (by omega)) rfl (by omega) (Nat.le_of_ble_eq_true rfl) rfl (fun hp14 y16 ht15 by16 => ?_)
                        refine t_ialdR (pc := 139) (t0 := 0) ht15 hA_weight dX12_isFalling_139 rfl (by decide) (by omega) (fun y17 by17 => ?_)
                        refine r_i2l (pc := 140) (v := (iv y17).toInt64) dX12_isFalling_140 rfl ?_
                        refine r_ladd (pc := 141) (v := w13 + ((iv y17).toInt64)) dX12_isFalling_141 rfl ?_
                        refine r_aload_n (pc := 142) dX12_isFalling_142 (i := 0) rfl rfl ?_
                        refine t_getE (pc := 143) (.ref (y + 30)) ht15 hO fX12_100 dX12_isFalling_143 rfl ?_
                        refine r_iload (pc := 146) dX12_isFalling_146 rfl ?_
                        refine t_lald (pc := 148) (t0 := 1) ht15 (rd_of hA_round2) dX12_isFalling_148 rfl (by decide) (by omega) (fun w18 _ => ?_)
                        refine r_lcmp (pc := 149) dX12_isFalling_149 ?_
                        refine r_if_ge (pc := 150) (tgt := 180) dX12_isFalling_150 (by decide) (fun c150 => ?_) (fun c150 => ?_)
                        · refine Rn.pick (lv' := [(0, .ref y), (1, .int (iv x1)), (2, .int (iv x2)), (3, .int (iv y1)), (5, .int (iv v48_5)), (6, .int (iv v62_6)), (7, .int (iv v81_7))]) [1, 2, 3, 4, 5, 6, 7] rfl ?_
                          exact B180 _ ht15 trivial
                        · refine r_aload_n (pc := 153) dX12_isFalling_153 (i := 0) rfl rfl ?_
                          refine t_getE (pc := 154) (.ref (y + 30)) ht15 hO fX12_100 dX12_isFalling_154 rfl ?_
                          refine r_iload (pc := 157) dX12_isFalling_157 rfl ?_
                          refine r_aload_n (pc := 159) dX12_isFalling_159 (i := 0) rfl rfl ?_
                          refine t_getE (pc := 160) (.ref (y + 29)) ht15 hO fX12_97 dX12_isFalling_160 rfl ?_
                          refine r_iload (pc := 163) dX12_isFalling_163 rfl ?_
                          refine t_lald (pc := 165) (t0 := 1) ht15 (rd_of hA_round) dX12_isFalling_165 rfl (by decide) (by omega) (fun w19 _ => ?_)
                          refine r_aload_n (pc := 166) dX12_isFalling_166 (i := 0) rfl rfl ?_
                          refine t_getE (pc := 167) (.ref (y + 7)) ht15 hO fX12_29 dX12_isFalling_167 rfl ?_
                          refine r_iload_n (pc := 170) dX12_isFalling_170 (i := 1) rfl rfl ?_
                          refine r_iload (pc := 171) dX12_isFalling_171 rfl ?_
                          refine t_callSR (pc := 173) (as := [.int (iv x1), .int (iv v81_7)]) (st := [.ref (y + 7), .long w19, .int (iv v62_6), .ref (y + 30)]) kX12_157 dX12_isFalling_173 (t_X12_at1 (d := d - 1) (x1 := x1) (x2 := v81_7) (by omega)  ht15 (by omega) (by omega)) rfl (by omega) (Nat.le_of_ble_eq_true rfl) rfl (fun hp20 y22 ht21 by22 => ?_)
                          refine t_ialdR (pc := 176) (t0 := 0) ht21 hA_weight dX12_isFalling_176 rfl (by decide) (by omega) (fun y23 by23 => ?_)
                          refine r_i2l (pc := 177) (v := (iv y23).toInt64) dX12_isFalling_177 rfl ?_
                          refine r_ladd (pc := 178) (v := w19 + ((iv y23).toInt64)) dX12_isFalling_178 rfl ?_
                          refine t_last (pc := 179) (t0 := 1) ht21 hA_round2 dX12_isFalling_179 rfl (by decide) (by omega) trivial (fun hp24 ht25 => ?_)
                          refine Rn.pick (lv' := [(0, .ref y), (1, .int (iv x1)), (2, .int (iv x2)), (3, .int (iv y1)), (5, .int (iv v48_5)), (6, .int (iv v62_6)), (7, .int (iv v81_7))]) [1, 2, 3, 4, 5, 6, 7] rfl ?_
                          exact B180 _ ht25 trivial
                refine Rn.pick (lv' := [(0, .ref y), (1, .int (iv x1)), (2, .int (iv x2)), (3, .int (iv y1)), (5, .int (iv v48_5)), (6, .int (iv v62_6)), (7, .int (iv 0))]) [1, 2, 3, 4, 5, 6, 0] rfl ?_
                exact B81 (Int.toNat (60 - 0)) _ ht7 0 ⟨by omega, by omega⟩ (by omega)
            refine Rn.pick (lv' := [(0, .ref y), (1, .int (iv x1)), (2, .int (iv x2)), (3, .int (iv y1)), (5, .int (iv v48_5)), (6, .int (iv 0))]) [1, 2, 3, 4, 6, 0] rfl ?_
            exact B62 (Int.toNat (16 - 0)) _ ht48 0 ⟨by omega, by omega⟩ (by omega)
      refine Rn.pick (lv' := [(0, .ref y), (1, .int (iv x1)), (2, .int (iv x2)), (3, .int (iv y1)), (4, .int (iv 0)), (5, .int (iv 0))]) [2, 3, 4, 5, 1, 0] rfl ?_
      exact B48 (Int.toNat (16 - 0)) _ ht10 0 0 ⟨by omega, by omega, by omega, by omega⟩ (by omega)
    · refine r_aload_n (pc := 16) dX12_isFalling_16 (i := 0) rfl rfl ?_
      refine t_getE (pc := 17) (.ref (y + 29)) ht10 hO fX12_97 dX12_isFalling_17 rfl ?_
      refine r_iload (pc := 20) dX12_isFalling_20 rfl ?_
      refine r_iload (pc := 22) dX12_isFalling_22 rfl ?_
      refine r_iload_n (pc := 24) dX12_isFalling_24 (i := 2) rfl rfl ?_
      have B35 : ∀ hp35 : MH, Tw Γ hp35 → ∀  (x35_2 : Int64), True → Rn (gG D cI cJ cZ cT lo b L xs) mX12_isFalling d 35 [(0, .ref y), (1, .int (iv x1)), (2, .int (iv x2)), (3, .int (iv y1)), (4, .int (iv v10_4))] [.long x35_2, .int (iv v10_4), .ref (y + 29)] hp35 n 0 0 (pR Γ n 0 1) := by
        intro hp35 ht35 x35_2 hf35
        refine t_last (pc := 35) (t0 := 1) ht35 hA_round dX12_isFalling_35 rfl (by decide) (by omega) trivial (fun hp26 ht27 => ?_)
        refine r_iinc (pc := 36) (v := iv (v10_4 + 1)) (lv' := [(4, .int (iv (v10_4 + 1))), (0, .ref y), (1, .int (iv x1)), (2, .int (iv x2)), (3, .int (iv y1))]) dX12_isFalling_36 rfl (iv_add _ _) (by decide) rfl ?_
        refine r_goto (pc := 39) (tgt := 10) dX12_isFalling_39 (by decide) ?_
        refine Rn.pick (lv' := [(0, .ref y), (1, .int (iv x1)), (2, .int (iv x2)), (3, .int (iv y1)), (4, .int (iv (v10_4 + 1)))]) [1, 2, 3, 4, 0] rfl ?_
        exact ih10 (Int.toNat (16 - (v10_4 + 1))) (by omega) _ ht27 (v10_4 + 1) ⟨by omega, by omega⟩ (by omega)
      refine t_icmp_ne (pc := 25) (tgt := 32) dX12_isFalling_25 (by decide) (by omega) (by omega) (fun c25 => ?_) (fun c25 => ?_)
      · refine r_ldc2 (pc := 32) (v := 1000000000000) dX12_isFalling_32 kX12_251 ?_
        refine Rn.pick (lv' := [(0, .ref y), (1, .int (iv x1)), (2, .int (iv x2)), (3, .int (iv y1)), (4, .int (iv v10_4))]) [0, 1, 2, 3, 4] rfl ?_
        exact B35 _ ht10 (1000000000000 : Int64) trivial
      · refine r_lconst (pc := 28) (v := 0) dX12_isFalling_28 (by decide) ?_
        refine r_goto (pc := 29) (tgt := 35) dX12_isFalling_29 (by decide) ?_
        refine Rn.pick (lv' := [(0, .ref y), (1, .int (iv x1)), (2, .int (iv x2)), (3, .int (iv y1)), (4, .int (iv v10_4))]) [0, 1, 2, 3, 4] rfl ?_
        exact B35 _ ht10 (0 : Int64) trivial
  refine Rn.pick (lv' := [(0, .ref y), (1, .int (iv x1)), (2, .int (iv x2)), (3, .int (iv y1)), (4, .int (iv 0))]) [2, 3, 4, 1, 0] rfl ?_
  exact B10 (Int.toNat (16 - 0)) _ ht 0 ⟨by omega, by omega⟩ (by omega)
set_option maxHeartbeats 4000000 in
set_option maxRecDepth 100000 in
theorem t_X12_isEndless {D : va_G} {cI cJ cZ cT : ClassId} {lo b L : Nat} {xs : Nat → Int32} {hp : MH} {n d : Nat} {Γ : TG} {y : Nat} {rf cnt nm : Int32} {x1 x2 x3 : Int} (hd0 : 3 ≤ d) (hO : rd Γ y (tO 11 (mdF y rf cnt nm))) (hA_sizes : rd Γ (y + 2) (tI cI 121 (rg 0 16))) (hA_directs : rd Γ (y + 3) (tI cZ 121 (rg 0 1))) (hA_many : rd Γ (y + 4) (tI cI 121 (rg 0 60))) (hA_from : rd Γ (y + 5) (tI cI 7260 (rg 0 15))) (hA_to : rd Γ (y + 6) (tI cI 7260 (rg 0 15))) (hA_weight : rd Γ (y + 7) (tI cI 7260 (rg (-1000) 1000))) (hA_round : Γ (y + 29) = some (tJ cJ 16 anyJ)) (hA_round2 : Γ (y + 30) = some (tJ cJ 16 anyJ)) (ht : Tw Γ hp) (hx1 : 0 ≤ x1 ∧ x1 ≤ 120) (hx2 : 0 ≤ x2 ∧ x2 ≤ 15) (hx3 : 0 ≤ x3 ∧ x3 ≤ 15) : Mt (gG D cI cJ cZ cT lo b L xs) mX12_isEndless d 0 0 [.ref y, .int (iv x1), .int (iv x2), .int (iv x3)] hp n (pR Γ n 0 1) := by
  refine Mt.of rfl (Nat.le_of_ble_eq_true rfl) ?_
  refine Rn.pick (lv' := [(0, .ref y), (1, .int (iv x1)), (2, .int (iv x2)), (3, .int (iv x3))]) [0, 1, 2, 3] rfl ?_
  refine r_aload_n (pc := 0) dX12_isEndless_0 (i := 0) rfl rfl ?_
  refine t_getE (pc := 1) (.ref (y + 2)) ht hO fX12_13 dX12_isEndless_1 rfl ?_
  refine r_iload_n (pc := 4) dX12_isEndless_4 (i := 1) rfl rfl ?_
  refine t_ialdR (pc := 5) (t0 := 0) ht hA_sizes dX12_isEndless_5 rfl (by decide) (by omega) (fun y1 by1 => ?_)
  refine r_istore (pc := 6) (lv' := [(4, .int (iv y1)), (0, .ref y), (1, .int (iv x1)), (2, .int (iv x2)), (3, .int (iv x3))]) dX12_isEndless_6 (by decide) rfl ?_
  refine r_iconst (pc := 8) (v := iv 0) dX12_isEndless_8 (by decide) ?_
  refine r_istore (pc := 9) (lv' := [(5, .int (iv 0)), (4, .int (iv y1)), (0, .ref y), (1, .int (iv x1)), (2, .int (iv x2)), (3, .int (iv x3))]) dX12_isEndless_9 (by decide) rfl ?_
  refine r_iconst (pc := 11) (v := iv 0) dX12_isEndless_11 (by decide) ?_
  refine r_istore (pc := 12) (lv' := [(6, .int (iv 0)), (5, .int (iv 0)), (4, .int (iv y1)), (0, .ref y), (1, .int (iv x1)), (2, .int (iv x2)), (3, .int (iv x3))]) dX12_isEndless_12 (by decide) rfl ?_
  have B14 : ∀ k : Nat, ∀ hp14 : MH, Tw Γ hp14 → ∀  (v14_5 : Int) (v14_6 : Int), 0 ≤ v14_5 ∧ v14_5 ≤ 65535 ∧ 0 ≤ v14_6 ∧ v14_6 ≤ 16 → 16 - v14_6 ≤ (k : Int) → Rn (gG D cI cJ cZ cT lo b L xs) mX12_isEndless d 14 [(0, .ref y), (1, .int (iv x1)), (2, .int (iv x2)), (3, .int (iv x3)), (4, .int (iv y1)), (5, .int (iv v14_5)), (6, .int (iv v14_6))] [] hp14 n 0 0 (pR Γ n 0 1) := by
    refine lpS _ ?_
    intro k14 ih14 hp14 ht14 v14_5 v14_6 hf14 hm14
    refine r_iload (pc := 14) dX12_isEndless_14 rfl ?_
    refine r_iload (pc := 16) dX12_isEndless_16 rfl ?_
    refine t_icmp_ge (pc := 18) (tgt := 63) dX12_isEndless_18 (by decide) (by omega) (by omega) (fun c18 => ?_) (fun c18 => ?_)
    · refine r_iload (pc := 63) dX12_isEndless_63 rfl ?_
      have B88 : ∀ hp88 : MH, Tw Γ hp88 → ∀  (u88_0 : Int), 0 ≤ u88_0 ∧ u88_0 ≤ 1 → Rn (gG D cI cJ cZ cT lo b L xs) mX12_isEndless d 88 [] [.int (iv u88_0)] hp88 n 0 0 (pR Γ n 0 1) := by
        intro hp88 ht88 u88_0 hf88
        exact r_zret (pc := 88) dX12_isEndless_88 rfl (iv_nar (by omega)) ⟨rfl, ht88, _, rfl, by omega, by omega⟩
      have B87 : ∀ hp87 : MH, Tw Γ hp87 → True → Rn (gG D cI cJ cZ cT lo b L xs) mX12_isEndless d 87 [] [] hp87 n 0 0 (pR Γ n 0 1) := by
        intro hp87 ht87 hf87
        refine r_iconst (pc := 87) (v := iv 0) dX12_isEndless_87 (by decide) ?_
        refine Rn.pick (lv' := []) [] rfl ?_
        exact B88 _ ht87 0 ⟨by omega, by omega⟩
      refine t_if_eq (pc := 65) (tgt := 87) dX12_isEndless_65 (by decide) (by omega) (fun c65 => ?_) (fun c65 => ?_)
      · refine Rn.pick (lv' := []) [] rfl ?_
        exact B87 _ ht14 trivial
      · refine r_aload_n (pc := 68) dX12_isEndless_68 (i := 0) rfl rfl ?_
        refine r_iload_n (pc := 69) dX12_isEndless_69 (i := 1) rfl rfl ?_
        refine r_iload (pc := 70) dX12_isEndless_70 rfl ?_
        refine t_callVR (pc := 72) (as := [.int (iv x1), .int (iv v14_5)]) (st := []) ht14 hO kX12_283 rfl dX12_isEndless_72 (t_X12_reachAll (d := d - 1) (x1 := x1) (x2 := v14_5) (by omega) hO hA_directs hA_many hA_from hA_to ht14 (by omega) (by omega)) rfl (by omega) (Nat.le_of_ble_eq_true rfl) rfl (fun hp2 y4 ht3 by4 => ?_)
        refine r_iload_n (pc := 75) dX12_isEndless_75 (i := 3) rfl rfl ?_
        obtain ⟨z5, hz5, bz5⟩ := shr_x y4 x3 (by omega) (by omega)
        refine r_ishr (pc := 76) (v := iv z5) dX12_isEndless_76 hz5 ?_
        refine r_iconst (pc := 77) (v := iv 1) dX12_isEndless_77 (by decide) ?_
        obtain ⟨z6, hz6, bz6⟩ := and_2 z5 1 (by omega) (by omega)
        refine r_iand (pc := 78) (v := iv z6) dX12_isEndless_78 hz6 ?_
        refine r_iconst (pc := 79) (v := iv 1) dX12_isEndless_79 (by decide) ?_
        refine t_icmp_ne (pc := 80) (tgt := 87) dX12_isEndless_80 (by decide) (by omega) (by omega) (fun c80 => ?_) (fun c80 => ?_)
        · refine Rn.pick (lv' := []) [] rfl ?_
          exact B87 _ ht3 trivial
        · refine r_iconst (pc := 83) (v := iv 1) dX12_isEndless_83 (by decide) ?_
          refine r_goto (pc := 84) (tgt := 88) dX12_isEndless_84 (by decide) ?_
          refine Rn.pick (lv' := []) [] rfl ?_
          exact B88 _ ht3 1 ⟨by omega, by omega⟩
    · refine r_aload_n (pc := 21) dX12_isEndless_21 (i := 0) rfl rfl ?_
      refine r_iload_n (pc := 22) dX12_isEndless_22 (i := 1) rfl rfl ?_
      refine r_iconst (pc := 23) (v := iv 1) dX12_isEndless_23 (by decide) ?_
      refine r_iload_n (pc := 24) dX12_isEndless_24 (i := 2) rfl rfl ?_
      obtain ⟨z7, hz7, bz7⟩ := shl_1 0 15 x2 (by omega) (by omega) (by decide)
      refine r_ishl (pc := 25) (v := iv z7) dX12_isEndless_25 hz7 ?_
      refine t_callVR (pc := 26) (as := [.int (iv x1), .int (iv z7)]) (st := []) ht14 hO kX12_283 rfl dX12_isEndless_26 (t_X12_reachAll (d := d - 1) (x1 := x1) (x2 := z7) (by omega) hO hA_directs hA_many hA_from hA_to ht14 (by omega) (by omega)) rfl (by omega) (Nat.le_of_ble_eq_true rfl) rfl (fun hp8 y10 ht9 by10 => ?_)
      refine r_iload (pc := 29) dX12_isEndless_29 rfl ?_
      obtain ⟨z11, hz11, bz11⟩ := shr_x y10 v14_6 (by omega) (by omega)
      refine r_ishr (pc := 31) (v := iv z11) dX12_isEndless_31 hz11 ?_
      refine r_iconst (pc := 32) (v := iv 1) dX12_isEndless_32 (by decide) ?_
      obtain ⟨z12, hz12, bz12⟩ := and_2 z11 1 (by omega) (by omega)
      refine r_iand (pc := 33) (v := iv z12) dX12_isEndless_33 hz12 ?_
      refine r_iconst (pc := 34) (v := iv 1) dX12_isEndless_34 (by decide) ?_
      have B57 : ∀ hp57 : MH, Tw Γ hp57 → ∀  (v57_5 : Int), 0 ≤ v57_5 ∧ v57_5 ≤ 65535 ∧ v14_5 ≤ v57_5 → Rn (gG D cI cJ cZ cT lo b L xs) mX12_isEndless d 57 [(0, .ref y), (1, .int (iv x1)), (2, .int (iv x2)), (3, .int (iv x3)), (4, .int (iv y1)), (5, .int (iv v57_5)), (6, .int (iv v14_6))] [] hp57 n 0 0 (pR Γ n 0 1) := by
        intro hp57 ht57 v57_5 hf57
        refine r_iinc (pc := 57) (v := iv (v14_6 + 1)) (lv' := [(6, .int (iv (v14_6 + 1))), (0, .ref y), (1, .int (iv x1)), (2, .int (iv x2)), (3, .int (iv x3)), (4, .int (iv y1)), (5, .int (iv v57_5))]) dX12_isEndless_57 rfl (iv_add _ _) (by decide) rfl ?_
        refine r_goto (pc := 60) (tgt := 14) dX12_isEndless_60 (by decide) ?_
        refine Rn.pick (lv' := [(0, .ref y), (1, .int (iv x1)), (2, .int (iv x2)), (3, .int (iv x3)), (4, .int (iv y1)), (5, .int (iv v57_5)), (6, .int (iv (v14_6 + 1)))]) [1, 2, 3, 4, 5, 6, 0] rfl ?_
        exact ih14 (Int.toNat (16 - (v14_6 + 1))) (by omega) _ ht57 v57_5 (v14_6 + 1) ⟨by omega, by omega, by omega, by omega⟩ (by omega)
      refine t_icmp_ne (pc := 35) (tgt := 57) dX12_isEndless_35 (by decide) (by omega) (by omega) (fun c35 => ?_) (fun c35 => ?_)
      · refine Rn.pick (lv' := [(0, .ref y), (1, .int (iv x1)), (2, .int (iv x2)), (3, .int (iv x3)), (4, .int (iv y1)), (5, .int (iv v14_5)), (6, .int (iv v14_6))]) [0, 1, 2, 3, 4, 5, 6] rfl ?_
        exact B57 _ ht9 v14_5 ⟨by omega, by omega, by omega⟩
      · refine r_aload_n (pc := 38) dX12_isEndless_38 (i := 0) rfl rfl ?_
        refine r_iload_n (pc := 39) dX12_isEndless_39 (i := 1) rfl rfl ?_
        refine r_iload (pc := 40) dX12_isEndless_40 rfl ?_
        refine t_callVR (pc := 42) (as := [.int (iv x1), .int (iv v14_6)]) (st := []) ht9 hO kX12_286 rfl dX12_isEndless_42 (t_X12_isFalling (d := d - 1) (x1 := x1) (x2 := v14_6) (by omega) hO hA_sizes hA_directs hA_many hA_from hA_to hA_weight hA_round hA_round2 ht9 (by omega) (by omega)) rfl (by omega) (Nat.le_of_ble_eq_true rfl) rfl (fun hp13 y15 ht14 by15 => ?_)
        refine t_if_eq (pc := 45) (tgt := 57) dX12_isEndless_45 (by decide) (by omega) (fun c45 => ?_) (fun c45 => ?_)
        · refine Rn.pick (lv' := [(0, .ref y), (1, .int (iv x1)), (2, .int (iv x2)), (3, .int (iv x3)), (4, .int (iv y1)), (5, .int (iv v14_5)), (6, .int (iv v14_6))]) [0, 1, 2, 3, 4, 5, 6] rfl ?_
          exact B57 _ ht14 v14_5 ⟨by omega, by omega, by omega⟩
        · refine r_iload (pc := 48) dX12_isEndless_48 rfl ?_
          refine r_iconst (pc := 50) (v := iv 1) dX12_isEndless_50 (by decide) ?_
          refine r_iload (pc := 51) dX12_isEndless_51 rfl ?_
          obtain ⟨z16, hz16, bz16⟩ := shl_1 0 15 v14_6 (by omega) (by omega) (by decide)
          refine r_ishl (pc := 53) (v := iv z16) dX12_isEndless_53 hz16 ?_
          obtain ⟨z17, hz17, bz17⟩ := or_2 16 v14_5 z16 (by omega) (by omega) (by decide)
          refine r_ior (pc := 54) (v := iv z17) dX12_isEndless_54 hz17 ?_
          refine r_istore (pc := 55) (lv' := [(5, .int (iv z17)), (0, .ref y), (1, .int (iv x1)), (2, .int (iv x2)), (3, .int (iv x3)), (4, .int (iv y1)), (6, .int (iv v14_6))]) dX12_isEndless_55 (by decide) rfl ?_
          refine Rn.pick (lv' := [(0, .ref y), (1, .int (iv x1)), (2, .int (iv x2)), (3, .int (iv x3)), (4, .int (iv y1)), (5, .int (iv z17)), (6, .int (iv v14_6))]) [1, 2, 3, 4, 5, 0, 6] rfl ?_
          exact B57 _ ht14 z17 ⟨by omega, by omega, by omega⟩
  refine Rn.pick (lv' := [(0, .ref y), (1, .int (iv x1)), (2, .int (iv x2)), (3, .int (iv x3)), (4, .int (iv y1)), (5, .int (iv 0)), (6, .int (iv 0))]) [3, 4, 5, 6, 2, 1, 0] rfl ?_
  exact B14 (Int.toNat (16 - 0)) _ ht 0 0 ⟨by omega, by omega, by omega, by omega⟩ (by omega)
set_option maxHeartbeats 4000000 in
set_option maxRecDepth 100000 in
theorem t_X12_withoutBridges {D : va_G} {cI cJ cZ cT : ClassId} {lo b L : Nat} {xs : Nat → Int32} {hp : MH} {n d : Nat} {Γ : TG} {y : Nat} {rf cnt nm : Int32} {x1 : Int} (hd0 : 1 ≤ d) (hO : rd Γ y (tO 11 (mdF y rf cnt nm))) (hA_many : rd Γ (y + 4) (tI cI 121 (rg 0 60))) (hA_from : rd Γ (y + 5) (tI cI 7260 (rg 0 15))) (hA_to : rd Γ (y + 6) (tI cI 7260 (rg 0 15))) (hA_beside : Γ (y + 24) = some (tI cI 16 (rg 0 65535))) (hA_bridge : rd Γ (y + 32) (tI cZ 60 (rg 0 1))) (ht : Tw Γ hp) (hx1 : 0 ≤ x1 ∧ x1 ≤ 120) : Mt (gG D cI cJ cZ cT lo b L xs) mX12_withoutBridges d 0 0 [.ref y, .int (iv x1)] hp n (pV Γ n) := by
  refine Mt.of rfl (Nat.le_of_ble_eq_true rfl) ?_
  refine Rn.pick (lv' := [(0, .ref y), (1, .int (iv x1))]) [0, 1] rfl ?_
  refine r_iconst (pc := 0) (v := iv 0) dX12_withoutBridges_0 (by decide) ?_
  refine r_istore_n (pc := 1) (lv' := [(2, .int (iv 0)), (0, .ref y), (1, .int (iv x1))]) dX12_withoutBridges_1 (i := 2) rfl (by decide) rfl ?_
  have B2 : ∀ k : Nat, ∀ hp2 : MH, Tw Γ hp2 → ∀  (v2_2 : Int), 0 ≤ v2_2 ∧ v2_2 ≤ 16 → 16 - v2_2 ≤ (k : Int) → Rn (gG D cI cJ cZ cT lo b L xs) mX12_withoutBridges d 2 [(0, .ref y), (1, .int (iv x1)), (2, .int (iv v2_2))] [] hp2 n 0 0 (pV Γ n) := by
    refine lpS _ ?_
    intro k2 ih2 hp2 ht2 v2_2 hf2 hm2
    refine r_iload_n (pc := 2) dX12_withoutBridges_2 (i := 2) rfl rfl ?_
    refine r_bipush (pc := 3) (v := iv 16) dX12_withoutBridges_3 (by decide) ?_
    refine t_icmp_ge (pc := 5) (tgt := 21) dX12_withoutBridges_5 (by decide) (by omega) (by omega) (fun c5 => ?_) (fun c5 => ?_)
    · refine r_iconst (pc := 21) (v := iv 0) dX12_withoutBridges_21 (by decide) ?_
      refine r_istore_n (pc := 22) (lv' := [(2, .int (iv 0)), (0, .ref y), (1, .int (iv x1))]) dX12_withoutBridges_22 (i := 2) rfl (by decide) rfl ?_
      have B23 : ∀ k : Nat, ∀ hp23 : MH, Tw Γ hp23 → ∀  (v23_2 : Int), 0 ≤ v23_2 ∧ v23_2 ≤ 60 → 60 - v23_2 ≤ (k : Int) → Rn (gG D cI cJ cZ cT lo b L xs) mX12_withoutBridges d 23 [(0, .ref y), (1, .int (iv x1)), (2, .int (iv v23_2))] [] hp23 n 0 0 (pV Γ n) := by
        refine lpS _ ?_
        intro k23 ih23 hp23 ht23 v23_2 hf23 hm23
        refine r_iload_n (pc := 23) dX12_withoutBridges_23 (i := 2) rfl rfl ?_
        refine r_aload_n (pc := 24) dX12_withoutBridges_24 (i := 0) rfl rfl ?_
        refine t_getE (pc := 25) (.ref (y + 4)) ht23 hO fX12_20 dX12_withoutBridges_25 rfl ?_
        refine r_iload_n (pc := 28) dX12_withoutBridges_28 (i := 1) rfl rfl ?_
        refine t_ialdR (pc := 29) (t0 := 0) ht23 hA_many dX12_withoutBridges_29 rfl (by decide) (by omega) (fun y1 by1 => ?_)
        refine t_icmp_ge (pc := 30) (tgt := 113) dX12_withoutBridges_30 (by decide) (by omega) (by omega) (fun c30 => ?_) (fun c30 => ?_)
        · exact r_vret (pc := 113) dX12_withoutBridges_113 rfl ⟨rfl, ht23, rfl⟩
        · refine r_iload_n (pc := 33) dX12_withoutBridges_33 (i := 1) rfl rfl ?_
          refine r_iload_n (pc := 34) dX12_withoutBridges_34 (i := 2) rfl rfl ?_
          refine t_callSR (pc := 35) (as := [.int (iv x1), .int (iv v23_2)]) (st := []) kX12_157 dX12_withoutBridges_35 (t_X12_at1 (d := d - 1) (x1 := x1) (x2 := v23_2) (by omega)  ht23 (by omega) (by omega)) rfl (by omega) (Nat.le_of_ble_eq_true rfl) rfl (fun hp2 y4 ht3 by4 => ?_)
          refine r_istore_n (pc := 38) (lv' := [(3, .int (iv y4)), (0, .ref y), (1, .int (iv x1)), (2, .int (iv v23_2))]) dX12_withoutBridges_38 (i := 3) rfl (by decide) rfl ?_
          refine r_aload_n (pc := 39) dX12_withoutBridges_39 (i := 0) rfl rfl ?_
          refine t_getE (pc := 40) (.ref (y + 32)) ht3 hO fX12_106 dX12_withoutBridges_40 rfl ?_
          refine r_iload_n (pc := 43) dX12_withoutBridges_43 (i := 2) rfl rfl ?_
          refine t_zaldR (pc := 44) (t0 := 2) ht3 hA_bridge dX12_withoutBridges_44 rfl (by decide) (by omega) (fun y5 by5 => ?_)
          have B107 : ∀ hp107 : MH, Tw Γ hp107 → True → Rn (gG D cI cJ cZ cT lo b L xs) mX12_withoutBridges d 107 [(0, .ref y), (1, .int (iv x1)), (2, .int (iv v23_2))] [] hp107 n 0 0 (pV Γ n) := by
            intro hp107 ht107 hf107
            refine r_iinc (pc := 107) (v := iv (v23_2 + 1)) (lv' := [(2, .int (iv (v23_2 + 1))), (0, .ref y), (1, .int (iv x1))]) dX12_withoutBridges_107 rfl (iv_add _ _) (by decide) rfl ?_
            refine r_goto (pc := 110) (tgt := 23) dX12_withoutBridges_110 (by decide) ?_
            refine Rn.pick (lv' := [(0, .ref y), (1, .int (iv x1)), (2, .int (iv (v23_2 + 1)))]) [1, 2, 0] rfl ?_
            exact ih23 (Int.toNat (60 - (v23_2 + 1))) (by omega) _ ht107 (v23_2 + 1) ⟨by omega, by omega⟩ (by omega)
          refine t_if_ne (pc := 45) (tgt := 107) dX12_withoutBridges_45 (by decide) (by omega) (fun c45 => ?_) (fun c45 => ?_)
          · refine Rn.pick (lv' := [(0, .ref y), (1, .int (iv x1)), (2, .int (iv v23_2))]) [1, 2, 3] rfl ?_
            exact B107 _ ht3 trivial
          · refine r_aload_n (pc := 48) dX12_withoutBridges_48 (i := 0) rfl rfl ?_
            refine t_getE (pc := 49) (.ref (y + 5)) ht3 hO fX12_23 dX12_withoutBridges_49 rfl ?_
            refine r_iload_n (pc := 52) dX12_withoutBridges_52 (i := 3) rfl rfl ?_
            refine t_ialdR (pc := 53) (t0 := 0) ht3 hA_from dX12_withoutBridges_53 rfl (by decide) (by omega) (fun y6 by6 => ?_)
            refine r_aload_n (pc := 54) dX12_withoutBridges_54 (i := 0) rfl rfl ?_
            refine t_getE (pc := 55) (.ref (y + 6)) ht3 hO fX12_26 dX12_withoutBridges_55 rfl ?_
            refine r_iload_n (pc := 58) dX12_withoutBridges_58 (i := 3) rfl rfl ?_
            refine t_ialdR (pc := 59) (t0 := 0) ht3 hA_to dX12_withoutBridges_59 rfl (by decide) (by omega) (fun y7 by7 => ?_)
            refine t_icmp_eq (pc := 60) (tgt := 107) dX12_withoutBridges_60 (by decide) (by omega) (by omega) (fun c60 => ?_) (fun c60 => ?_)
            · refine Rn.pick (lv' := [(0, .ref y), (1, .int (iv x1)), (2, .int (iv v23_2))]) [1, 2, 3] rfl ?_
              exact B107 _ ht3 trivial
            · refine r_aload_n (pc := 63) dX12_withoutBridges_63 (i := 0) rfl rfl ?_
              refine t_getE (pc := 64) (.ref (y + 24)) ht3 hO fX12_81 dX12_withoutBridges_64 rfl ?_
              refine r_aload_n (pc := 67) dX12_withoutBridges_67 (i := 0) rfl rfl ?_
              refine t_getE (pc := 68) (.ref (y + 5)) ht3 hO fX12_23 dX12_withoutBridges_68 rfl ?_
              refine r_iload_n (pc := 71) dX12_withoutBridges_71 (i := 3) rfl rfl ?_
              refine t_ialdR (pc := 72) (t0 := 0) ht3 hA_from dX12_withoutBridges_72 rfl (by decide) (by omega) (fun y8 by8 => ?_)
              refine r_dup2_11 (pc := 73) dX12_withoutBridges_73 rfl rfl ?_
              refine t_ialdR (pc := 74) (t0 := 0) ht3 (rd_of hA_beside) dX12_withoutBridges_74 rfl (by decide) (by omega) (fun y9 by9 => ?_)
              refine r_iconst (pc := 75) (v := iv 1) dX12_withoutBridges_75 (by decide) ?_
              refine r_aload_n (pc := 76) dX12_withoutBridges_76 (i := 0) rfl rfl ?_
              refine t_getE (pc := 77) (.ref (y + 6)) ht3 hO fX12_26 dX12_withoutBridges_77 rfl ?_
              refine r_iload_n (pc := 80) dX12_withoutBridges_80 (i := 3) rfl rfl ?_
              refine t_ialdR (pc := 81) (t0 := 0) ht3 hA_to dX12_withoutBridges_81 rfl (by decide) (by omega) (fun y10 by10 => ?_)
              obtain ⟨z11, hz11, bz11⟩ := shl_1 0 15 y10 (by omega) (by omega) (by decide)
              refine r_ishl (pc := 82) (v := iv z11) dX12_withoutBridges_82 hz11 ?_
              obtain ⟨z12, hz12, bz12⟩ := or_2 16 y9 z11 (by omega) (by omega) (by decide)
              refine r_ior (pc := 83) (v := iv z12) dX12_withoutBridges_83 hz12 ?_
              refine t_iastR (pc := 84) (t0 := 0) ht3 hA_beside dX12_withoutBridges_84 rfl (by decide) (by decide) (by omega) (by omega) (fun hp13 ht14 => ?_)
              refine r_aload_n (pc := 85) dX12_withoutBridges_85 (i := 0) rfl rfl ?_
              refine t_getE (pc := 86) (.ref (y + 24)) ht14 hO fX12_81 dX12_withoutBridges_86 rfl ?_
              refine r_aload_n (pc := 89) dX12_withoutBridges_89 (i := 0) rfl rfl ?_
              refine t_getE (pc := 90) (.ref (y + 6)) ht14 hO fX12_26 dX12_withoutBridges_90 rfl ?_
              refine r_iload_n (pc := 93) dX12_withoutBridges_93 (i := 3) rfl rfl ?_
              refine t_ialdR (pc := 94) (t0 := 0) ht14 hA_to dX12_withoutBridges_94 rfl (by decide) (by omega) (fun y15 by15 => ?_)
              refine r_dup2_11 (pc := 95) dX12_withoutBridges_95 rfl rfl ?_
              refine t_ialdR (pc := 96) (t0 := 0) ht14 (rd_of hA_beside) dX12_withoutBridges_96 rfl (by decide) (by omega) (fun y16 by16 => ?_)
              refine r_iconst (pc := 97) (v := iv 1) dX12_withoutBridges_97 (by decide) ?_
              refine r_aload_n (pc := 98) dX12_withoutBridges_98 (i := 0) rfl rfl ?_
              refine t_getE (pc := 99) (.ref (y + 5)) ht14 hO fX12_23 dX12_withoutBridges_99 rfl ?_
              refine r_iload_n (pc := 102) dX12_withoutBridges_102 (i := 3) rfl rfl ?_
              refine t_ialdR (pc := 103) (t0 := 0) ht14 hA_from dX12_withoutBridges_103 rfl (by decide) (by omega) (fun y17 by17 => ?_)
              obtain ⟨z18, hz18, bz18⟩ := shl_1 0 15 y17 (by omega) (by omega) (by decide)
              refine r_ishl (pc := 104) (v := iv z18) dX12_withoutBridges_104 hz18 ?_
              obtain ⟨z19, hz19, bz19⟩ := or_2 16 y16 z18 (by omega) (by omega) (by decide)
              refine r_ior (pc := 105) (v := iv z19) dX12_withoutBridges_105 hz19 ?_
              refine t_iastR (pc := 106) (t0 := 0) ht14 hA_beside dX12_withoutBridges_106 rfl (by decide) (by decide) (by omega) (by omega) (fun hp20 ht21 => ?_)
              refine Rn.pick (lv' := [(0, .ref y), (1, .int (iv x1)), (2, .int (iv v23_2))]) [1, 2, 3] rfl ?_
              exact B107 _ ht21 trivial
      refine Rn.pick (lv' := [(0, .ref y), (1, .int (iv x1)), (2, .int (iv 0))]) [1, 2, 0] rfl ?_
      exact B23 (Int.toNat (60 - 0)) _ ht2 0 ⟨by omega, by omega⟩ (by omega)
    · refine r_aload_n (pc := 8) dX12_withoutBridges_8 (i := 0) rfl rfl ?_
      refine t_getE (pc := 9) (.ref (y + 24)) ht2 hO fX12_81 dX12_withoutBridges_9 rfl ?_
      refine r_iload_n (pc := 12) dX12_withoutBridges_12 (i := 2) rfl rfl ?_
      refine r_iconst (pc := 13) (v := iv 0) dX12_withoutBridges_13 (by decide) ?_
      refine t_iastR (pc := 14) (t0 := 0) ht2 hA_beside dX12_withoutBridges_14 rfl (by decide) (by decide) (by omega) (by omega) (fun hp22 ht23 => ?_)
      refine r_iinc (pc := 15) (v := iv (v2_2 + 1)) (lv' := [(2, .int (iv (v2_2 + 1))), (0, .ref y), (1, .int (iv x1))]) dX12_withoutBridges_15 rfl (iv_add _ _) (by decide) rfl ?_
      refine r_goto (pc := 18) (tgt := 2) dX12_withoutBridges_18 (by decide) ?_
      refine Rn.pick (lv' := [(0, .ref y), (1, .int (iv x1)), (2, .int (iv (v2_2 + 1)))]) [1, 2, 0] rfl ?_
      exact ih2 (Int.toNat (16 - (v2_2 + 1))) (by omega) _ ht23 (v2_2 + 1) ⟨by omega, by omega⟩ (by omega)
  refine Rn.pick (lv' := [(0, .ref y), (1, .int (iv x1)), (2, .int (iv 0))]) [1, 2, 0] rfl ?_
  exact B2 (Int.toNat (16 - 0)) _ ht 0 ⟨by omega, by omega⟩ (by omega)
set_option maxHeartbeats 4000000 in
set_option maxRecDepth 100000 in
theorem t_X12_same {D : va_G} {cI cJ cZ cT : ClassId} {lo b L : Nat} {xs : Nat → Int32} {hp : MH} {n d : Nat} {Γ : TG} {y : Nat} {rf cnt nm : Int32} {x1 : Int} (hd0 : 1 ≤ d) (hO : rd Γ y (tO 11 (mdF y rf cnt nm))) (hA_sizes : rd Γ (y + 2) (tI cI 121 (rg 0 16))) (hA_directs : rd Γ (y + 3) (tI cZ 121 (rg 0 1))) (hA_many : rd Γ (y + 4) (tI cI 121 (rg 0 60))) (hA_from : rd Γ (y + 5) (tI cI 7260 (rg 0 15))) (hA_to : rd Γ (y + 6) (tI cI 7260 (rg 0 15))) (hA_label : Γ (y + 31) = some (tI cI 16 (rg 0 65535))) (hA_outs : Γ (y + 33) = some (tI cI 16 (rg 0 65535))) (hA_ins : Γ (y + 34) = some (tI cI 16 (rg 0 65535))) (ht : Tw Γ hp) (hx1 : 0 ≤ x1 ∧ x1 ≤ 120) : Mt (gG D cI cJ cZ cT lo b L xs) mX12_same d 0 0 [.ref y, .int (iv x1)] hp n (pV Γ n) := by
  refine Mt.of rfl (Nat.le_of_ble_eq_true rfl) ?_
  refine Rn.pick (lv' := [(0, .ref y), (1, .int (iv x1))]) [0, 1] rfl ?_
  refine r_aload_n (pc := 0) dX12_same_0 (i := 0) rfl rfl ?_
  refine t_getE (pc := 1) (.ref (y + 2)) ht hO fX12_13 dX12_same_1 rfl ?_
  refine r_iload_n (pc := 4) dX12_same_4 (i := 1) rfl rfl ?_
  refine t_ialdR (pc := 5) (t0 := 0) ht hA_sizes dX12_same_5 rfl (by decide) (by omega) (fun y1 by1 => ?_)
  refine r_istore_n (pc := 6) (lv' := [(2, .int (iv y1)), (0, .ref y), (1, .int (iv x1))]) dX12_same_6 (i := 2) rfl (by decide) rfl ?_
  refine r_iconst (pc := 7) (v := iv 0) dX12_same_7 (by decide) ?_
  refine r_istore_n (pc := 8) (lv' := [(3, .int (iv 0)), (2, .int (iv y1)), (0, .ref y), (1, .int (iv x1))]) dX12_same_8 (i := 3) rfl (by decide) rfl ?_
  have B9 : ∀ k : Nat, ∀ hp9 : MH, Tw Γ hp9 → ∀  (v9_3 : Int), 0 ≤ v9_3 ∧ v9_3 ≤ 16 → 16 - v9_3 ≤ (k : Int) → Rn (gG D cI cJ cZ cT lo b L xs) mX12_same d 9 [(0, .ref y), (1, .int (iv x1)), (2, .int (iv y1)), (3, .int (iv v9_3))] [] hp9 n 0 0 (pV Γ n) := by
    refine lpS _ ?_
    intro k9 ih9 hp9 ht9 v9_3 hf9 hm9
    refine r_iload_n (pc := 9) dX12_same_9 (i := 3) rfl rfl ?_
    refine r_iload_n (pc := 10) dX12_same_10 (i := 2) rfl rfl ?_
    refine t_icmp_ge (pc := 11) (tgt := 34) dX12_same_11 (by decide) (by omega) (by omega) (fun c11 => ?_) (fun c11 => ?_)
    · refine r_iconst (pc := 34) (v := iv 0) dX12_same_34 (by decide) ?_
      refine r_istore_n (pc := 35) (lv' := [(3, .int (iv 0)), (0, .ref y), (1, .int (iv x1)), (2, .int (iv y1))]) dX12_same_35 (i := 3) rfl (by decide) rfl ?_
      have B36 : ∀ k : Nat, ∀ hp36 : MH, Tw Γ hp36 → ∀  (v36_3 : Int), 0 ≤ v36_3 ∧ v36_3 ≤ 60 → 60 - v36_3 ≤ (k : Int) → Rn (gG D cI cJ cZ cT lo b L xs) mX12_same d 36 [(0, .ref y), (1, .int (iv x1)), (2, .int (iv y1)), (3, .int (iv v36_3))] [] hp36 n 0 0 (pV Γ n) := by
        refine lpS _ ?_
        intro k36 ih36 hp36 ht36 v36_3 hf36 hm36
        refine r_iload_n (pc := 36) dX12_same_36 (i := 3) rfl rfl ?_
        refine r_aload_n (pc := 37) dX12_same_37 (i := 0) rfl rfl ?_
        refine t_getE (pc := 38) (.ref (y + 4)) ht36 hO fX12_20 dX12_same_38 rfl ?_
        refine r_iload_n (pc := 41) dX12_same_41 (i := 1) rfl rfl ?_
        refine t_ialdR (pc := 42) (t0 := 0) ht36 hA_many dX12_same_42 rfl (by decide) (by omega) (fun y2 by2 => ?_)
        refine t_icmp_ge (pc := 43) (tgt := 181) dX12_same_43 (by decide) (by omega) (by omega) (fun c43 => ?_) (fun c43 => ?_)
        · refine r_iconst (pc := 181) (v := iv 0) dX12_same_181 (by decide) ?_
          refine r_istore_n (pc := 182) (lv' := [(3, .int (iv 0)), (0, .ref y), (1, .int (iv x1)), (2, .int (iv y1))]) dX12_same_182 (i := 3) rfl (by decide) rfl ?_
          have B183 : ∀ k : Nat, ∀ hp183 : MH, Tw Γ hp183 → ∀  (v183_3 : Int), 0 ≤ v183_3 ∧ v183_3 ≤ 16 → 16 - v183_3 ≤ (k : Int) → Rn (gG D cI cJ cZ cT lo b L xs) mX12_same d 183 [(0, .ref y), (2, .int (iv y1)), (3, .int (iv v183_3))] [] hp183 n 0 0 (pV Γ n) := by
            refine lpS _ ?_
            intro k183 ih183 hp183 ht183 v183_3 hf183 hm183
            refine r_iload_n (pc := 183) dX12_same_183 (i := 3) rfl rfl ?_
            refine r_iload_n (pc := 184) dX12_same_184 (i := 2) rfl rfl ?_
            refine t_icmp_ge (pc := 185) (tgt := 266) dX12_same_185 (by decide) (by omega) (by omega) (fun c185 => ?_) (fun c185 => ?_)
            · exact r_vret (pc := 266) dX12_same_266 rfl ⟨rfl, ht183, rfl⟩
            · refine r_aload_n (pc := 188) dX12_same_188 (i := 0) rfl rfl ?_
              refine t_getE (pc := 189) (.ref (y + 31)) ht183 hO fX12_103 dX12_same_189 rfl ?_
              refine r_iload_n (pc := 192) dX12_same_192 (i := 3) rfl rfl ?_
              refine r_iload_n (pc := 193) dX12_same_193 (i := 3) rfl rfl ?_
              refine t_iastR (pc := 194) (t0 := 0) ht183 hA_label dX12_same_194 rfl (by decide) (by decide) (by omega) (by omega) (fun hp3 ht4 => ?_)
              refine r_iload_n (pc := 195) dX12_same_195 (i := 3) rfl rfl ?_
              refine r_iconst (pc := 196) (v := iv 1) dX12_same_196 (by decide) ?_
              refine r_isub (pc := 197) (v := iv (v183_3 - 1)) dX12_same_197 (iv_sub _ _) ?_
              refine r_istore (pc := 198) (lv' := [(4, .int (iv (v183_3 - 1))), (0, .ref y), (2, .int (iv y1)), (3, .int (iv v183_3))]) dX12_same_198 (by decide) rfl ?_
              have B200 : ∀ k : Nat, ∀ hp200 : MH, Tw Γ hp200 → ∀  (v200_4 : Int), (-1) ≤ v200_4 ∧ v200_4 ≤ 14 ∧ v200_4 ≤ v183_3 - 1 → v200_4 - (-1) ≤ (k : Int) → Rn (gG D cI cJ cZ cT lo b L xs) mX12_same d 200 [(0, .ref y), (2, .int (iv y1)), (3, .int (iv v183_3)), (4, .int (iv v200_4))] [] hp200 n 0 0 (pV Γ n) := by
                refine lpS _ ?_
                intro k200 ih200 hp200 ht200 v200_4 hf200 hm200
                refine r_iload (pc := 200) dX12_same_200 rfl ?_
                refine t_if_lt (pc := 202) (tgt := 260) dX12_same_202 (by decide) (by omega) (fun c202 => ?_) (fun c202 => ?_)
                · refine r_iinc (pc := 260) (v := iv (v183_3 + 1)) (lv' := [(3, .int (iv (v183_3 + 1))), (0, .ref y), (2, .int (iv y1)), (4, .int (iv v200_4))]) dX12_same_260 rfl (iv_add _ _) (by decide) rfl ?_
                  refine r_goto (pc := 263) (tgt := 183) dX12_same_263 (by decide) ?_
                  refine Rn.pick (lv' := [(0, .ref y), (2, .int (iv y1)), (3, .int (iv (v183_3 + 1)))]) [1, 2, 0] rfl ?_
                  exact ih183 (Int.toNat (16 - (v183_3 + 1))) (by omega) _ ht200 (v183_3 + 1) ⟨by omega, by omega⟩ (by omega)
                · refine r_aload_n (pc := 205) dX12_same_205 (i := 0) rfl rfl ?_
                  refine t_getE (pc := 206) (.ref (y + 31)) ht200 hO fX12_103 dX12_same_206 rfl ?_
                  refine r_iload_n (pc := 209) dX12_same_209 (i := 3) rfl rfl ?_
                  refine r_aload_n (pc := 210) dX12_same_210 (i := 0) rfl rfl ?_
                  refine t_getE (pc := 211) (.ref (y + 33)) ht200 hO fX12_109 dX12_same_211 rfl ?_
                  refine r_iload (pc := 214) dX12_same_214 rfl ?_
                  refine t_ialdR (pc := 216) (t0 := 0) ht200 (rd_of hA_outs) dX12_same_216 rfl (by decide) (by omega) (fun y5 by5 => ?_)
                  refine r_aload_n (pc := 217) dX12_same_217 (i := 0) rfl rfl ?_
                  refine t_getE (pc := 218) (.ref (y + 33)) ht200 hO fX12_109 dX12_same_218 rfl ?_
                  refine r_iload_n (pc := 221) dX12_same_221 (i := 3) rfl rfl ?_
                  refine t_ialdR (pc := 222) (t0 := 0) ht200 (rd_of hA_outs) dX12_same_222 rfl (by decide) (by omega) (fun y6 by6 => ?_)
                  have B253 : ∀ hp253 : MH, Tw Γ hp253 → ∀  (u253_2 : Int), 0 ≤ u253_2 ∧ u253_2 ≤ 65535 → Rn (gG D cI cJ cZ cT lo b L xs) mX12_same d 253 [(0, .ref y), (2, .int (iv y1)), (3, .int (iv v183_3)), (4, .int (iv v200_4))] [.int (iv u253_2), .int (iv v183_3), .ref (y + 31)] hp253 n 0 0 (pV Γ n) := by
                    intro hp253 ht253 u253_2 hf253
                    refine t_iastR (pc := 253) (t0 := 0) ht253 hA_label dX12_same_253 rfl (by decide) (by decide) (by omega) (by omega) (fun hp7 ht8 => ?_)
                    refine r_iinc (pc := 254) (v := iv (v200_4 - 1)) (lv' := [(4, .int (iv (v200_4 - 1))), (0, .ref y), (2, .int (iv y1)), (3, .int (iv v183_3))]) dX12_same_254 rfl ((iv_add _ _).trans (congrArg iv (show v200_4 + (-1) = v200_4 - 1 by omega))) (by decide) rfl ?_
                    refine r_goto (pc := 257) (tgt := 200) dX12_same_257 (by decide) ?_
                    refine Rn.pick (lv' := [(0, .ref y), (2, .int (iv y1)), (3, .int (iv v183_3)), (4, .int (iv (v200_4 - 1)))]) [1, 2, 3, 0] rfl ?_
                    exact ih200 (Int.toNat ((v200_4 - 1) - (-1))) (by omega) _ ht8 (v200_4 - 1) ⟨by omega, by omega, by omega⟩ (by omega)
                  have B247 : ∀ hp247 : MH, Tw Γ hp247 → True → Rn (gG D cI cJ cZ cT lo b L xs) mX12_same d 247 [(0, .ref y), (2, .int (iv y1)), (3, .int (iv v183_3)), (4, .int (iv v200_4))] [.int (iv v183_3), .ref (y + 31)] hp247 n 0 0 (pV Γ n) := by
                    intro hp247 ht247 hf247
                    refine r_aload_n (pc := 247) dX12_same_247 (i := 0) rfl rfl ?_
                    refine t_getE (pc := 248) (.ref (y + 31)) ht247 hO fX12_103 dX12_same_248 rfl ?_
                    refine r_iload_n (pc := 251) dX12_same_251 (i := 3) rfl rfl ?_
                    refine t_ialdR (pc := 252) (t0 := 0) ht247 (rd_of hA_label) dX12_same_252 rfl (by decide) (by omega) (fun y9 by9 => ?_)
                    refine Rn.pick (lv' := [(0, .ref y), (2, .int (iv y1)), (3, .int (iv v183_3)), (4, .int (iv v200_4))]) [0, 1, 2, 3] rfl ?_
                    exact B253 _ ht247 y9 ⟨by omega, by omega⟩
                  refine t_icmp_ne (pc := 223) (tgt := 247) dX12_same_223 (by decide) (by omega) (by omega) (fun c223 => ?_) (fun c223 => ?_)
                  · refine Rn.pick (lv' := [(0, .ref y), (2, .int (iv y1)), (3, .int (iv v183_3)), (4, .int (iv v200_4))]) [0, 1, 2, 3] rfl ?_
                    exact B247 _ ht200 trivial
                  · refine r_aload_n (pc := 226) dX12_same_226 (i := 0) rfl rfl ?_
                    refine t_getE (pc := 227) (.ref (y + 34)) ht200 hO fX12_112 dX12_same_227 rfl ?_
                    refine r_iload (pc := 230) dX12_same_230 rfl ?_
                    refine t_ialdR (pc := 232) (t0 := 0) ht200 (rd_of hA_ins) dX12_same_232 rfl (by decide) (by omega) (fun y10 by10 => ?_)
                    refine r_aload_n (pc := 233) dX12_same_233 (i := 0) rfl rfl ?_
                    refine t_getE (pc := 234) (.ref (y + 34)) ht200 hO fX12_112 dX12_same_234 rfl ?_
                    refine r_iload_n (pc := 237) dX12_same_237 (i := 3) rfl rfl ?_
                    refine t_ialdR (pc := 238) (t0 := 0) ht200 (rd_of hA_ins) dX12_same_238 rfl (by decide) (by omega) (fun y11 by11 => ?_)
                    refine t_icmp_ne (pc := 239) (tgt := 247) dX12_same_239 (by decide) (by omega) (by omega) (fun c239 => ?_) (fun c239 => ?_)
                    · refine Rn.pick (lv' := [(0, .ref y), (2, .int (iv y1)), (3, .int (iv v183_3)), (4, .int (iv v200_4))]) [0, 1, 2, 3] rfl ?_
                      exact B247 _ ht200 trivial
                    · refine r_iload (pc := 242) dX12_same_242 rfl ?_
                      refine r_goto (pc := 244) (tgt := 253) dX12_same_244 (by decide) ?_
                      refine Rn.pick (lv' := [(0, .ref y), (2, .int (iv y1)), (3, .int (iv v183_3)), (4, .int (iv v200_4))]) [0, 1, 2, 3] rfl ?_
                      exact B253 _ ht200 v200_4 ⟨by omega, by omega⟩
              refine Rn.pick (lv' := [(0, .ref y), (2, .int (iv y1)), (3, .int (iv v183_3)), (4, .int (iv (v183_3 - 1)))]) [1, 2, 3, 0] rfl ?_
              exact B200 (Int.toNat ((v183_3 - 1) - (-1))) _ ht4 (v183_3 - 1) ⟨by omega, by omega, by omega⟩ (by omega)
          refine Rn.pick (lv' := [(0, .ref y), (2, .int (iv y1)), (3, .int (iv 0))]) [1, 3, 0] rfl ?_
          exact B183 (Int.toNat (16 - 0)) _ ht36 0 ⟨by omega, by omega⟩ (by omega)
        · refine r_iload_n (pc := 46) dX12_same_46 (i := 1) rfl rfl ?_
          refine r_iload_n (pc := 47) dX12_same_47 (i := 3) rfl rfl ?_
          refine t_callSR (pc := 48) (as := [.int (iv x1), .int (iv v36_3)]) (st := []) kX12_157 dX12_same_48 (t_X12_at1 (d := d - 1) (x1 := x1) (x2 := v36_3) (by omega)  ht36 (by omega) (by omega)) rfl (by omega) (Nat.le_of_ble_eq_true rfl) rfl (fun hp12 y14 ht13 by14 => ?_)
          refine r_istore (pc := 51) (lv' := [(4, .int (iv y14)), (0, .ref y), (1, .int (iv x1)), (2, .int (iv y1)), (3, .int (iv v36_3))]) dX12_same_51 (by decide) rfl ?_
          refine r_aload_n (pc := 53) dX12_same_53 (i := 0) rfl rfl ?_
          refine t_getE (pc := 54) (.ref (y + 5)) ht13 hO fX12_23 dX12_same_54 rfl ?_
          refine r_iload (pc := 57) dX12_same_57 rfl ?_
          refine t_ialdR (pc := 59) (t0 := 0) ht13 hA_from dX12_same_59 rfl (by decide) (by omega) (fun y15 by15 => ?_)
          refine r_aload_n (pc := 60) dX12_same_60 (i := 0) rfl rfl ?_
          refine t_getE (pc := 61) (.ref (y + 6)) ht13 hO fX12_26 dX12_same_61 rfl ?_
          refine r_iload (pc := 64) dX12_same_64 rfl ?_
          refine t_ialdR (pc := 66) (t0 := 0) ht13 hA_to dX12_same_66 rfl (by decide) (by omega) (fun y16 by16 => ?_)
          have B175 : ∀ hp175 : MH, Tw Γ hp175 → True → Rn (gG D cI cJ cZ cT lo b L xs) mX12_same d 175 [(0, .ref y), (1, .int (iv x1)), (2, .int (iv y1)), (3, .int (iv v36_3))] [] hp175 n 0 0 (pV Γ n) := by
            intro hp175 ht175 hf175
            refine r_iinc (pc := 175) (v := iv (v36_3 + 1)) (lv' := [(3, .int (iv (v36_3 + 1))), (0, .ref y), (1, .int (iv x1)), (2, .int (iv y1))]) dX12_same_175 rfl (iv_add _ _) (by decide) rfl ?_
            refine r_goto (pc := 178) (tgt := 36) dX12_same_178 (by decide) ?_
            refine Rn.pick (lv' := [(0, .ref y), (1, .int (iv x1)), (2, .int (iv y1)), (3, .int (iv (v36_3 + 1)))]) [1, 2, 3, 0] rfl ?_
            exact ih36 (Int.toNat (60 - (v36_3 + 1))) (by omega) _ ht175 (v36_3 + 1) ⟨by omega, by omega⟩ (by omega)
          refine t_icmp_eq (pc := 67) (tgt := 175) dX12_same_67 (by decide) (by omega) (by omega) (fun c67 => ?_) (fun c67 => ?_)
          · refine Rn.pick (lv' := [(0, .ref y), (1, .int (iv x1)), (2, .int (iv y1)), (3, .int (iv v36_3))]) [1, 2, 3, 4] rfl ?_
            exact B175 _ ht13 trivial
          · refine r_aload_n (pc := 70) dX12_same_70 (i := 0) rfl rfl ?_
            refine t_getE (pc := 71) (.ref (y + 33)) ht13 hO fX12_109 dX12_same_71 rfl ?_
            refine r_aload_n (pc := 74) dX12_same_74 (i := 0) rfl rfl ?_
            refine t_getE (pc := 75) (.ref (y + 5)) ht13 hO fX12_23 dX12_same_75 rfl ?_
            refine r_iload (pc := 78) dX12_same_78 rfl ?_
            refine t_ialdR (pc := 80) (t0 := 0) ht13 hA_from dX12_same_80 rfl (by decide) (by omega) (fun y17 by17 => ?_)
            refine r_dup2_11 (pc := 81) dX12_same_81 rfl rfl ?_
            refine t_ialdR (pc := 82) (t0 := 0) ht13 (rd_of hA_outs) dX12_same_82 rfl (by decide) (by omega) (fun y18 by18 => ?_)
            refine r_iconst (pc := 83) (v := iv 1) dX12_same_83 (by decide) ?_
            refine r_aload_n (pc := 84) dX12_same_84 (i := 0) rfl rfl ?_
            refine t_getE (pc := 85) (.ref (y + 6)) ht13 hO fX12_26 dX12_same_85 rfl ?_
            refine r_iload (pc := 88) dX12_same_88 rfl ?_
            refine t_ialdR (pc := 90) (t0 := 0) ht13 hA_to dX12_same_90 rfl (by decide) (by omega) (fun y19 by19 => ?_)
            obtain ⟨z20, hz20, bz20⟩ := shl_1 0 15 y19 (by omega) (by omega) (by decide)
            refine r_ishl (pc := 91) (v := iv z20) dX12_same_91 hz20 ?_
            obtain ⟨z21, hz21, bz21⟩ := or_2 16 y18 z20 (by omega) (by omega) (by decide)
            refine r_ior (pc := 92) (v := iv z21) dX12_same_92 hz21 ?_
            refine t_iastR (pc := 93) (t0 := 0) ht13 hA_outs dX12_same_93 rfl (by decide) (by decide) (by omega) (by omega) (fun hp22 ht23 => ?_)
            refine r_aload_n (pc := 94) dX12_same_94 (i := 0) rfl rfl ?_
            refine t_getE (pc := 95) (.ref (y + 34)) ht23 hO fX12_112 dX12_same_95 rfl ?_
            refine r_aload_n (pc := 98) dX12_same_98 (i := 0) rfl rfl ?_
            refine t_getE (pc := 99) (.ref (y + 6)) ht23 hO fX12_26 dX12_same_99 rfl ?_
            refine r_iload (pc := 102) dX12_same_102 rfl ?_
            refine t_ialdR (pc := 104) (t0 := 0) ht23 hA_to dX12_same_104 rfl (by decide) (by omega) (fun y24 by24 => ?_)
            refine r_dup2_11 (pc := 105) dX12_same_105 rfl rfl ?_
            refine t_ialdR (pc := 106) (t0 := 0) ht23 (rd_of hA_ins) dX12_same_106 rfl (by decide) (by omega) (fun y25 by25 => ?_)
            refine r_iconst (pc := 107) (v := iv 1) dX12_same_107 (by decide) ?_
            refine r_aload_n (pc := 108) dX12_same_108 (i := 0) rfl rfl ?_
            refine t_getE (pc := 109) (.ref (y + 5)) ht23 hO fX12_23 dX12_same_109 rfl ?_
            refine r_iload (pc := 112) dX12_same_112 rfl ?_
            refine t_ialdR (pc := 114) (t0 := 0) ht23 hA_from dX12_same_114 rfl (by decide) (by omega) (fun y26 by26 => ?_)
            obtain ⟨z27, hz27, bz27⟩ := shl_1 0 15 y26 (by omega) (by omega) (by decide)
            refine r_ishl (pc := 115) (v := iv z27) dX12_same_115 hz27 ?_
            obtain ⟨z28, hz28, bz28⟩ := or_2 16 y25 z27 (by omega) (by omega) (by decide)
            refine r_ior (pc := 116) (v := iv z28) dX12_same_116 hz28 ?_
            refine t_iastR (pc := 117) (t0 := 0) ht23 hA_ins dX12_same_117 rfl (by decide) (by decide) (by omega) (by omega) (fun hp29 ht30 => ?_)
            refine r_aload_n (pc := 118) dX12_same_118 (i := 0) rfl rfl ?_
            refine t_getE (pc := 119) (.ref (y + 3)) ht30 hO fX12_16 dX12_same_119 rfl ?_
            refine r_iload_n (pc := 122) dX12_same_122 (i := 1) rfl rfl ?_
            refine t_zaldR (pc := 123) (t0 := 2) ht30 hA_directs dX12_same_123 rfl (by decide) (by omega) (fun y31 by31 => ?_)
            refine t_if_ne (pc := 124) (tgt := 175) dX12_same_124 (by decide) (by omega) (fun c124 => ?_) (fun c124 => ?_)
            · refine Rn.pick (lv' := [(0, .ref y), (1, .int (iv x1)), (2, .int (iv y1)), (3, .int (iv v36_3))]) [1, 2, 3, 4] rfl ?_
              exact B175 _ ht30 trivial
            · refine r_aload_n (pc := 127) dX12_same_127 (i := 0) rfl rfl ?_
              refine t_getE (pc := 128) (.ref (y + 33)) ht30 hO fX12_109 dX12_same_128 rfl ?_
              refine r_aload_n (pc := 131) dX12_same_131 (i := 0) rfl rfl ?_
              refine t_getE (pc := 132) (.ref (y + 6)) ht30 hO fX12_26 dX12_same_132 rfl ?_
              refine r_iload (pc := 135) dX12_same_135 rfl ?_
              refine t_ialdR (pc := 137) (t0 := 0) ht30 hA_to dX12_same_137 rfl (by decide) (by omega) (fun y32 by32 => ?_)
              refine r_dup2_11 (pc := 138) dX12_same_138 rfl rfl ?_
              refine t_ialdR (pc := 139) (t0 := 0) ht30 (rd_of hA_outs) dX12_same_139 rfl (by decide) (by omega) (fun y33 by33 => ?_)
              refine r_iconst (pc := 140) (v := iv 1) dX12_same_140 (by decide) ?_
              refine r_aload_n (pc := 141) dX12_same_141 (i := 0) rfl rfl ?_
              refine t_getE (pc := 142) (.ref (y + 5)) ht30 hO fX12_23 dX12_same_142 rfl ?_
              refine r_iload (pc := 145) dX12_same_145 rfl ?_
              refine t_ialdR (pc := 147) (t0 := 0) ht30 hA_from dX12_same_147 rfl (by decide) (by omega) (fun y34 by34 => ?_)
              obtain ⟨z35, hz35, bz35⟩ := shl_1 0 15 y34 (by omega) (by omega) (by decide)
              refine r_ishl (pc := 148) (v := iv z35) dX12_same_148 hz35 ?_
              obtain ⟨z36, hz36, bz36⟩ := or_2 16 y33 z35 (by omega) (by omega) (by decide)
              refine r_ior (pc := 149) (v := iv z36) dX12_same_149 hz36 ?_
              refine t_iastR (pc := 150) (t0 := 0) ht30 hA_outs dX12_same_150 rfl (by decide) (by decide) (by omega) (by omega) (fun hp37 ht38 => ?_)
              refine r_aload_n (pc := 151) dX12_same_151 (i := 0) rfl rfl ?_
              refine t_getE (pc := 152) (.ref (y + 34)) ht38 hO fX12_112 dX12_same_152 rfl ?_
              refine r_aload_n (pc := 155) dX12_same_155 (i := 0) rfl rfl ?_
              refine t_getE (pc := 156) (.ref (y + 5)) ht38 hO fX12_23 dX12_same_156 rfl ?_
              refine r_iload (pc := 159) dX12_same_159 rfl ?_
              refine t_ialdR (pc := 161) (t0 := 0) ht38 hA_from dX12_same_161 rfl (by decide) (by omega) (fun y39 by39 => ?_)
              refine r_dup2_11 (pc := 162) dX12_same_162 rfl rfl ?_
              refine t_ialdR (pc := 163) (t0 := 0) ht38 (rd_of hA_ins) dX12_same_163 rfl (by decide) (by omega) (fun y40 by40 => ?_)
              refine r_iconst (pc := 164) (v := iv 1) dX12_same_164 (by decide) ?_
              refine r_aload_n (pc := 165) dX12_same_165 (i := 0) rfl rfl ?_
              refine t_getE (pc := 166) (.ref (y + 6)) ht38 hO fX12_26 dX12_same_166 rfl ?_
              refine r_iload (pc := 169) dX12_same_169 rfl ?_
              refine t_ialdR (pc := 171) (t0 := 0) ht38 hA_to dX12_same_171 rfl (by decide) (by omega) (fun y41 by41 => ?_)
              obtain ⟨z42, hz42, bz42⟩ := shl_1 0 15 y41 (by omega) (by omega) (by decide)
              refine r_ishl (pc := 172) (v := iv z42) dX12_same_172 hz42 ?_
              obtain ⟨z43, hz43, bz43⟩ := or_2 16 y40 z42 (by omega) (by omega) (by decide)
              refine r_ior (pc := 173) (v := iv z43) dX12_same_173 hz43 ?_
              refine t_iastR (pc := 174) (t0 := 0) ht38 hA_ins dX12_same_174 rfl (by decide) (by decide) (by omega) (by omega) (fun hp44 ht45 => ?_)
              refine Rn.pick (lv' := [(0, .ref y), (1, .int (iv x1)), (2, .int (iv y1)), (3, .int (iv v36_3))]) [1, 2, 3, 4] rfl ?_
              exact B175 _ ht45 trivial
      refine Rn.pick (lv' := [(0, .ref y), (1, .int (iv x1)), (2, .int (iv y1)), (3, .int (iv 0))]) [1, 2, 3, 0] rfl ?_
      exact B36 (Int.toNat (60 - 0)) _ ht9 0 ⟨by omega, by omega⟩ (by omega)
    · refine r_aload_n (pc := 14) dX12_same_14 (i := 0) rfl rfl ?_
      refine t_getE (pc := 15) (.ref (y + 33)) ht9 hO fX12_109 dX12_same_15 rfl ?_
      refine r_iload_n (pc := 18) dX12_same_18 (i := 3) rfl rfl ?_
      refine r_iconst (pc := 19) (v := iv 0) dX12_same_19 (by decide) ?_
      refine t_iastR (pc := 20) (t0 := 0) ht9 hA_outs dX12_same_20 rfl (by decide) (by decide) (by omega) (by omega) (fun hp46 ht47 => ?_)
      refine r_aload_n (pc := 21) dX12_same_21 (i := 0) rfl rfl ?_
      refine t_getE (pc := 22) (.ref (y + 34)) ht47 hO fX12_112 dX12_same_22 rfl ?_
      refine r_iload_n (pc := 25) dX12_same_25 (i := 3) rfl rfl ?_
      refine r_iconst (pc := 26) (v := iv 0) dX12_same_26 (by decide) ?_
      refine t_iastR (pc := 27) (t0 := 0) ht47 hA_ins dX12_same_27 rfl (by decide) (by decide) (by omega) (by omega) (fun hp48 ht49 => ?_)
      refine r_iinc (pc := 28) (v := iv (v9_3 + 1)) (lv' := [(3, .int (iv (v9_3 + 1))), (0, .ref y), (1, .int (iv x1)), (2, .int (iv y1))]) dX12_same_28 rfl (iv_add _ _) (by decide) rfl ?_
      refine r_goto (pc := 31) (tgt := 9) dX12_same_31 (by decide) ?_
      refine Rn.pick (lv' := [(0, .ref y), (1, .int (iv x1)), (2, .int (iv y1)), (3, .int (iv (v9_3 + 1)))]) [1, 2, 3, 0] rfl ?_
      exact ih9 (Int.toNat (16 - (v9_3 + 1))) (by omega) _ ht49 (v9_3 + 1) ⟨by omega, by omega⟩ (by omega)
  refine Rn.pick (lv' := [(0, .ref y), (1, .int (iv x1)), (2, .int (iv y1)), (3, .int (iv 0))]) [2, 3, 1, 0] rfl ?_
  exact B9 (Int.toNat (16 - 0)) _ ht 0 ⟨by omega, by omega⟩ (by omega)
set_option maxHeartbeats 4000000 in
set_option maxRecDepth 100000 in
theorem t_X12_isLed {D : va_G} {cI cJ cZ cT : ClassId} {lo b L : Nat} {xs : Nat → Int32} {hp : MH} {n d : Nat} {Γ : TG} {y : Nat} {rf cnt nm : Int32} {x1 x2 x3 : Int} (hd0 : 1 ≤ d) (hO : rd Γ y (tO 11 (mdF y rf cnt nm))) (hA_many : rd Γ (y + 4) (tI cI 121 (rg 0 60))) (hA_from : rd Γ (y + 5) (tI cI 7260 (rg 0 15))) (hA_to : rd Γ (y + 6) (tI cI 7260 (rg 0 15))) (ht : Tw Γ hp) (hx1 : 0 ≤ x1 ∧ x1 ≤ 120) (hx2 : 0 ≤ x2 ∧ x2 ≤ 65535) (hx3 : 0 ≤ x3 ∧ x3 ≤ 15) : Mt (gG D cI cJ cZ cT lo b L xs) mX12_isLed d 0 0 [.ref y, .int (iv x1), .int (iv x2), .int (iv x3)] hp n (pR Γ n 0 1) := by
  refine Mt.of rfl (Nat.le_of_ble_eq_true rfl) ?_
  refine Rn.pick (lv' := [(0, .ref y), (1, .int (iv x1)), (2, .int (iv x2)), (3, .int (iv x3))]) [0, 1, 2, 3] rfl ?_
  refine r_iconst (pc := 0) (v := iv 0) dX12_isLed_0 (by decide) ?_
  refine r_istore (pc := 1) (lv' := [(4, .int (iv 0)), (0, .ref y), (1, .int (iv x1)), (2, .int (iv x2)), (3, .int (iv x3))]) dX12_isLed_1 (by decide) rfl ?_
  refine r_iconst (pc := 3) (v := iv 0) dX12_isLed_3 (by decide) ?_
  refine r_istore (pc := 4) (lv' := [(5, .int (iv 0)), (4, .int (iv 0)), (0, .ref y), (1, .int (iv x1)), (2, .int (iv x2)), (3, .int (iv x3))]) dX12_isLed_4 (by decide) rfl ?_
  have B6 : ∀ k : Nat, ∀ hp6 : MH, Tw Γ hp6 → ∀  (v6_4 : Int) (v6_5 : Int), 0 ≤ v6_4 ∧ v6_4 ≤ 1 ∧ 0 ≤ v6_5 ∧ v6_5 ≤ 60 → 60 - v6_5 ≤ (k : Int) → Rn (gG D cI cJ cZ cT lo b L xs) mX12_isLed d 6 [(0, .ref y), (1, .int (iv x1)), (2, .int (iv x2)), (3, .int (iv x3)), (4, .int (iv v6_4)), (5, .int (iv v6_5))] [] hp6 n 0 0 (pR Γ n 0 1) := by
    refine lpS _ ?_
    intro k6 ih6 hp6 ht6 v6_4 v6_5 hf6 hm6
    refine r_iload (pc := 6) dX12_isLed_6 rfl ?_
    refine r_aload_n (pc := 8) dX12_isLed_8 (i := 0) rfl rfl ?_
    refine t_getE (pc := 9) (.ref (y + 4)) ht6 hO fX12_20 dX12_isLed_9 rfl ?_
    refine r_iload_n (pc := 12) dX12_isLed_12 (i := 1) rfl rfl ?_
    refine t_ialdR (pc := 13) (t0 := 0) ht6 hA_many dX12_isLed_13 rfl (by decide) (by omega) (fun y1 by1 => ?_)
    refine t_icmp_ge (pc := 14) (tgt := 69) dX12_isLed_14 (by decide) (by omega) (by omega) (fun c14 => ?_) (fun c14 => ?_)
    · refine r_iload (pc := 69) dX12_isLed_69 rfl ?_
      exact r_zret (pc := 71) dX12_isLed_71 rfl (iv_nar (by omega)) ⟨rfl, ht6, _, rfl, by omega, by omega⟩
    · refine r_iload_n (pc := 17) dX12_isLed_17 (i := 1) rfl rfl ?_
      refine r_iload (pc := 18) dX12_isLed_18 rfl ?_
      refine t_callSR (pc := 20) (as := [.int (iv x1), .int (iv v6_5)]) (st := []) kX12_157 dX12_isLed_20 (t_X12_at1 (d := d - 1) (x1 := x1) (x2 := v6_5) (by omega)  ht6 (by omega) (by omega)) rfl (by omega) (Nat.le_of_ble_eq_true rfl) rfl (fun hp2 y4 ht3 by4 => ?_)
      refine r_istore (pc := 23) (lv' := [(6, .int (iv y4)), (0, .ref y), (1, .int (iv x1)), (2, .int (iv x2)), (3, .int (iv x3)), (4, .int (iv v6_4)), (5, .int (iv v6_5))]) dX12_isLed_23 (by decide) rfl ?_
      refine r_iload (pc := 25) dX12_isLed_25 rfl ?_
      have B61 : ∀ hp61 : MH, Tw Γ hp61 → ∀  (u61_0 : Int), 0 ≤ u61_0 ∧ u61_0 ≤ 1 → Rn (gG D cI cJ cZ cT lo b L xs) mX12_isLed d 61 [(0, .ref y), (1, .int (iv x1)), (2, .int (iv x2)), (3, .int (iv x3)), (5, .int (iv v6_5))] [.int (iv u61_0)] hp61 n 0 0 (pR Γ n 0 1) := by
        intro hp61 ht61 u61_0 hf61
        refine r_istore (pc := 61) (lv' := [(4, .int (iv u61_0)), (0, .ref y), (1, .int (iv x1)), (2, .int (iv x2)), (3, .int (iv x3)), (5, .int (iv v6_5))]) dX12_isLed_61 (by decide) rfl ?_
        refine r_iinc (pc := 63) (v := iv (v6_5 + 1)) (lv' := [(5, .int (iv (v6_5 + 1))), (4, .int (iv u61_0)), (0, .ref y), (1, .int (iv x1)), (2, .int (iv x2)), (3, .int (iv x3))]) dX12_isLed_63 rfl (iv_add _ _) (by decide) rfl ?_
        refine r_goto (pc := 66) (tgt := 6) dX12_isLed_66 (by decide) ?_
        refine Rn.pick (lv' := [(0, .ref y), (1, .int (iv x1)), (2, .int (iv x2)), (3, .int (iv x3)), (4, .int (iv u61_0)), (5, .int (iv (v6_5 + 1)))]) [2, 3, 4, 5, 1, 0] rfl ?_
        exact ih6 (Int.toNat (60 - (v6_5 + 1))) (by omega) _ ht61 u61_0 (v6_5 + 1) ⟨by omega, by omega, by omega, by omega⟩ (by omega)
      have B56 : ∀ hp56 : MH, Tw Γ hp56 → True → Rn (gG D cI cJ cZ cT lo b L xs) mX12_isLed d 56 [(0, .ref y), (1, .int (iv x1)), (2, .int (iv x2)), (3, .int (iv x3)), (5, .int (iv v6_5))] [] hp56 n 0 0 (pR Γ n 0 1) := by
        intro hp56 ht56 hf56
        refine r_iconst (pc := 56) (v := iv 1) dX12_isLed_56 (by decide) ?_
        refine r_goto (pc := 57) (tgt := 61) dX12_isLed_57 (by decide) ?_
        refine Rn.pick (lv' := [(0, .ref y), (1, .int (iv x1)), (2, .int (iv x2)), (3, .int (iv x3)), (5, .int (iv v6_5))]) [0, 1, 2, 3, 4] rfl ?_
        exact B61 _ ht56 1 ⟨by omega, by omega⟩
      refine t_if_ne (pc := 27) (tgt := 56) dX12_isLed_27 (by decide) (by omega) (fun c27 => ?_) (fun c27 => ?_)
      · refine Rn.pick (lv' := [(0, .ref y), (1, .int (iv x1)), (2, .int (iv x2)), (3, .int (iv x3)), (5, .int (iv v6_5))]) [1, 2, 3, 4, 6] rfl ?_
        exact B56 _ ht3 trivial
      · refine r_aload_n (pc := 30) dX12_isLed_30 (i := 0) rfl rfl ?_
        refine t_getE (pc := 31) (.ref (y + 6)) ht3 hO fX12_26 dX12_isLed_31 rfl ?_
        refine r_iload (pc := 34) dX12_isLed_34 rfl ?_
        refine t_ialdR (pc := 36) (t0 := 0) ht3 hA_to dX12_isLed_36 rfl (by decide) (by omega) (fun y5 by5 => ?_)
        refine r_iload_n (pc := 37) dX12_isLed_37 (i := 3) rfl rfl ?_
        have B60 : ∀ hp60 : MH, Tw Γ hp60 → True → Rn (gG D cI cJ cZ cT lo b L xs) mX12_isLed d 60 [(0, .ref y), (1, .int (iv x1)), (2, .int (iv x2)), (3, .int (iv x3)), (5, .int (iv v6_5))] [] hp60 n 0 0 (pR Γ n 0 1) := by
          intro hp60 ht60 hf60
          refine r_iconst (pc := 60) (v := iv 0) dX12_isLed_60 (by decide) ?_
          refine Rn.pick (lv' := [(0, .ref y), (1, .int (iv x1)), (2, .int (iv x2)), (3, .int (iv x3)), (5, .int (iv v6_5))]) [0, 1, 2, 3, 4] rfl ?_
          exact B61 _ ht60 0 ⟨by omega, by omega⟩
        refine t_icmp_ne (pc := 38) (tgt := 60) dX12_isLed_38 (by decide) (by omega) (by omega) (fun c38 => ?_) (fun c38 => ?_)
        · refine Rn.pick (lv' := [(0, .ref y), (1, .int (iv x1)), (2, .int (iv x2)), (3, .int (iv x3)), (5, .int (iv v6_5))]) [1, 2, 3, 4, 6] rfl ?_
          exact B60 _ ht3 trivial
        · refine r_iload_n (pc := 41) dX12_isLed_41 (i := 2) rfl rfl ?_
          refine r_aload_n (pc := 42) dX12_isLed_42 (i := 0) rfl rfl ?_
          refine t_getE (pc := 43) (.ref (y + 5)) ht3 hO fX12_23 dX12_isLed_43 rfl ?_
          refine r_iload (pc := 46) dX12_isLed_46 rfl ?_
          refine t_ialdR (pc := 48) (t0 := 0) ht3 hA_from dX12_isLed_48 rfl (by decide) (by omega) (fun y6 by6 => ?_)
          obtain ⟨z7, hz7, bz7⟩ := shr_x x2 y6 (by omega) (by omega)
          refine r_ishr (pc := 49) (v := iv z7) dX12_isLed_49 hz7 ?_
          refine r_iconst (pc := 50) (v := iv 1) dX12_isLed_50 (by decide) ?_
          obtain ⟨z8, hz8, bz8⟩ := and_2 z7 1 (by omega) (by omega)
          refine r_iand (pc := 51) (v := iv z8) dX12_isLed_51 hz8 ?_
          refine r_iconst (pc := 52) (v := iv 1) dX12_isLed_52 (by decide) ?_
          refine t_icmp_ne (pc := 53) (tgt := 60) dX12_isLed_53 (by decide) (by omega) (by omega) (fun c53 => ?_) (fun c53 => ?_)
          · refine Rn.pick (lv' := [(0, .ref y), (1, .int (iv x1)), (2, .int (iv x2)), (3, .int (iv x3)), (5, .int (iv v6_5))]) [1, 2, 3, 4, 6] rfl ?_
            exact B60 _ ht3 trivial
          · refine Rn.pick (lv' := [(0, .ref y), (1, .int (iv x1)), (2, .int (iv x2)), (3, .int (iv x3)), (5, .int (iv v6_5))]) [1, 2, 3, 4, 6] rfl ?_
            exact B56 _ ht3 trivial
  refine Rn.pick (lv' := [(0, .ref y), (1, .int (iv x1)), (2, .int (iv x2)), (3, .int (iv x3)), (4, .int (iv 0)), (5, .int (iv 0))]) [2, 3, 4, 5, 1, 0] rfl ?_
  exact B6 (Int.toNat (60 - 0)) _ ht 0 0 ⟨by omega, by omega, by omega, by omega⟩ (by omega)
set_option maxHeartbeats 4000000 in
set_option maxRecDepth 100000 in
theorem t_X12_order {D : va_G} {cI cJ cZ cT : ClassId} {lo b L : Nat} {xs : Nat → Int32} {hp : MH} {n d : Nat} {Γ : TG} {y : Nat} {rf cnt nm : Int32} {x1 x2 : Int} (hd0 : 2 ≤ d) (hO : rd Γ y (tO 11 (mdF y rf cnt nm))) (hA_sizes : rd Γ (y + 2) (tI cI 121 (rg 0 16))) (hA_directs : rd Γ (y + 3) (tI cZ 121 (rg 0 1))) (hA_many : rd Γ (y + 4) (tI cI 121 (rg 0 60))) (hA_from : rd Γ (y + 5) (tI cI 7260 (rg 0 15))) (hA_to : rd Γ (y + 6) (tI cI 7260 (rg 0 15))) (ht : Tw Γ hp) (hx1 : 0 ≤ x1 ∧ x1 ≤ 120) (hx2 : 0 ≤ x2 ∧ x2 ≤ 15) : Mt (gG D cI cJ cZ cT lo b L xs) mX12_order d 0 0 [.ref y, .int (iv x1), .int (iv x2)] hp n (pJ Γ n yes64) := by
  refine Mt.of rfl (Nat.le_of_ble_eq_true rfl) ?_
  refine Rn.pick (lv' := [(0, .ref y), (1, .int (iv x1)), (2, .int (iv x2))]) [0, 1, 2] rfl ?_
  refine r_aload_n (pc := 0) dX12_order_0 (i := 0) rfl rfl ?_
  refine t_getE (pc := 1) (.ref (y + 2)) ht hO fX12_13 dX12_order_1 rfl ?_
  refine r_iload_n (pc := 4) dX12_order_4 (i := 1) rfl rfl ?_
  refine t_ialdR (pc := 5) (t0 := 0) ht hA_sizes dX12_order_5 rfl (by decide) (by omega) (fun y1 by1 => ?_)
  refine r_istore_n (pc := 6) (lv' := [(3, .int (iv y1)), (0, .ref y), (1, .int (iv x1)), (2, .int (iv x2))]) dX12_order_6 (i := 3) rfl (by decide) rfl ?_
  refine r_aload_n (pc := 7) dX12_order_7 (i := 0) rfl rfl ?_
  refine t_getE (pc := 8) (.ref (y + 3)) ht hO fX12_16 dX12_order_8 rfl ?_
  refine r_iload_n (pc := 11) dX12_order_11 (i := 1) rfl rfl ?_
  refine t_zaldR (pc := 12) (t0 := 2) ht hA_directs dX12_order_12 rfl (by decide) (by omega) (fun y2 by2 => ?_)
  have B29 : ∀ hp29 : MH, Tw Γ hp29 → True → Rn (gG D cI cJ cZ cT lo b L xs) mX12_order d 29 [(0, .ref y), (1, .int (iv x1)), (2, .int (iv x2)), (3, .int (iv y1))] [] hp29 n 0 0 (pJ Γ n yes64) := by
    intro hp29 ht29 hf29
    refine r_iconst (pc := 29) (v := iv 1) dX12_order_29 (by decide) ?_
    refine r_iload_n (pc := 30) dX12_order_30 (i := 3) rfl rfl ?_
    obtain ⟨z3, hz3, bz3⟩ := shl_1 0 16 y1 (by omega) (by omega) (by decide)
    refine r_ishl (pc := 31) (v := iv z3) dX12_order_31 hz3 ?_
    refine r_iconst (pc := 32) (v := iv 1) dX12_order_32 (by decide) ?_
    refine r_isub (pc := 33) (v := iv (z3 - 1)) dX12_order_33 (iv_sub _ _) ?_
    refine r_istore (pc := 34) (lv' := [(4, .int (iv (z3 - 1))), (0, .ref y), (1, .int (iv x1)), (2, .int (iv x2)), (3, .int (iv y1))]) dX12_order_34 (by decide) rfl ?_
    refine r_ldc2 (pc := 36) (v := (-1)) dX12_order_36 kX12_357 ?_
    refine r_lstore (pc := 39) (lv' := [(5, .long ((-1) : Int64)), (4, .int (iv (z3 - 1))), (0, .ref y), (1, .int (iv x1)), (2, .int (iv x2)), (3, .int (iv y1))]) dX12_order_39 (by decide) rfl ?_
    refine r_iconst (pc := 41) (v := iv 0) dX12_order_41 (by decide) ?_
    refine r_istore (pc := 42) (lv' := [(7, .int (iv 0)), (5, .long ((-1) : Int64)), (4, .int (iv (z3 - 1))), (0, .ref y), (1, .int (iv x1)), (2, .int (iv x2)), (3, .int (iv y1))]) dX12_order_42 (by decide) rfl ?_
    have B44 : ∀ k : Nat, ∀ hp44 : MH, Tw Γ hp44 → ∀  (v44_4 : Int) (v44_7 : Int) (w44_5 : Int64), 0 ≤ v44_4 ∧ v44_4 ≤ 65535 ∧ v44_4 ≤ z3 - 1 ∧ 0 ≤ v44_7 ∧ v44_7 ≤ 16 → 16 - v44_7 ≤ (k : Int) → Rn (gG D cI cJ cZ cT lo b L xs) mX12_order d 44 [(0, .ref y), (1, .int (iv x1)), (2, .int (iv x2)), (3, .int (iv y1)), (4, .int (iv v44_4)), (5, .long w44_5), (7, .int (iv v44_7))] [] hp44 n 0 0 (pJ Γ n yes64) := by
      refine lpS _ ?_
      intro k44 ih44 hp44 ht44 v44_4 v44_7 w44_5 hf44 hm44
      refine r_iload (pc := 44) dX12_order_44 rfl ?_
      refine r_iload_n (pc := 46) dX12_order_46 (i := 3) rfl rfl ?_
      refine t_icmp_ge (pc := 47) (tgt := 130) dX12_order_47 (by decide) (by omega) (by omega) (fun c47 => ?_) (fun c47 => ?_)
      · refine r_lload (pc := 130) dX12_order_130 rfl ?_
        exact r_lret (pc := 132) dX12_order_132 rfl ⟨rfl, ht44, _, rfl, trivial⟩
      · refine r_iconst (pc := 50) (v := iv 0) dX12_order_50 (by decide) ?_
        refine r_istore (pc := 51) (lv' := [(8, .int (iv 0)), (0, .ref y), (1, .int (iv x1)), (2, .int (iv x2)), (3, .int (iv y1)), (4, .int (iv v44_4)), (5, .long w44_5), (7, .int (iv v44_7))]) dX12_order_51 (by decide) rfl ?_
        have B53 : ∀ k : Nat, ∀ hp53 : MH, Tw Γ hp53 → ∀  (v53_8 : Int), 0 ≤ v53_8 ∧ v53_8 ≤ 16 → 16 - v53_8 ≤ (k : Int) → Rn (gG D cI cJ cZ cT lo b L xs) mX12_order d 53 [(0, .ref y), (1, .int (iv x1)), (2, .int (iv x2)), (3, .int (iv y1)), (4, .int (iv v44_4)), (5, .long w44_5), (7, .int (iv v44_7)), (8, .int (iv v53_8))] [] hp53 n 0 0 (pJ Γ n yes64) := by
          refine lpS _ ?_
          intro k53 ih53 hp53 ht53 v53_8 hf53 hm53
          refine r_iload (pc := 53) dX12_order_53 rfl ?_
          refine r_iload_n (pc := 55) dX12_order_55 (i := 3) rfl rfl ?_
          have B87 : ∀ hp87 : MH, Tw Γ hp87 → True → Rn (gG D cI cJ cZ cT lo b L xs) mX12_order d 87 [(0, .ref y), (1, .int (iv x1)), (2, .int (iv x2)), (3, .int (iv y1)), (4, .int (iv v44_4)), (5, .long w44_5), (7, .int (iv v44_7)), (8, .int (iv v53_8))] [] hp87 n 0 0 (pJ Γ n yes64) := by
            intro hp87 ht87 hf87
            refine r_iload (pc := 87) dX12_order_87 rfl ?_
            refine r_iload_n (pc := 89) dX12_order_89 (i := 3) rfl rfl ?_
            refine t_icmp_ne (pc := 90) (tgt := 97) dX12_order_90 (by decide) (by omega) (by omega) (fun c90 => ?_) (fun c90 => ?_)
            · refine r_iload (pc := 97) dX12_order_97 rfl ?_
              refine r_iconst (pc := 99) (v := iv 1) dX12_order_99 (by decide) ?_
              refine r_iload (pc := 100) dX12_order_100 rfl ?_
              obtain ⟨z4, hz4, bz4⟩ := shl_1 0 16 v53_8 (by omega) (by omega) (by decide)
              refine r_ishl (pc := 102) (v := iv z4) dX12_order_102 hz4 ?_
              refine r_iconst (pc := 103) (v := iv (-1)) dX12_order_103 (by decide) ?_
              refine r_ixor (pc := 104) (v := iv (-z4 - 1)) dX12_order_104 (iv_not _) ?_
              obtain ⟨z5, hz5, bz5⟩ := and_l v44_4 (-z4 - 1) (by omega) (by omega)
              refine r_iand (pc := 105) (v := iv z5) dX12_order_105 hz5 ?_
              refine r_istore (pc := 106) (lv' := [(4, .int (iv z5)), (0, .ref y), (1, .int (iv x1)), (2, .int (iv x2)), (3, .int (iv y1)), (5, .long w44_5), (7, .int (iv v44_7)), (8, .int (iv v53_8))]) dX12_order_106 (by decide) rfl ?_
              refine r_iload (pc := 108) dX12_order_108 rfl ?_
              refine r_iload_n (pc := 110) dX12_order_110 (i := 2) rfl rfl ?_
              have B122 : ∀ hp122 : MH, Tw Γ hp122 → ∀  (x122_0 : Int64), True → Rn (gG D cI cJ cZ cT lo b L xs) mX12_order d 122 [(0, .ref y), (1, .int (iv x1)), (2, .int (iv x2)), (3, .int (iv y1)), (4, .int (iv z5)), (7, .int (iv v44_7))] [.long x122_0] hp122 n 0 0 (pJ Γ n yes64) := by
                intro hp122 ht122 x122_0 hf122
                refine r_lstore (pc := 122) (lv' := [(5, .long x122_0), (0, .ref y), (1, .int (iv x1)), (2, .int (iv x2)), (3, .int (iv y1)), (4, .int (iv z5)), (7, .int (iv v44_7))]) dX12_order_122 (by decide) rfl ?_
                refine r_iinc (pc := 124) (v := iv (v44_7 + 1)) (lv' := [(7, .int (iv (v44_7 + 1))), (5, .long x122_0), (0, .ref y), (1, .int (iv x1)), (2, .int (iv x2)), (3, .int (iv y1)), (4, .int (iv z5))]) dX12_order_124 rfl (iv_add _ _) (by decide) rfl ?_
                refine r_goto (pc := 127) (tgt := 44) dX12_order_127 (by decide) ?_
                refine Rn.pick (lv' := [(0, .ref y), (1, .int (iv x1)), (2, .int (iv x2)), (3, .int (iv y1)), (4, .int (iv z5)), (5, .long x122_0), (7, .int (iv (v44_7 + 1)))]) [2, 3, 4, 5, 6, 1, 0] rfl ?_
                exact ih44 (Int.toNat (16 - (v44_7 + 1))) (by omega) _ ht122 z5 (v44_7 + 1) x122_0 ⟨by omega, by omega, by omega, by omega, by omega⟩ (by omega)
              refine t_icmp_ne (pc := 111) (tgt := 120) dX12_order_111 (by decide) (by omega) (by omega) (fun c111 => ?_) (fun c111 => ?_)
              · refine r_lload (pc := 120) dX12_order_120 rfl ?_
                refine Rn.pick (lv' := [(0, .ref y), (1, .int (iv x1)), (2, .int (iv x2)), (3, .int (iv y1)), (4, .int (iv z5)), (7, .int (iv v44_7))]) [1, 2, 3, 4, 0, 6] rfl ?_
                exact B122 _ ht87 w44_5 trivial
              · refine r_iload (pc := 114) dX12_order_114 rfl ?_
                refine r_i2l (pc := 116) (v := (iv v53_8).toInt64) dX12_order_116 rfl ?_
                refine r_goto (pc := 117) (tgt := 122) dX12_order_117 (by decide) ?_
                refine Rn.pick (lv' := [(0, .ref y), (1, .int (iv x1)), (2, .int (iv x2)), (3, .int (iv y1)), (4, .int (iv z5)), (7, .int (iv v44_7))]) [1, 2, 3, 4, 0, 6] rfl ?_
                exact B122 _ ht87 ((iv v53_8).toInt64) trivial
            · refine r_ldc2 (pc := 93) (v := (-1)) dX12_order_93 kX12_357 ?_
              exact r_lret (pc := 96) dX12_order_96 rfl ⟨rfl, ht87, _, rfl, trivial⟩
          refine t_icmp_ge (pc := 56) (tgt := 87) dX12_order_56 (by decide) (by omega) (by omega) (fun c56 => ?_) (fun c56 => ?_)
          · refine Rn.pick (lv' := [(0, .ref y), (1, .int (iv x1)), (2, .int (iv x2)), (3, .int (iv y1)), (4, .int (iv v44_4)), (5, .long w44_5), (7, .int (iv v44_7)), (8, .int (iv v53_8))]) [0, 1, 2, 3, 4, 5, 6, 7] rfl ?_
            exact B87 _ ht53 trivial
          · refine r_iload (pc := 59) dX12_order_59 rfl ?_
            refine r_iload (pc := 61) dX12_order_61 rfl ?_
            obtain ⟨z6, hz6, bz6⟩ := shr_x v44_4 v53_8 (by omega) (by omega)
            refine r_ishr (pc := 63) (v := iv z6) dX12_order_63 hz6 ?_
            refine r_iconst (pc := 64) (v := iv 1) dX12_order_64 (by decide) ?_
            obtain ⟨z7, hz7, bz7⟩ := and_2 z6 1 (by omega) (by omega)
            refine r_iand (pc := 65) (v := iv z7) dX12_order_65 hz7 ?_
            have B81 : ∀ hp81 : MH, Tw Γ hp81 → True → Rn (gG D cI cJ cZ cT lo b L xs) mX12_order d 81 [(0, .ref y), (1, .int (iv x1)), (2, .int (iv x2)), (3, .int (iv y1)), (4, .int (iv v44_4)), (5, .long w44_5), (7, .int (iv v44_7)), (8, .int (iv v53_8))] [] hp81 n 0 0 (pJ Γ n yes64) := by
              intro hp81 ht81 hf81
              refine r_iinc (pc := 81) (v := iv (v53_8 + 1)) (lv' := [(8, .int (iv (v53_8 + 1))), (0, .ref y), (1, .int (iv x1)), (2, .int (iv x2)), (3, .int (iv y1)), (4, .int (iv v44_4)), (5, .long w44_5), (7, .int (iv v44_7))]) dX12_order_81 rfl (iv_add _ _) (by decide) rfl ?_
              refine r_goto (pc := 84) (tgt := 53) dX12_order_84 (by decide) ?_
              refine Rn.pick (lv' := [(0, .ref y), (1, .int (iv x1)), (2, .int (iv x2)), (3, .int (iv y1)), (4, .int (iv v44_4)), (5, .long w44_5), (7, .int (iv v44_7)), (8, .int (iv (v53_8 + 1)))]) [1, 2, 3, 4, 5, 6, 7, 0] rfl ?_
              exact ih53 (Int.toNat (16 - (v53_8 + 1))) (by omega) _ ht81 (v53_8 + 1) ⟨by omega, by omega⟩ (by omega)
            refine t_if_eq (pc := 66) (tgt := 81) dX12_order_66 (by decide) (by omega) (fun c66 => ?_) (fun c66 => ?_)
            · refine Rn.pick (lv' := [(0, .ref y), (1, .int (iv x1)), (2, .int (iv x2)), (3, .int (iv y1)), (4, .int (iv v44_4)), (5, .long w44_5), (7, .int (iv v44_7)), (8, .int (iv v53_8))]) [0, 1, 2, 3, 4, 5, 6, 7] rfl ?_
              exact B81 _ ht53 trivial
            · refine r_aload_n (pc := 69) dX12_order_69 (i := 0) rfl rfl ?_
              refine r_iload_n (pc := 70) dX12_order_70 (i := 1) rfl rfl ?_
              refine r_iload (pc := 71) dX12_order_71 rfl ?_
              refine r_iload (pc := 73) dX12_order_73 rfl ?_
              refine t_callVR (pc := 75) (as := [.int (iv x1), .int (iv v44_4), .int (iv v53_8)]) (st := []) ht53 hO kX12_359 rfl dX12_order_75 (t_X12_isLed (d := d - 1) (x1 := x1) (x2 := v44_4) (x3 := v53_8) (by omega) hO hA_many hA_from hA_to ht53 (by omega) (by omega) (by omega)) rfl (by omega) (Nat.le_of_ble_eq_true rfl) rfl (fun hp8 y10 ht9 by10 => ?_)
              refine t_if_eq (pc := 78) (tgt := 87) dX12_order_78 (by decide) (by omega) (fun c78 => ?_) (fun c78 => ?_)
              · refine Rn.pick (lv' := [(0, .ref y), (1, .int (iv x1)), (2, .int (iv x2)), (3, .int (iv y1)), (4, .int (iv v44_4)), (5, .long w44_5), (7, .int (iv v44_7)), (8, .int (iv v53_8))]) [0, 1, 2, 3, 4, 5, 6, 7] rfl ?_
                exact B87 _ ht9 trivial
              · refine Rn.pick (lv' := [(0, .ref y), (1, .int (iv x1)), (2, .int (iv x2)), (3, .int (iv y1)), (4, .int (iv v44_4)), (5, .long w44_5), (7, .int (iv v44_7)), (8, .int (iv v53_8))]) [0, 1, 2, 3, 4, 5, 6, 7] rfl ?_
                exact B81 _ ht9 trivial
        refine Rn.pick (lv' := [(0, .ref y), (1, .int (iv x1)), (2, .int (iv x2)), (3, .int (iv y1)), (4, .int (iv v44_4)), (5, .long w44_5), (7, .int (iv v44_7)), (8, .int (iv 0))]) [1, 2, 3, 4, 5, 6, 7, 0] rfl ?_
        exact B53 (Int.toNat (16 - 0)) _ ht44 0 ⟨by omega, by omega⟩ (by omega)
    refine Rn.pick (lv' := [(0, .ref y), (1, .int (iv x1)), (2, .int (iv x2)), (3, .int (iv y1)), (4, .int (iv (z3 - 1))), (5, .long ((-1) : Int64)), (7, .int (iv 0))]) [3, 4, 5, 6, 2, 1, 0] rfl ?_
    exact B44 (Int.toNat (16 - 0)) _ ht29 (z3 - 1) 0 ((-1) : Int64) ⟨by omega, by omega, by omega, by omega, by omega⟩ (by omega)
  refine t_if_ne (pc := 13) (tgt := 29) dX12_order_13 (by decide) (by omega) (fun c13 => ?_) (fun c13 => ?_)
  · refine Rn.pick (lv' := [(0, .ref y), (1, .int (iv x1)), (2, .int (iv x2)), (3, .int (iv y1))]) [1, 2, 3, 0] rfl ?_
    exact B29 _ ht trivial
  · refine r_aload_n (pc := 16) dX12_order_16 (i := 0) rfl rfl ?_
    refine t_getE (pc := 17) (.ref (y + 4)) ht hO fX12_20 dX12_order_17 rfl ?_
    refine r_iload_n (pc := 20) dX12_order_20 (i := 1) rfl rfl ?_
    refine t_ialdR (pc := 21) (t0 := 0) ht hA_many dX12_order_21 rfl (by decide) (by omega) (fun y11 by11 => ?_)
    refine t_if_le (pc := 22) (tgt := 29) dX12_order_22 (by decide) (by omega) (fun c22 => ?_) (fun c22 => ?_)
    · refine Rn.pick (lv' := [(0, .ref y), (1, .int (iv x1)), (2, .int (iv x2)), (3, .int (iv y1))]) [1, 2, 3, 0] rfl ?_
      exact B29 _ ht trivial
    · refine r_ldc2 (pc := 25) (v := (-1)) dX12_order_25 kX12_357 ?_
      exact r_lret (pc := 28) dX12_order_28 rfl ⟨rfl, ht, _, rfl, trivial⟩
set_option maxHeartbeats 4000000 in
set_option maxRecDepth 100000 in
theorem t_X12_ring {D : va_G} {cI cJ cZ cT : ClassId} {lo b L : Nat} {xs : Nat → Int32} {hp : MH} {n d : Nat} {Γ : TG} {y : Nat} {rf cnt nm : Int32} {x1 : Int} (hd0 : 1 ≤ d) (hO : rd Γ y (tO 11 (mdF y rf cnt nm))) (hA_directs : rd Γ (y + 3) (tI cZ 121 (rg 0 1))) (hA_many : rd Γ (y + 4) (tI cI 121 (rg 0 60))) (hA_from : rd Γ (y + 5) (tI cI 7260 (rg 0 15))) (hA_to : rd Γ (y + 6) (tI cI 7260 (rg 0 15))) (ht : Tw Γ hp) (hx1 : 0 ≤ x1 ∧ x1 ≤ 120) : Mt (gG D cI cJ cZ cT lo b L xs) mX12_ring d 0 0 [.ref y, .int (iv x1)] hp n (pJ Γ n yes64) := by
  refine Mt.of rfl (Nat.le_of_ble_eq_true rfl) ?_
  refine Rn.pick (lv' := [(0, .ref y), (1, .int (iv x1))]) [0, 1] rfl ?_
  refine r_bipush (pc := 0) (v := iv 99) dX12_ring_0 (by decide) ?_
  refine r_istore_n (pc := 2) (lv' := [(2, .int (iv 99)), (0, .ref y), (1, .int (iv x1))]) dX12_ring_2 (i := 2) rfl (by decide) rfl ?_
  refine r_iconst (pc := 3) (v := iv 0) dX12_ring_3 (by decide) ?_
  refine r_istore_n (pc := 4) (lv' := [(3, .int (iv 0)), (2, .int (iv 99)), (0, .ref y), (1, .int (iv x1))]) dX12_ring_4 (i := 3) rfl (by decide) rfl ?_
  have B5 : ∀ k : Nat, ∀ hp5 : MH, Tw Γ hp5 → ∀  (v5_2 : Int) (v5_3 : Int), (-2147483648) ≤ v5_2 ∧ v5_2 ≤ 2147483647 ∧ 0 ≤ v5_3 ∧ v5_3 ≤ 60 → 60 - v5_3 ≤ (k : Int) → Rn (gG D cI cJ cZ cT lo b L xs) mX12_ring d 5 [(0, .ref y), (1, .int (iv x1)), (2, .int (iv v5_2)), (3, .int (iv v5_3))] [] hp5 n 0 0 (pJ Γ n yes64) := by
    refine lpS _ ?_
    intro k5 ih5 hp5 ht5 v5_2 v5_3 hf5 hm5
    refine r_iload_n (pc := 5) dX12_ring_5 (i := 3) rfl rfl ?_
    refine r_aload_n (pc := 6) dX12_ring_6 (i := 0) rfl rfl ?_
    refine t_getE (pc := 7) (.ref (y + 4)) ht5 hO fX12_20 dX12_ring_7 rfl ?_
    refine r_iload_n (pc := 10) dX12_ring_10 (i := 1) rfl rfl ?_
    refine t_ialdR (pc := 11) (t0 := 0) ht5 hA_many dX12_ring_11 rfl (by decide) (by omega) (fun y1 by1 => ?_)
    refine t_icmp_ge (pc := 12) (tgt := 217) dX12_ring_12 (by decide) (by omega) (by omega) (fun c12 => ?_) (fun c12 => ?_)
    · refine r_iload_n (pc := 217) dX12_ring_217 (i := 2) rfl rfl ?_
      refine r_bipush (pc := 218) (v := iv 99) dX12_ring_218 (by decide) ?_
      have B229 : ∀ hp229 : MH, Tw Γ hp229 → ∀  (x229_0 : Int64), True → Rn (gG D cI cJ cZ cT lo b L xs) mX12_ring d 229 [] [.long x229_0] hp229 n 0 0 (pJ Γ n yes64) := by
        intro hp229 ht229 x229_0 hf229
        exact r_lret (pc := 229) dX12_ring_229 rfl ⟨rfl, ht229, _, rfl, trivial⟩
      refine t_icmp_ne (pc := 220) (tgt := 227) dX12_ring_220 (by decide) (by omega) (by omega) (fun c220 => ?_) (fun c220 => ?_)
      · refine r_iload_n (pc := 227) dX12_ring_227 (i := 2) rfl rfl ?_
        refine r_i2l (pc := 228) (v := (iv v5_2).toInt64) dX12_ring_228 rfl ?_
        refine Rn.pick (lv' := []) [] rfl ?_
        exact B229 _ ht5 ((iv v5_2).toInt64) trivial
      · refine r_lconst (pc := 223) (v := 0) dX12_ring_223 (by decide) ?_
        refine r_goto (pc := 224) (tgt := 229) dX12_ring_224 (by decide) ?_
        refine Rn.pick (lv' := []) [] rfl ?_
        exact B229 _ ht5 (0 : Int64) trivial
    · refine r_iload_n (pc := 15) dX12_ring_15 (i := 1) rfl rfl ?_
      refine r_iload_n (pc := 16) dX12_ring_16 (i := 3) rfl rfl ?_
      refine t_callSR (pc := 17) (as := [.int (iv x1), .int (iv v5_3)]) (st := []) kX12_157 dX12_ring_17 (t_X12_at1 (d := d - 1) (x1 := x1) (x2 := v5_3) (by omega)  ht5 (by omega) (by omega)) rfl (by omega) (Nat.le_of_ble_eq_true rfl) rfl (fun hp2 y4 ht3 by4 => ?_)
      refine r_istore (pc := 20) (lv' := [(4, .int (iv y4)), (0, .ref y), (1, .int (iv x1)), (2, .int (iv v5_2)), (3, .int (iv v5_3))]) dX12_ring_20 (by decide) rfl ?_
      refine r_iconst (pc := 22) (v := iv 1) dX12_ring_22 (by decide) ?_
      refine r_aload_n (pc := 23) dX12_ring_23 (i := 0) rfl rfl ?_
      refine t_getE (pc := 24) (.ref (y + 6)) ht3 hO fX12_26 dX12_ring_24 rfl ?_
      refine r_iload (pc := 27) dX12_ring_27 rfl ?_
      refine t_ialdR (pc := 29) (t0 := 0) ht3 hA_to dX12_ring_29 rfl (by decide) (by omega) (fun y5 by5 => ?_)
      obtain ⟨z6, hz6, bz6⟩ := shl_1 0 15 y5 (by omega) (by omega) (by decide)
      refine r_ishl (pc := 30) (v := iv z6) dX12_ring_30 hz6 ?_
      refine r_istore (pc := 31) (lv' := [(5, .int (iv z6)), (4, .int (iv y4)), (0, .ref y), (1, .int (iv x1)), (2, .int (iv v5_2)), (3, .int (iv v5_3))]) dX12_ring_31 (by decide) rfl ?_
      refine r_iconst (pc := 33) (v := iv 0) dX12_ring_33 (by decide) ?_
      refine r_istore (pc := 34) (lv' := [(6, .int (iv 0)), (5, .int (iv z6)), (4, .int (iv y4)), (0, .ref y), (1, .int (iv x1)), (2, .int (iv v5_2)), (3, .int (iv v5_3))]) dX12_ring_34 (by decide) rfl ?_
      refine r_iconst (pc := 36) (v := iv 0) dX12_ring_36 (by decide) ?_
      refine r_istore (pc := 37) (lv' := [(7, .int (iv 0)), (6, .int (iv 0)), (5, .int (iv z6)), (4, .int (iv y4)), (0, .ref y), (1, .int (iv x1)), (2, .int (iv v5_2)), (3, .int (iv v5_3))]) dX12_ring_37 (by decide) rfl ?_
      have B39 : ∀ k : Nat, ∀ hp39 : MH, Tw Γ hp39 → ∀  (v39_5 : Int) (v39_6 : Int) (v39_7 : Int), 1 ≤ v39_5 ∧ v39_5 ≤ 65535 ∧ z6 ≤ v39_5 ∧ (-2147483648) ≤ v39_6 ∧ v39_6 ≤ 2147483647 ∧ 0 ≤ v39_7 ∧ v39_7 ≤ 65535 ∧ v39_7 ≤ v39_5 → 65536 - v39_7 ≤ (k : Int) → Rn (gG D cI cJ cZ cT lo b L xs) mX12_ring d 39 [(0, .ref y), (1, .int (iv x1)), (2, .int (iv v5_2)), (3, .int (iv v5_3)), (4, .int (iv y4)), (5, .int (iv v39_5)), (6, .int (iv v39_6)), (7, .int (iv v39_7))] [] hp39 n 0 0 (pJ Γ n yes64) := by
        refine lpS _ ?_
        intro k39 ih39 hp39 ht39 v39_5 v39_6 v39_7 hf39 hm39
        refine r_iload (pc := 39) dX12_ring_39 rfl ?_
        refine r_aload_n (pc := 41) dX12_ring_41 (i := 0) rfl rfl ?_
        refine t_getE (pc := 42) (.ref (y + 5)) ht39 hO fX12_23 dX12_ring_42 rfl ?_
        refine r_iload (pc := 45) dX12_ring_45 rfl ?_
        refine t_ialdR (pc := 47) (t0 := 0) ht39 hA_from dX12_ring_47 rfl (by decide) (by omega) (fun y7 by7 => ?_)
        obtain ⟨z8, hz8, bz8⟩ := shr_x v39_5 y7 (by omega) (by omega)
        refine r_ishr (pc := 48) (v := iv z8) dX12_ring_48 hz8 ?_
        refine r_iconst (pc := 49) (v := iv 1) dX12_ring_49 (by decide) ?_
        obtain ⟨z9, hz9, bz9⟩ := and_2 z8 1 (by omega) (by omega)
        refine r_iand (pc := 50) (v := iv z9) dX12_ring_50 hz9 ?_
        have B182 : ∀ hp182 : MH, Tw Γ hp182 → True → Rn (gG D cI cJ cZ cT lo b L xs) mX12_ring d 182 [(0, .ref y), (1, .int (iv x1)), (2, .int (iv v5_2)), (3, .int (iv v5_3)), (4, .int (iv y4)), (5, .int (iv v39_5)), (6, .int (iv v39_6))] [] hp182 n 0 0 (pJ Γ n yes64) := by
          intro hp182 ht182 hf182
          refine r_iload (pc := 182) dX12_ring_182 rfl ?_
          refine r_aload_n (pc := 184) dX12_ring_184 (i := 0) rfl rfl ?_
          refine t_getE (pc := 185) (.ref (y + 5)) ht182 hO fX12_23 dX12_ring_185 rfl ?_
          refine r_iload (pc := 188) dX12_ring_188 rfl ?_
          refine t_ialdR (pc := 190) (t0 := 0) ht182 hA_from dX12_ring_190 rfl (by decide) (by omega) (fun y10 by10 => ?_)
          obtain ⟨z11, hz11, bz11⟩ := shr_x v39_5 y10 (by omega) (by omega)
          refine r_ishr (pc := 191) (v := iv z11) dX12_ring_191 hz11 ?_
          refine r_iconst (pc := 192) (v := iv 1) dX12_ring_192 (by decide) ?_
          obtain ⟨z12, hz12, bz12⟩ := and_2 z11 1 (by omega) (by omega)
          refine r_iand (pc := 193) (v := iv z12) dX12_ring_193 hz12 ?_
          refine r_iconst (pc := 194) (v := iv 1) dX12_ring_194 (by decide) ?_
          have B211 : ∀ hp211 : MH, Tw Γ hp211 → ∀  (v211_2 : Int), (-2147483648) ≤ v211_2 ∧ v211_2 ≤ 2147483647 → Rn (gG D cI cJ cZ cT lo b L xs) mX12_ring d 211 [(0, .ref y), (1, .int (iv x1)), (2, .int (iv v211_2)), (3, .int (iv v5_3))] [] hp211 n 0 0 (pJ Γ n yes64) := by
            intro hp211 ht211 v211_2 hf211
            refine r_iinc (pc := 211) (v := iv (v5_3 + 1)) (lv' := [(3, .int (iv (v5_3 + 1))), (0, .ref y), (1, .int (iv x1)), (2, .int (iv v211_2))]) dX12_ring_211 rfl (iv_add _ _) (by decide) rfl ?_
            refine r_goto (pc := 214) (tgt := 5) dX12_ring_214 (by decide) ?_
            refine Rn.pick (lv' := [(0, .ref y), (1, .int (iv x1)), (2, .int (iv v211_2)), (3, .int (iv (v5_3 + 1)))]) [1, 2, 3, 0] rfl ?_
            exact ih5 (Int.toNat (60 - (v5_3 + 1))) (by omega) _ ht211 v211_2 (v5_3 + 1) ⟨by omega, by omega, by omega, by omega⟩ (by omega)
          refine t_icmp_ne (pc := 195) (tgt := 211) dX12_ring_195 (by decide) (by omega) (by omega) (fun c195 => ?_) (fun c195 => ?_)
          · refine Rn.pick (lv' := [(0, .ref y), (1, .int (iv x1)), (2, .int (iv v5_2)), (3, .int (iv v5_3))]) [0, 1, 2, 3] rfl ?_
            exact B211 _ ht182 v5_2 ⟨by omega, by omega⟩
          · refine r_iload (pc := 198) dX12_ring_198 rfl ?_
            refine r_iconst (pc := 200) (v := iv 1) dX12_ring_200 (by decide) ?_
            obtain ⟨z13, hz13, bz13⟩ := any_i (iv v39_6 + iv 1)
            refine r_iadd (pc := 201) (v := iv z13) dX12_ring_201 hz13 ?_
            refine r_iload_n (pc := 202) dX12_ring_202 (i := 2) rfl rfl ?_
            refine t_icmp_ge (pc := 203) (tgt := 211) dX12_ring_203 (by decide) (by omega) (by omega) (fun c203 => ?_) (fun c203 => ?_)
            · refine Rn.pick (lv' := [(0, .ref y), (1, .int (iv x1)), (2, .int (iv v5_2)), (3, .int (iv v5_3))]) [0, 1, 2, 3] rfl ?_
              exact B211 _ ht182 v5_2 ⟨by omega, by omega⟩
            · refine r_iload (pc := 206) dX12_ring_206 rfl ?_
              refine r_iconst (pc := 208) (v := iv 1) dX12_ring_208 (by decide) ?_
              obtain ⟨z14, hz14, bz14⟩ := any_i (iv v39_6 + iv 1)
              refine r_iadd (pc := 209) (v := iv z14) dX12_ring_209 hz14 ?_
              refine r_istore_n (pc := 210) (lv' := [(2, .int (iv z14)), (0, .ref y), (1, .int (iv x1)), (3, .int (iv v5_3)), (4, .int (iv y4)), (5, .int (iv v39_5)), (6, .int (iv v39_6))]) dX12_ring_210 (i := 2) rfl (by decide) rfl ?_
              refine Rn.pick (lv' := [(0, .ref y), (1, .int (iv x1)), (2, .int (iv z14)), (3, .int (iv v5_3))]) [1, 2, 0, 3] rfl ?_
              exact B211 _ ht182 z14 ⟨by omega, by omega⟩
        refine t_if_ne (pc := 51) (tgt := 182) dX12_ring_51 (by decide) (by omega) (fun c51 => ?_) (fun c51 => ?_)
        · refine Rn.pick (lv' := [(0, .ref y), (1, .int (iv x1)), (2, .int (iv v5_2)), (3, .int (iv v5_3)), (4, .int (iv y4)), (5, .int (iv v39_5)), (6, .int (iv v39_6))]) [0, 1, 2, 3, 4, 5, 6] rfl ?_
          exact B182 _ ht39 trivial
        · refine r_iload (pc := 54) dX12_ring_54 rfl ?_
          refine r_iload (pc := 56) dX12_ring_56 rfl ?_
          refine t_icmp_eq (pc := 58) (tgt := 182) dX12_ring_58 (by decide) (by omega) (by omega) (fun c58 => ?_) (fun c58 => ?_)
          · refine Rn.pick (lv' := [(0, .ref y), (1, .int (iv x1)), (2, .int (iv v5_2)), (3, .int (iv v5_3)), (4, .int (iv y4)), (5, .int (iv v39_5)), (6, .int (iv v39_6))]) [0, 1, 2, 3, 4, 5, 6] rfl ?_
            exact B182 _ ht39 trivial
          · refine r_iload (pc := 61) dX12_ring_61 rfl ?_
            refine r_istore (pc := 63) (lv' := [(7, .int (iv v39_5)), (0, .ref y), (1, .int (iv x1)), (2, .int (iv v5_2)), (3, .int (iv v5_3)), (4, .int (iv y4)), (5, .int (iv v39_5)), (6, .int (iv v39_6))]) dX12_ring_63 (by decide) rfl ?_
            obtain ⟨z15, hz15, bz15⟩ := any_i (iv v39_6 + iv 1)
            refine r_iinc (pc := 65) (v := iv z15) (lv' := [(6, .int (iv z15)), (7, .int (iv v39_5)), (0, .ref y), (1, .int (iv x1)), (2, .int (iv v5_2)), (3, .int (iv v5_3)), (4, .int (iv y4)), (5, .int (iv v39_5))]) dX12_ring_65 rfl hz15 (by decide) rfl ?_
            refine r_iconst (pc := 68) (v := iv 0) dX12_ring_68 (by decide) ?_
            refine r_istore (pc := 69) (lv' := [(8, .int (iv 0)), (6, .int (iv z15)), (7, .int (iv v39_5)), (0, .ref y), (1, .int (iv x1)), (2, .int (iv v5_2)), (3, .int (iv v5_3)), (4, .int (iv y4)), (5, .int (iv v39_5))]) dX12_ring_69 (by decide) rfl ?_
            have B71 : ∀ k : Nat, ∀ hp71 : MH, Tw Γ hp71 → ∀  (v71_5 : Int) (v71_8 : Int), 1 ≤ v71_5 ∧ v71_5 ≤ 65535 ∧ v39_5 ≤ v71_5 ∧ 0 ≤ v71_8 ∧ v71_8 ≤ 60 → 60 - v71_8 ≤ (k : Int) → Rn (gG D cI cJ cZ cT lo b L xs) mX12_ring d 71 [(0, .ref y), (1, .int (iv x1)), (2, .int (iv v5_2)), (3, .int (iv v5_3)), (4, .int (iv y4)), (5, .int (iv v71_5)), (6, .int (iv z15)), (7, .int (iv v39_5)), (8, .int (iv v71_8))] [] hp71 n 0 0 (pJ Γ n yes64) := by
              refine lpS _ ?_
              intro k71 ih71 hp71 ht71 v71_5 v71_8 hf71 hm71
              refine r_iload (pc := 71) dX12_ring_71 rfl ?_
              refine r_aload_n (pc := 73) dX12_ring_73 (i := 0) rfl rfl ?_
              refine t_getE (pc := 74) (.ref (y + 4)) ht71 hO fX12_20 dX12_ring_74 rfl ?_
              refine r_iload_n (pc := 77) dX12_ring_77 (i := 1) rfl rfl ?_
              refine t_ialdR (pc := 78) (t0 := 0) ht71 hA_many dX12_ring_78 rfl (by decide) (by omega) (fun y16 by16 => ?_)
              refine t_icmp_ge (pc := 79) (tgt := 179) dX12_ring_79 (by decide) (by omega) (by omega) (fun c79 => ?_) (fun c79 => ?_)
              · refine r_goto (pc := 179) (tgt := 39) dX12_ring_179 (by decide) ?_
                refine Rn.pick (lv' := [(0, .ref y), (1, .int (iv x1)), (2, .int (iv v5_2)), (3, .int (iv v5_3)), (4, .int (iv y4)), (5, .int (iv v71_5)), (6, .int (iv z15)), (7, .int (iv v39_5))]) [0, 1, 2, 3, 4, 5, 6, 7] rfl ?_
                exact ih39 (Int.toNat (65536 - v39_5)) (by omega) _ ht71 v71_5 z15 v39_5 ⟨by omega, by omega, by omega, by omega, by omega, by omega, by omega, by omega⟩ (by omega)
              · refine r_iload_n (pc := 82) dX12_ring_82 (i := 1) rfl rfl ?_
                refine r_iload (pc := 83) dX12_ring_83 rfl ?_
                refine t_callSR (pc := 85) (as := [.int (iv x1), .int (iv v71_8)]) (st := []) kX12_157 dX12_ring_85 (t_X12_at1 (d := d - 1) (x1 := x1) (x2 := v71_8) (by omega)  ht71 (by omega) (by omega)) rfl (by omega) (Nat.le_of_ble_eq_true rfl) rfl (fun hp17 y19 ht18 by19 => ?_)
                refine r_istore (pc := 88) (lv' := [(9, .int (iv y19)), (0, .ref y), (1, .int (iv x1)), (2, .int (iv v5_2)), (3, .int (iv v5_3)), (4, .int (iv y4)), (5, .int (iv v71_5)), (6, .int (iv z15)), (7, .int (iv v39_5)), (8, .int (iv v71_8))]) dX12_ring_88 (by decide) rfl ?_
                refine r_iload (pc := 90) dX12_ring_90 rfl ?_
                refine r_iload_n (pc := 92) dX12_ring_92 (i := 3) rfl rfl ?_
                have B173 : ∀ hp173 : MH, Tw Γ hp173 → ∀  (v173_5 : Int), 1 ≤ v173_5 ∧ v173_5 ≤ 65535 ∧ v71_5 ≤ v173_5 → Rn (gG D cI cJ cZ cT lo b L xs) mX12_ring d 173 [(0, .ref y), (1, .int (iv x1)), (2, .int (iv v5_2)), (3, .int (iv v5_3)), (4, .int (iv y4)), (5, .int (iv v173_5)), (6, .int (iv z15)), (7, .int (iv v39_5)), (8, .int (iv v71_8))] [] hp173 n 0 0 (pJ Γ n yes64) := by
                  intro hp173 ht173 v173_5 hf173
                  refine r_iinc (pc := 173) (v := iv (v71_8 + 1)) (lv' := [(8, .int (iv (v71_8 + 1))), (0, .ref y), (1, .int (iv x1)), (2, .int (iv v5_2)), (3, .int (iv v5_3)), (4, .int (iv y4)), (5, .int (iv v173_5)), (6, .int (iv z15)), (7, .int (iv v39_5))]) dX12_ring_173 rfl (iv_add _ _) (by decide) rfl ?_
                  refine r_goto (pc := 176) (tgt := 71) dX12_ring_176 (by decide) ?_
                  refine Rn.pick (lv' := [(0, .ref y), (1, .int (iv x1)), (2, .int (iv v5_2)), (3, .int (iv v5_3)), (4, .int (iv y4)), (5, .int (iv v173_5)), (6, .int (iv z15)), (7, .int (iv v39_5)), (8, .int (iv (v71_8 + 1)))]) [1, 2, 3, 4, 5, 6, 7, 8, 0] rfl ?_
                  exact ih71 (Int.toNat (60 - (v71_8 + 1))) (by omega) _ ht173 v173_5 (v71_8 + 1) ⟨by omega, by omega, by omega, by omega, by omega⟩ (by omega)
                refine t_icmp_eq (pc := 93) (tgt := 173) dX12_ring_93 (by decide) (by omega) (by omega) (fun c93 => ?_) (fun c93 => ?_)
                · refine Rn.pick (lv' := [(0, .ref y), (1, .int (iv x1)), (2, .int (iv v5_2)), (3, .int (iv v5_3)), (4, .int (iv y4)), (5, .int (iv v71_5)), (6, .int (iv z15)), (7, .int (iv v39_5)), (8, .int (iv v71_8))]) [1, 2, 3, 4, 5, 6, 7, 8, 9] rfl ?_
                  exact B173 _ ht18 v71_5 ⟨by omega, by omega, by omega⟩
                · refine r_iload (pc := 96) dX12_ring_96 rfl ?_
                  refine r_iload (pc := 98) dX12_ring_98 rfl ?_
                  refine r_aload_n (pc := 100) dX12_ring_100 (i := 0) rfl rfl ?_
                  refine t_getE (pc := 101) (.ref (y + 5)) ht18 hO fX12_23 dX12_ring_101 rfl ?_
                  refine r_iload (pc := 104) dX12_ring_104 rfl ?_
                  refine t_ialdR (pc := 106) (t0 := 0) ht18 hA_from dX12_ring_106 rfl (by decide) (by omega) (fun y20 by20 => ?_)
                  obtain ⟨z21, hz21, bz21⟩ := shr_x v39_5 y20 (by omega) (by omega)
                  refine r_ishr (pc := 107) (v := iv z21) dX12_ring_107 hz21 ?_
                  refine r_iconst (pc := 108) (v := iv 1) dX12_ring_108 (by decide) ?_
                  obtain ⟨z22, hz22, bz22⟩ := and_2 z21 1 (by omega) (by omega)
                  refine r_iand (pc := 109) (v := iv z22) dX12_ring_109 hz22 ?_
                  refine r_iconst (pc := 110) (v := iv 1) dX12_ring_110 (by decide) ?_
                  have B127 : ∀ hp127 : MH, Tw Γ hp127 → ∀  (u127_1 : Int), 0 ≤ u127_1 ∧ u127_1 ≤ 32768 → Rn (gG D cI cJ cZ cT lo b L xs) mX12_ring d 127 [(0, .ref y), (1, .int (iv x1)), (2, .int (iv v5_2)), (3, .int (iv v5_3)), (4, .int (iv y4)), (6, .int (iv z15)), (7, .int (iv v39_5)), (8, .int (iv v71_8)), (9, .int (iv y19))] [.int (iv u127_1), .int (iv v71_5)] hp127 n 0 0 (pJ Γ n yes64) := by
                    intro hp127 ht127 u127_1 hf127
                    obtain ⟨z23, hz23, bz23⟩ := or_2 16 v71_5 u127_1 (by omega) (by omega) (by decide)
                    refine r_ior (pc := 127) (v := iv z23) dX12_ring_127 hz23 ?_
                    refine r_istore (pc := 128) (lv' := [(5, .int (iv z23)), (0, .ref y), (1, .int (iv x1)), (2, .int (iv v5_2)), (3, .int (iv v5_3)), (4, .int (iv y4)), (6, .int (iv z15)), (7, .int (iv v39_5)), (8, .int (iv v71_8)), (9, .int (iv y19))]) dX12_ring_128 (by decide) rfl ?_
                    refine r_iload (pc := 130) dX12_ring_130 rfl ?_
                    refine r_aload_n (pc := 132) dX12_ring_132 (i := 0) rfl rfl ?_
                    refine t_getE (pc := 133) (.ref (y + 3)) ht127 hO fX12_16 dX12_ring_133 rfl ?_
                    refine r_iload_n (pc := 136) dX12_ring_136 (i := 1) rfl rfl ?_
                    refine t_zaldR (pc := 137) (t0 := 2) ht127 hA_directs dX12_ring_137 rfl (by decide) (by omega) (fun y24 by24 => ?_)
                    have B170 : ∀ hp170 : MH, Tw Γ hp170 → ∀  (u170_1 : Int), 0 ≤ u170_1 ∧ u170_1 ≤ 32768 → Rn (gG D cI cJ cZ cT lo b L xs) mX12_ring d 170 [(0, .ref y), (1, .int (iv x1)), (2, .int (iv v5_2)), (3, .int (iv v5_3)), (4, .int (iv y4)), (6, .int (iv z15)), (7, .int (iv v39_5)), (8, .int (iv v71_8))] [.int (iv u170_1), .int (iv z23)] hp170 n 0 0 (pJ Γ n yes64) := by
                      intro hp170 ht170 u170_1 hf170
                      obtain ⟨z25, hz25, bz25⟩ := or_2 16 z23 u170_1 (by omega) (by omega) (by decide)
                      refine r_ior (pc := 170) (v := iv z25) dX12_ring_170 hz25 ?_
                      refine r_istore (pc := 171) (lv' := [(5, .int (iv z25)), (0, .ref y), (1, .int (iv x1)), (2, .int (iv v5_2)), (3, .int (iv v5_3)), (4, .int (iv y4)), (6, .int (iv z15)), (7, .int (iv v39_5)), (8, .int (iv v71_8))]) dX12_ring_171 (by decide) rfl ?_
                      refine Rn.pick (lv' := [(0, .ref y), (1, .int (iv x1)), (2, .int (iv v5_2)), (3, .int (iv v5_3)), (4, .int (iv y4)), (5, .int (iv z25)), (6, .int (iv z15)), (7, .int (iv v39_5)), (8, .int (iv v71_8))]) [1, 2, 3, 4, 5, 0, 6, 7, 8] rfl ?_
                      exact B173 _ ht170 z25 ⟨by omega, by omega, by omega⟩
                    have B169 : ∀ hp169 : MH, Tw Γ hp169 → True → Rn (gG D cI cJ cZ cT lo b L xs) mX12_ring d 169 [(0, .ref y), (1, .int (iv x1)), (2, .int (iv v5_2)), (3, .int (iv v5_3)), (4, .int (iv y4)), (6, .int (iv z15)), (7, .int (iv v39_5)), (8, .int (iv v71_8))] [.int (iv z23)] hp169 n 0 0 (pJ Γ n yes64) := by
                      intro hp169 ht169 hf169
                      refine r_iconst (pc := 169) (v := iv 0) dX12_ring_169 (by decide) ?_
                      refine Rn.pick (lv' := [(0, .ref y), (1, .int (iv x1)), (2, .int (iv v5_2)), (3, .int (iv v5_3)), (4, .int (iv y4)), (6, .int (iv z15)), (7, .int (iv v39_5)), (8, .int (iv v71_8))]) [0, 1, 2, 3, 4, 5, 6, 7] rfl ?_
                      exact B170 _ ht169 0 ⟨by omega, by omega⟩
                    refine t_if_ne (pc := 138) (tgt := 169) dX12_ring_138 (by decide) (by omega) (fun c138 => ?_) (fun c138 => ?_)
                    · refine Rn.pick (lv' := [(0, .ref y), (1, .int (iv x1)), (2, .int (iv v5_2)), (3, .int (iv v5_3)), (4, .int (iv y4)), (6, .int (iv z15)), (7, .int (iv v39_5)), (8, .int (iv v71_8))]) [1, 2, 3, 4, 5, 6, 7, 8] rfl ?_
                      exact B169 _ ht127 trivial
                    · refine r_iload (pc := 141) dX12_ring_141 rfl ?_
                      refine r_aload_n (pc := 143) dX12_ring_143 (i := 0) rfl rfl ?_
                      refine t_getE (pc := 144) (.ref (y + 6)) ht127 hO fX12_26 dX12_ring_144 rfl ?_
                      refine r_iload (pc := 147) dX12_ring_147 rfl ?_
                      refine t_ialdR (pc := 149) (t0 := 0) ht127 hA_to dX12_ring_149 rfl (by decide) (by omega) (fun y26 by26 => ?_)
                      obtain ⟨z27, hz27, bz27⟩ := shr_x v39_5 y26 (by omega) (by omega)
                      refine r_ishr (pc := 150) (v := iv z27) dX12_ring_150 hz27 ?_
                      refine r_iconst (pc := 151) (v := iv 1) dX12_ring_151 (by decide) ?_
                      obtain ⟨z28, hz28, bz28⟩ := and_2 z27 1 (by omega) (by omega)
                      refine r_iand (pc := 152) (v := iv z28) dX12_ring_152 hz28 ?_
                      refine r_iconst (pc := 153) (v := iv 1) dX12_ring_153 (by decide) ?_
                      refine t_icmp_ne (pc := 154) (tgt := 169) dX12_ring_154 (by decide) (by omega) (by omega) (fun c154 => ?_) (fun c154 => ?_)
                      · refine Rn.pick (lv' := [(0, .ref y), (1, .int (iv x1)), (2, .int (iv v5_2)), (3, .int (iv v5_3)), (4, .int (iv y4)), (6, .int (iv z15)), (7, .int (iv v39_5)), (8, .int (iv v71_8))]) [1, 2, 3, 4, 5, 6, 7, 8] rfl ?_
                        exact B169 _ ht127 trivial
                      · refine r_iconst (pc := 157) (v := iv 1) dX12_ring_157 (by decide) ?_
                        refine r_aload_n (pc := 158) dX12_ring_158 (i := 0) rfl rfl ?_
                        refine t_getE (pc := 159) (.ref (y + 5)) ht127 hO fX12_23 dX12_ring_159 rfl ?_
                        refine r_iload (pc := 162) dX12_ring_162 rfl ?_
                        refine t_ialdR (pc := 164) (t0 := 0) ht127 hA_from dX12_ring_164 rfl (by decide) (by omega) (fun y29 by29 => ?_)
                        obtain ⟨z30, hz30, bz30⟩ := shl_1 0 15 y29 (by omega) (by omega) (by decide)
                        refine r_ishl (pc := 165) (v := iv z30) dX12_ring_165 hz30 ?_
                        refine r_goto (pc := 166) (tgt := 170) dX12_ring_166 (by decide) ?_
                        refine Rn.pick (lv' := [(0, .ref y), (1, .int (iv x1)), (2, .int (iv v5_2)), (3, .int (iv v5_3)), (4, .int (iv y4)), (6, .int (iv z15)), (7, .int (iv v39_5)), (8, .int (iv v71_8))]) [1, 2, 3, 4, 5, 6, 7, 8] rfl ?_
                        exact B170 _ ht127 z30 ⟨by omega, by omega⟩
                  refine t_icmp_ne (pc := 111) (tgt := 126) dX12_ring_111 (by decide) (by omega) (by omega) (fun c111 => ?_) (fun c111 => ?_)
                  · refine r_iconst (pc := 126) (v := iv 0) dX12_ring_126 (by decide) ?_
                    refine Rn.pick (lv' := [(0, .ref y), (1, .int (iv x1)), (2, .int (iv v5_2)), (3, .int (iv v5_3)), (4, .int (iv y4)), (6, .int (iv z15)), (7, .int (iv v39_5)), (8, .int (iv v71_8)), (9, .int (iv y19))]) [1, 2, 3, 4, 5, 7, 8, 9, 0] rfl ?_
                    exact B127 _ ht18 0 ⟨by omega, by omega⟩
                  · refine r_iconst (pc := 114) (v := iv 1) dX12_ring_114 (by decide) ?_
                    refine r_aload_n (pc := 115) dX12_ring_115 (i := 0) rfl rfl ?_
                    refine t_getE (pc := 116) (.ref (y + 6)) ht18 hO fX12_26 dX12_ring_116 rfl ?_
                    refine r_iload (pc := 119) dX12_ring_119 rfl ?_
                    refine t_ialdR (pc := 121) (t0 := 0) ht18 hA_to dX12_ring_121 rfl (by decide) (by omega) (fun y31 by31 => ?_)
                    obtain ⟨z32, hz32, bz32⟩ := shl_1 0 15 y31 (by omega) (by omega) (by decide)
                    refine r_ishl (pc := 122) (v := iv z32) dX12_ring_122 hz32 ?_
                    refine r_goto (pc := 123) (tgt := 127) dX12_ring_123 (by decide) ?_
                    refine Rn.pick (lv' := [(0, .ref y), (1, .int (iv x1)), (2, .int (iv v5_2)), (3, .int (iv v5_3)), (4, .int (iv y4)), (6, .int (iv z15)), (7, .int (iv v39_5)), (8, .int (iv v71_8)), (9, .int (iv y19))]) [1, 2, 3, 4, 5, 7, 8, 9, 0] rfl ?_
                    exact B127 _ ht18 z32 ⟨by omega, by omega⟩
            refine Rn.pick (lv' := [(0, .ref y), (1, .int (iv x1)), (2, .int (iv v5_2)), (3, .int (iv v5_3)), (4, .int (iv y4)), (5, .int (iv v39_5)), (6, .int (iv z15)), (7, .int (iv v39_5)), (8, .int (iv 0))]) [3, 4, 5, 6, 7, 8, 1, 2, 0] rfl ?_
            exact B71 (Int.toNat (60 - 0)) _ ht39 v39_5 0 ⟨by omega, by omega, by omega, by omega, by omega⟩ (by omega)
      refine Rn.pick (lv' := [(0, .ref y), (1, .int (iv x1)), (2, .int (iv v5_2)), (3, .int (iv v5_3)), (4, .int (iv y4)), (5, .int (iv z6)), (6, .int (iv 0)), (7, .int (iv 0))]) [4, 5, 6, 7, 3, 2, 1, 0] rfl ?_
      exact B39 (Int.toNat (65536 - 0)) _ ht3 z6 0 0 ⟨by omega, by omega, by omega, by omega, by omega, by omega, by omega, by omega⟩ (by omega)
  refine Rn.pick (lv' := [(0, .ref y), (1, .int (iv x1)), (2, .int (iv 99)), (3, .int (iv 0))]) [2, 3, 1, 0] rfl ?_
  exact B5 (Int.toNat (60 - 0)) _ ht 99 0 ⟨by omega, by omega, by omega, by omega⟩ (by omega)
set_option maxHeartbeats 4000000 in
set_option maxRecDepth 100000 in
theorem t_X12_isClique {D : va_G} {cI cJ cZ cT : ClassId} {lo b L : Nat} {xs : Nat → Int32} {hp : MH} {n d : Nat} {Γ : TG} {y : Nat} {rf cnt nm : Int32} {x1 x2 x3 : Int} (hd0 : 0 ≤ d) (hO : rd Γ y (tO 11 (mdF y rf cnt nm))) (hA_beside : rd Γ (y + 24) (tI cI 16 (rg 0 65535))) (ht : Tw Γ hp) (hx1 : 0 ≤ x1 ∧ x1 ≤ 65535) (hx2 : 0 ≤ x2 ∧ x2 ≤ 16) (hx3 : 0 ≤ x3 ∧ x3 ≤ 1) : Mt (gG D cI cJ cZ cT lo b L xs) mX12_isClique d 0 0 [.ref y, .int (iv x1), .int (iv x2), .int (iv x3)] hp n (pR Γ n 0 1) := by
  refine Mt.of rfl (Nat.le_of_ble_eq_true rfl) ?_
  refine Rn.pick (lv' := [(0, .ref y), (1, .int (iv x1)), (2, .int (iv x2)), (3, .int (iv x3))]) [0, 1, 2, 3] rfl ?_
  refine r_iconst (pc := 0) (v := iv 1) dX12_isClique_0 (by decide) ?_
  refine r_istore (pc := 1) (lv' := [(4, .int (iv 1)), (0, .ref y), (1, .int (iv x1)), (2, .int (iv x2)), (3, .int (iv x3))]) dX12_isClique_1 (by decide) rfl ?_
  refine r_iconst (pc := 3) (v := iv 0) dX12_isClique_3 (by decide) ?_
  refine r_istore (pc := 4) (lv' := [(5, .int (iv 0)), (4, .int (iv 1)), (0, .ref y), (1, .int (iv x1)), (2, .int (iv x2)), (3, .int (iv x3))]) dX12_isClique_4 (by decide) rfl ?_
  have B6 : ∀ k : Nat, ∀ hp6 : MH, Tw Γ hp6 → ∀  (v6_4 : Int) (v6_5 : Int), 0 ≤ v6_4 ∧ v6_4 ≤ 1 ∧ 0 ≤ v6_5 ∧ v6_5 ≤ 16 → 16 - v6_5 ≤ (k : Int) → Rn (gG D cI cJ cZ cT lo b L xs) mX12_isClique d 6 [(0, .ref y), (1, .int (iv x1)), (2, .int (iv x2)), (3, .int (iv x3)), (4, .int (iv v6_4)), (5, .int (iv v6_5))] [] hp6 n 0 0 (pR Γ n 0 1) := by
    refine lpS _ ?_
    intro k6 ih6 hp6 ht6 v6_4 v6_5 hf6 hm6
    refine r_iload (pc := 6) dX12_isClique_6 rfl ?_
    refine r_iload_n (pc := 8) dX12_isClique_8 (i := 2) rfl rfl ?_
    have B90 : ∀ hp90 : MH, Tw Γ hp90 → True → Rn (gG D cI cJ cZ cT lo b L xs) mX12_isClique d 90 [(4, .int (iv v6_4))] [] hp90 n 0 0 (pR Γ n 0 1) := by
      intro hp90 ht90 hf90
      refine r_iload (pc := 90) dX12_isClique_90 rfl ?_
      exact r_zret (pc := 92) dX12_isClique_92 rfl (iv_nar (by omega)) ⟨rfl, ht90, _, rfl, by omega, by omega⟩
    refine t_icmp_ge (pc := 9) (tgt := 90) dX12_isClique_9 (by decide) (by omega) (by omega) (fun c9 => ?_) (fun c9 => ?_)
    · refine Rn.pick (lv' := [(4, .int (iv v6_4))]) [4] rfl ?_
      exact B90 _ ht6 trivial
    · refine r_iload (pc := 12) dX12_isClique_12 rfl ?_
      refine t_if_eq (pc := 14) (tgt := 90) dX12_isClique_14 (by decide) (by omega) (fun c14 => ?_) (fun c14 => ?_)
      · refine Rn.pick (lv' := [(4, .int (iv v6_4))]) [4] rfl ?_
        exact B90 _ ht6 trivial
      · refine r_iload_n (pc := 17) dX12_isClique_17 (i := 1) rfl rfl ?_
        refine r_iload (pc := 18) dX12_isClique_18 rfl ?_
        obtain ⟨z1, hz1, bz1⟩ := shr_x x1 v6_5 (by omega) (by omega)
        refine r_ishr (pc := 20) (v := iv z1) dX12_isClique_20 hz1 ?_
        refine r_iconst (pc := 21) (v := iv 1) dX12_isClique_21 (by decide) ?_
        obtain ⟨z2, hz2, bz2⟩ := and_2 z1 1 (by omega) (by omega)
        refine r_iand (pc := 22) (v := iv z2) dX12_isClique_22 hz2 ?_
        refine r_iconst (pc := 23) (v := iv 1) dX12_isClique_23 (by decide) ?_
        have B84 : ∀ hp84 : MH, Tw Γ hp84 → ∀  (v84_4 : Int), 0 ≤ v84_4 ∧ v84_4 ≤ 1 → Rn (gG D cI cJ cZ cT lo b L xs) mX12_isClique d 84 [(0, .ref y), (1, .int (iv x1)), (2, .int (iv x2)), (3, .int (iv x3)), (4, .int (iv v84_4)), (5, .int (iv v6_5))] [] hp84 n 0 0 (pR Γ n 0 1) := by
          intro hp84 ht84 v84_4 hf84
          refine r_iinc (pc := 84) (v := iv (v6_5 + 1)) (lv' := [(5, .int (iv (v6_5 + 1))), (0, .ref y), (1, .int (iv x1)), (2, .int (iv x2)), (3, .int (iv x3)), (4, .int (iv v84_4))]) dX12_isClique_84 rfl (iv_add _ _) (by decide) rfl ?_
          refine r_goto (pc := 87) (tgt := 6) dX12_isClique_87 (by decide) ?_
          refine Rn.pick (lv' := [(0, .ref y), (1, .int (iv x1)), (2, .int (iv x2)), (3, .int (iv x3)), (4, .int (iv v84_4)), (5, .int (iv (v6_5 + 1)))]) [1, 2, 3, 4, 5, 0] rfl ?_
          exact ih6 (Int.toNat (16 - (v6_5 + 1))) (by omega) _ ht84 v84_4 (v6_5 + 1) ⟨by omega, by omega, by omega, by omega⟩ (by omega)
        refine t_icmp_ne (pc := 24) (tgt := 84) dX12_isClique_24 (by decide) (by omega) (by omega) (fun c24 => ?_) (fun c24 => ?_)
        · refine Rn.pick (lv' := [(0, .ref y), (1, .int (iv x1)), (2, .int (iv x2)), (3, .int (iv x3)), (4, .int (iv v6_4)), (5, .int (iv v6_5))]) [0, 1, 2, 3, 4, 5] rfl ?_
          exact B84 _ ht6 v6_4 ⟨by omega, by omega⟩
        · refine r_iload_n (pc := 27) dX12_isClique_27 (i := 1) rfl rfl ?_
          refine r_iconst (pc := 28) (v := iv 1) dX12_isClique_28 (by decide) ?_
          refine r_iload (pc := 29) dX12_isClique_29 rfl ?_
          obtain ⟨z3, hz3, bz3⟩ := shl_1 0 15 v6_5 (by omega) (by omega) (by decide)
          refine r_ishl (pc := 31) (v := iv z3) dX12_isClique_31 hz3 ?_
          refine r_iconst (pc := 32) (v := iv (-1)) dX12_isClique_32 (by decide) ?_
          refine r_ixor (pc := 33) (v := iv (-z3 - 1)) dX12_isClique_33 (iv_not _) ?_
          obtain ⟨z4, hz4, bz4⟩ := and_l x1 (-z3 - 1) (by omega) (by omega)
          refine r_iand (pc := 34) (v := iv z4) dX12_isClique_34 hz4 ?_
          refine r_istore (pc := 35) (lv' := [(6, .int (iv z4)), (0, .ref y), (1, .int (iv x1)), (2, .int (iv x2)), (3, .int (iv x3)), (4, .int (iv v6_4)), (5, .int (iv v6_5))]) dX12_isClique_35 (by decide) rfl ?_
          refine r_iload_n (pc := 37) dX12_isClique_37 (i := 3) rfl rfl ?_
          have B82 : ∀ hp82 : MH, Tw Γ hp82 → ∀  (u82_0 : Int), 0 ≤ u82_0 ∧ u82_0 ≤ 1 → Rn (gG D cI cJ cZ cT lo b L xs) mX12_isClique d 82 [(0, .ref y), (1, .int (iv x1)), (2, .int (iv x2)), (3, .int (iv x3)), (5, .int (iv v6_5))] [.int (iv u82_0)] hp82 n 0 0 (pR Γ n 0 1) := by
            intro hp82 ht82 u82_0 hf82
            refine r_istore (pc := 82) (lv' := [(4, .int (iv u82_0)), (0, .ref y), (1, .int (iv x1)), (2, .int (iv x2)), (3, .int (iv x3)), (5, .int (iv v6_5))]) dX12_isClique_82 (by decide) rfl ?_
            refine Rn.pick (lv' := [(0, .ref y), (1, .int (iv x1)), (2, .int (iv x2)), (3, .int (iv x3)), (4, .int (iv u82_0)), (5, .int (iv v6_5))]) [1, 2, 3, 4, 0, 5] rfl ?_
            exact B84 _ ht82 u82_0 ⟨by omega, by omega⟩
          refine t_if_eq (pc := 38) (tgt := 64) dX12_isClique_38 (by decide) (by omega) (fun c38 => ?_) (fun c38 => ?_)
          · refine r_iload (pc := 64) dX12_isClique_64 rfl ?_
            refine r_aload_n (pc := 66) dX12_isClique_66 (i := 0) rfl rfl ?_
            refine t_getE (pc := 67) (.ref (y + 24)) ht6 hO fX12_81 dX12_isClique_67 rfl ?_
            refine r_iload (pc := 70) dX12_isClique_70 rfl ?_
            refine t_ialdR (pc := 72) (t0 := 0) ht6 hA_beside dX12_isClique_72 rfl (by decide) (by omega) (fun y5 by5 => ?_)
            obtain ⟨z6, hz6, bz6⟩ := and_2 z4 y5 (by omega) (by omega)
            refine r_iand (pc := 73) (v := iv z6) dX12_isClique_73 hz6 ?_
            refine t_if_ne (pc := 74) (tgt := 81) dX12_isClique_74 (by decide) (by omega) (fun c74 => ?_) (fun c74 => ?_)
            · refine r_iconst (pc := 81) (v := iv 0) dX12_isClique_81 (by decide) ?_
              refine Rn.pick (lv' := [(0, .ref y), (1, .int (iv x1)), (2, .int (iv x2)), (3, .int (iv x3)), (5, .int (iv v6_5))]) [1, 2, 3, 4, 6] rfl ?_
              exact B82 _ ht6 0 ⟨by omega, by omega⟩
            · refine r_iconst (pc := 77) (v := iv 1) dX12_isClique_77 (by decide) ?_
              refine r_goto (pc := 78) (tgt := 82) dX12_isClique_78 (by decide) ?_
              refine Rn.pick (lv' := [(0, .ref y), (1, .int (iv x1)), (2, .int (iv x2)), (3, .int (iv x3)), (5, .int (iv v6_5))]) [1, 2, 3, 4, 6] rfl ?_
              exact B82 _ ht6 1 ⟨by omega, by omega⟩
          · refine r_iload (pc := 41) dX12_isClique_41 rfl ?_
            refine r_aload_n (pc := 43) dX12_isClique_43 (i := 0) rfl rfl ?_
            refine t_getE (pc := 44) (.ref (y + 24)) ht6 hO fX12_81 dX12_isClique_44 rfl ?_
            refine r_iload (pc := 47) dX12_isClique_47 rfl ?_
            refine t_ialdR (pc := 49) (t0 := 0) ht6 hA_beside dX12_isClique_49 rfl (by decide) (by omega) (fun y7 by7 => ?_)
            refine r_iconst (pc := 50) (v := iv (-1)) dX12_isClique_50 (by decide) ?_
            refine r_ixor (pc := 51) (v := iv (-y7 - 1)) dX12_isClique_51 (iv_not _) ?_
            obtain ⟨z8, hz8, bz8⟩ := and_l z4 (-y7 - 1) (by omega) (by omega)
            refine r_iand (pc := 52) (v := iv z8) dX12_isClique_52 hz8 ?_
            refine t_if_ne (pc := 53) (tgt := 60) dX12_isClique_53 (by decide) (by omega) (fun c53 => ?_) (fun c53 => ?_)
            · refine r_iconst (pc := 60) (v := iv 0) dX12_isClique_60 (by decide) ?_
              refine r_goto (pc := 61) (tgt := 82) dX12_isClique_61 (by decide) ?_
              refine Rn.pick (lv' := [(0, .ref y), (1, .int (iv x1)), (2, .int (iv x2)), (3, .int (iv x3)), (5, .int (iv v6_5))]) [1, 2, 3, 4, 6] rfl ?_
              exact B82 _ ht6 0 ⟨by omega, by omega⟩
            · refine r_iconst (pc := 56) (v := iv 1) dX12_isClique_56 (by decide) ?_
              refine r_goto (pc := 57) (tgt := 82) dX12_isClique_57 (by decide) ?_
              refine Rn.pick (lv' := [(0, .ref y), (1, .int (iv x1)), (2, .int (iv x2)), (3, .int (iv x3)), (5, .int (iv v6_5))]) [1, 2, 3, 4, 6] rfl ?_
              exact B82 _ ht6 1 ⟨by omega, by omega⟩
  refine Rn.pick (lv' := [(0, .ref y), (1, .int (iv x1)), (2, .int (iv x2)), (3, .int (iv x3)), (4, .int (iv 1)), (5, .int (iv 0))]) [2, 3, 4, 5, 1, 0] rfl ?_
  exact B6 (Int.toNat (16 - 0)) _ ht 1 0 ⟨by omega, by omega, by omega, by omega⟩ (by omega)
set_option maxHeartbeats 4000000 in
set_option maxRecDepth 100000 in
theorem t_X12_clique {D : va_G} {cI cJ cZ cT : ClassId} {lo b L : Nat} {xs : Nat → Int32} {hp : MH} {n d : Nat} {Γ : TG} {y : Nat} {rf cnt nm : Int32} {x1 x2 : Int} (hd0 : 1 ≤ d) (hO : rd Γ y (tO 11 (mdF y rf cnt nm))) (hA_beside : rd Γ (y + 24) (tI cI 16 (rg 0 65535))) (ht : Tw Γ hp) (hx1 : 0 ≤ x1 ∧ x1 ≤ 16) (hx2 : 0 ≤ x2 ∧ x2 ≤ 1) : Mt (gG D cI cJ cZ cT lo b L xs) mX12_clique d 0 0 [.ref y, .int (iv x1), .int (iv x2)] hp n (pJ Γ n yes64) := by
  refine Mt.of rfl (Nat.le_of_ble_eq_true rfl) ?_
  refine Rn.pick (lv' := [(0, .ref y), (1, .int (iv x1)), (2, .int (iv x2))]) [0, 1, 2] rfl ?_
  refine r_iconst (pc := 0) (v := iv 0) dX12_clique_0 (by decide) ?_
  refine r_istore_n (pc := 1) (lv' := [(3, .int (iv 0)), (0, .ref y), (1, .int (iv x1)), (2, .int (iv x2))]) dX12_clique_1 (i := 3) rfl (by decide) rfl ?_
  refine r_iconst (pc := 2) (v := iv 1) dX12_clique_2 (by decide) ?_
  refine r_istore (pc := 3) (lv' := [(4, .int (iv 1)), (3, .int (iv 0)), (0, .ref y), (1, .int (iv x1)), (2, .int (iv x2))]) dX12_clique_3 (by decide) rfl ?_
  have B5 : ∀ k : Nat, ∀ hp5 : MH, Tw Γ hp5 → ∀  (v5_3 : Int) (v5_4 : Int), 0 ≤ v5_3 ∧ v5_3 ≤ 65535 ∧ 1 ≤ v5_4 ∧ v5_4 ≤ 65536 → 65536 - v5_4 ≤ (k : Int) → Rn (gG D cI cJ cZ cT lo b L xs) mX12_clique d 5 [(0, .ref y), (1, .int (iv x1)), (2, .int (iv x2)), (3, .int (iv v5_3)), (4, .int (iv v5_4))] [] hp5 n 0 0 (pJ Γ n yes64) := by
    refine lpS _ ?_
    intro k5 ih5 hp5 ht5 v5_3 v5_4 hf5 hm5
    refine r_iload (pc := 5) dX12_clique_5 rfl ?_
    refine r_iconst (pc := 7) (v := iv 1) dX12_clique_7 (by decide) ?_
    refine r_iload_n (pc := 8) dX12_clique_8 (i := 1) rfl rfl ?_
    obtain ⟨z1, hz1, bz1⟩ := shl_1 0 16 x1 (by omega) (by omega) (by decide)
    refine r_ishl (pc := 9) (v := iv z1) dX12_clique_9 hz1 ?_
    refine t_icmp_ge (pc := 10) (tgt := 45) dX12_clique_10 (by decide) (by omega) (by omega) (fun c10 => ?_) (fun c10 => ?_)
    · refine r_iload_n (pc := 45) dX12_clique_45 (i := 3) rfl rfl ?_
      refine r_i2l (pc := 46) (v := (iv v5_3).toInt64) dX12_clique_46 rfl ?_
      exact r_lret (pc := 47) dX12_clique_47 rfl ⟨rfl, ht5, _, rfl, trivial⟩
    · refine r_iload (pc := 13) dX12_clique_13 rfl ?_
      refine t_callSR (pc := 15) (as := [.int (iv v5_4)]) (st := []) kX12_201 dX12_clique_15 (t_X12_bits (d := d - 1) (x1 := v5_4) (by omega)  ht5 (by omega)) rfl (by omega) (Nat.le_of_ble_eq_true rfl) rfl (fun hp2 y4 ht3 by4 => ?_)
      refine r_iload_n (pc := 18) dX12_clique_18 (i := 3) rfl rfl ?_
      refine t_callSR (pc := 19) (as := [.int (iv v5_3)]) (st := [.int (iv y4)]) kX12_201 dX12_clique_19 (t_X12_bits (d := d - 1) (x1 := v5_3) (by omega)  ht3 (by omega)) rfl (by omega) (Nat.le_of_ble_eq_true rfl) rfl (fun hp5 y7 ht6 by7 => ?_)
      have B39 : ∀ hp39 : MH, Tw Γ hp39 → ∀  (v39_3 : Int), 0 ≤ v39_3 ∧ v39_3 ≤ 65535 → Rn (gG D cI cJ cZ cT lo b L xs) mX12_clique d 39 [(0, .ref y), (1, .int (iv x1)), (2, .int (iv x2)), (3, .int (iv v39_3)), (4, .int (iv v5_4))] [] hp39 n 0 0 (pJ Γ n yes64) := by
        intro hp39 ht39 v39_3 hf39
        refine r_iinc (pc := 39) (v := iv (v5_4 + 1)) (lv' := [(4, .int (iv (v5_4 + 1))), (0, .ref y), (1, .int (iv x1)), (2, .int (iv x2)), (3, .int (iv v39_3))]) dX12_clique_39 rfl (iv_add _ _) (by decide) rfl ?_
        refine r_goto (pc := 42) (tgt := 5) dX12_clique_42 (by decide) ?_
        refine Rn.pick (lv' := [(0, .ref y), (1, .int (iv x1)), (2, .int (iv x2)), (3, .int (iv v39_3)), (4, .int (iv (v5_4 + 1)))]) [1, 2, 3, 4, 0] rfl ?_
        exact ih5 (Int.toNat (65536 - (v5_4 + 1))) (by omega) _ ht39 v39_3 (v5_4 + 1) ⟨by omega, by omega, by omega, by omega⟩ (by omega)
      refine t_icmp_le (pc := 22) (tgt := 39) dX12_clique_22 (by decide) (by omega) (by omega) (fun c22 => ?_) (fun c22 => ?_)
      · refine Rn.pick (lv' := [(0, .ref y), (1, .int (iv x1)), (2, .int (iv x2)), (3, .int (iv v5_3)), (4, .int (iv v5_4))]) [0, 1, 2, 3, 4] rfl ?_
        exact B39 _ ht6 v5_3 ⟨by omega, by omega⟩
      · refine r_aload_n (pc := 25) dX12_clique_25 (i := 0) rfl rfl ?_
        refine r_iload (pc := 26) dX12_clique_26 rfl ?_
        refine r_iload_n (pc := 28) dX12_clique_28 (i := 1) rfl rfl ?_
        refine r_iload_n (pc := 29) dX12_clique_29 (i := 2) rfl rfl ?_
        refine t_callVR (pc := 30) (as := [.int (iv v5_4), .int (iv x1), .int (iv x2)]) (st := []) ht6 hO kX12_362 rfl dX12_clique_30 (t_X12_isClique (d := d - 1) (x1 := v5_4) (x2 := x1) (x3 := x2) (by omega) hO hA_beside ht6 (by omega) (by omega) (by omega)) rfl (by omega) (Nat.le_of_ble_eq_true rfl) rfl (fun hp8 y10 ht9 by10 => ?_)
        refine t_if_eq (pc := 33) (tgt := 39) dX12_clique_33 (by decide) (by omega) (fun c33 => ?_) (fun c33 => ?_)
        · refine Rn.pick (lv' := [(0, .ref y), (1, .int (iv x1)), (2, .int (iv x2)), (3, .int (iv v5_3)), (4, .int (iv v5_4))]) [0, 1, 2, 3, 4] rfl ?_
          exact B39 _ ht9 v5_3 ⟨by omega, by omega⟩
        · refine r_iload (pc := 36) dX12_clique_36 rfl ?_
          refine r_istore_n (pc := 38) (lv' := [(3, .int (iv v5_4)), (0, .ref y), (1, .int (iv x1)), (2, .int (iv x2)), (4, .int (iv v5_4))]) dX12_clique_38 (i := 3) rfl (by decide) rfl ?_
          refine Rn.pick (lv' := [(0, .ref y), (1, .int (iv x1)), (2, .int (iv x2)), (3, .int (iv v5_4)), (4, .int (iv v5_4))]) [1, 2, 3, 0, 4] rfl ?_
          exact B39 _ ht9 v5_4 ⟨by omega, by omega⟩
  refine Rn.pick (lv' := [(0, .ref y), (1, .int (iv x1)), (2, .int (iv x2)), (3, .int (iv 0)), (4, .int (iv 1))]) [2, 3, 4, 1, 0] rfl ?_
  exact B5 (Int.toNat (65536 - 1)) _ ht 0 1 ⟨by omega, by omega, by omega, by omega⟩ (by omega)
set_option maxHeartbeats 4000000 in
set_option maxRecDepth 100000 in
theorem t_X12_colours {D : va_G} {cI cJ cZ cT : ClassId} {lo b L : Nat} {xs : Nat → Int32} {hp : MH} {n d : Nat} {Γ : TG} {y : Nat} {rf cnt nm : Int32} {x1 : Int} (hd0 : 1 ≤ d) (hO : rd Γ y (tO 11 (mdF y rf cnt nm))) (hA_beside : rd Γ (y + 24) (tI cI 16 (rg 0 65535))) (hA_solid : Γ (y + 25) = some (tI cZ 65536 (rg 0 1))) (hA_least : Γ (y + 35) = some (tI cI 65536 anyI)) (ht : Tw Γ hp) (hx1 : 0 ≤ x1 ∧ x1 ≤ 16) : Mt (gG D cI cJ cZ cT lo b L xs) mX12_colours d 0 0 [.ref y, .int (iv x1)] hp n (pJ Γ n yes64) := by
  refine Mt.of rfl (Nat.le_of_ble_eq_true rfl) ?_
  refine Rn.pick (lv' := [(0, .ref y), (1, .int (iv x1))]) [0, 1] rfl ?_
  refine r_iconst (pc := 0) (v := iv 0) dX12_colours_0 (by decide) ?_
  refine r_istore_n (pc := 1) (lv' := [(2, .int (iv 0)), (0, .ref y), (1, .int (iv x1))]) dX12_colours_1 (i := 2) rfl (by decide) rfl ?_
  have B2 : ∀ k : Nat, ∀ hp2 : MH, Tw Γ hp2 → ∀  (v2_2 : Int), 0 ≤ v2_2 ∧ v2_2 ≤ 65536 → 65536 - v2_2 ≤ (k : Int) → Rn (gG D cI cJ cZ cT lo b L xs) mX12_colours d 2 [(0, .ref y), (1, .int (iv x1)), (2, .int (iv v2_2))] [] hp2 n 0 0 (pJ Γ n yes64) := by
    refine lpS _ ?_
    intro k2 ih2 hp2 ht2 v2_2 hf2 hm2
    refine r_iload_n (pc := 2) dX12_colours_2 (i := 2) rfl rfl ?_
    refine r_iconst (pc := 3) (v := iv 1) dX12_colours_3 (by decide) ?_
    refine r_iload_n (pc := 4) dX12_colours_4 (i := 1) rfl rfl ?_
    obtain ⟨z1, hz1, bz1⟩ := shl_1 0 16 x1 (by omega) (by omega) (by decide)
    refine r_ishl (pc := 5) (v := iv z1) dX12_colours_5 hz1 ?_
    refine t_icmp_ge (pc := 6) (tgt := 28) dX12_colours_6 (by decide) (by omega) (by omega) (fun c6 => ?_) (fun c6 => ?_)
    · refine r_aload_n (pc := 28) dX12_colours_28 (i := 0) rfl rfl ?_
      refine t_getE (pc := 29) (.ref (y + 35)) ht2 hO fX12_115 dX12_colours_29 rfl ?_
      refine r_iconst (pc := 32) (v := iv 0) dX12_colours_32 (by decide) ?_
      refine r_iconst (pc := 33) (v := iv 0) dX12_colours_33 (by decide) ?_
      refine t_iast (pc := 34) (t0 := 0) ht2 hA_least dX12_colours_34 rfl (by decide) (by omega) (by omega) trivial (fun hp2 ht3 => ?_)
      refine r_iconst (pc := 35) (v := iv 1) dX12_colours_35 (by decide) ?_
      refine r_istore_n (pc := 36) (lv' := [(2, .int (iv 1)), (0, .ref y), (1, .int (iv x1))]) dX12_colours_36 (i := 2) rfl (by decide) rfl ?_
      have B37 : ∀ k : Nat, ∀ hp37 : MH, Tw Γ hp37 → ∀  (v37_2 : Int), 1 ≤ v37_2 ∧ v37_2 ≤ 65536 → 65536 - v37_2 ≤ (k : Int) → Rn (gG D cI cJ cZ cT lo b L xs) mX12_colours d 37 [(0, .ref y), (1, .int (iv x1)), (2, .int (iv v37_2))] [] hp37 n 0 0 (pJ Γ n yes64) := by
        refine lpS _ ?_
        intro k37 ih37 hp37 ht37 v37_2 hf37 hm37
        refine r_iload_n (pc := 37) dX12_colours_37 (i := 2) rfl rfl ?_
        refine r_iconst (pc := 38) (v := iv 1) dX12_colours_38 (by decide) ?_
        refine r_iload_n (pc := 39) dX12_colours_39 (i := 1) rfl rfl ?_
        obtain ⟨z4, hz4, bz4⟩ := shl_1 0 16 x1 (by omega) (by omega) (by decide)
        refine r_ishl (pc := 40) (v := iv z4) dX12_colours_40 hz4 ?_
        refine t_icmp_ge (pc := 41) (tgt := 140) dX12_colours_41 (by decide) (by omega) (by omega) (fun c41 => ?_) (fun c41 => ?_)
        · refine r_aload_n (pc := 140) dX12_colours_140 (i := 0) rfl rfl ?_
          refine t_getE (pc := 141) (.ref (y + 35)) ht37 hO fX12_115 dX12_colours_141 rfl ?_
          refine r_iconst (pc := 144) (v := iv 1) dX12_colours_144 (by decide) ?_
          refine r_iload_n (pc := 145) dX12_colours_145 (i := 1) rfl rfl ?_
          obtain ⟨z5, hz5, bz5⟩ := shl_1 0 16 x1 (by omega) (by omega) (by decide)
          refine r_ishl (pc := 146) (v := iv z5) dX12_colours_146 hz5 ?_
          refine r_iconst (pc := 147) (v := iv 1) dX12_colours_147 (by decide) ?_
          refine r_isub (pc := 148) (v := iv (z5 - 1)) dX12_colours_148 (iv_sub _ _) ?_
          refine t_iald (pc := 149) (t0 := 0) ht37 (rd_of hA_least) dX12_colours_149 rfl (by decide) (by omega) (fun y6 by6 _ => ?_)
          refine r_i2l (pc := 150) (v := (iv y6).toInt64) dX12_colours_150 rfl ?_
          exact r_lret (pc := 151) dX12_colours_151 rfl ⟨rfl, ht37, _, rfl, trivial⟩
        · refine r_iload_n (pc := 44) dX12_colours_44 (i := 2) rfl rfl ?_
          refine r_iload_n (pc := 45) dX12_colours_45 (i := 2) rfl rfl ?_
          refine r_ineg (pc := 46) (v := iv (-v37_2)) dX12_colours_46 (iv_neg _) ?_
          obtain ⟨z7, hz7, bz7⟩ := and_l v37_2 (-v37_2) (by omega) (by omega)
          refine r_iand (pc := 47) (v := iv z7) dX12_colours_47 hz7 ?_
          refine r_istore_n (pc := 48) (lv' := [(3, .int (iv z7)), (0, .ref y), (1, .int (iv x1)), (2, .int (iv v37_2))]) dX12_colours_48 (i := 3) rfl (by decide) rfl ?_
          refine r_aload_n (pc := 49) dX12_colours_49 (i := 0) rfl rfl ?_
          refine t_getE (pc := 50) (.ref (y + 35)) ht37 hO fX12_115 dX12_colours_50 rfl ?_
          refine r_iload_n (pc := 53) dX12_colours_53 (i := 2) rfl rfl ?_
          refine r_bipush (pc := 54) (v := iv 99) dX12_colours_54 (by decide) ?_
          refine t_iast (pc := 56) (t0 := 0) ht37 hA_least dX12_colours_56 rfl (by decide) (by omega) (by omega) trivial (fun hp8 ht9 => ?_)
          refine r_iload_n (pc := 57) dX12_colours_57 (i := 2) rfl rfl ?_
          refine r_istore (pc := 58) (lv' := [(4, .int (iv v37_2)), (3, .int (iv z7)), (0, .ref y), (1, .int (iv x1)), (2, .int (iv v37_2))]) dX12_colours_58 (by decide) rfl ?_
          have B60 : ∀ k : Nat, ∀ hp60 : MH, Tw Γ hp60 → ∀  (v60_4 : Int), 0 ≤ v60_4 ∧ v60_4 ≤ 65535 → v60_4 ≤ (k : Int) → Rn (gG D cI cJ cZ cT lo b L xs) mX12_colours d 60 [(0, .ref y), (1, .int (iv x1)), (2, .int (iv v37_2)), (3, .int (iv z7)), (4, .int (iv v60_4))] [] hp60 n 0 0 (pJ Γ n yes64) := by
            refine lpS _ ?_
            intro k60 ih60 hp60 ht60 v60_4 hf60 hm60
            refine r_iload (pc := 60) dX12_colours_60 rfl ?_
            refine t_if_le (pc := 62) (tgt := 134) dX12_colours_62 (by decide) (by omega) (fun c62 => ?_) (fun c62 => ?_)
            · refine r_iinc (pc := 134) (v := iv (v37_2 + 1)) (lv' := [(2, .int (iv (v37_2 + 1))), (0, .ref y), (1, .int (iv x1)), (3, .int (iv z7)), (4, .int (iv v60_4))]) dX12_colours_134 rfl (iv_add _ _) (by decide) rfl ?_
              refine r_goto (pc := 137) (tgt := 37) dX12_colours_137 (by decide) ?_
              refine Rn.pick (lv' := [(0, .ref y), (1, .int (iv x1)), (2, .int (iv (v37_2 + 1)))]) [1, 2, 0] rfl ?_
              exact ih37 (Int.toNat (65536 - (v37_2 + 1))) (by omega) _ ht60 (v37_2 + 1) ⟨by omega, by omega⟩ (by omega)
            · refine r_iload (pc := 65) dX12_colours_65 rfl ?_
              refine r_iload_n (pc := 67) dX12_colours_67 (i := 3) rfl rfl ?_
              obtain ⟨z10, hz10, bz10⟩ := and_2 v60_4 z7 (by omega) (by omega)
              refine r_iand (pc := 68) (v := iv z10) dX12_colours_68 hz10 ?_
              have B123 : ∀ hp123 : MH, Tw Γ hp123 → True → Rn (gG D cI cJ cZ cT lo b L xs) mX12_colours d 123 [(0, .ref y), (1, .int (iv x1)), (2, .int (iv v37_2)), (3, .int (iv z7)), (4, .int (iv v60_4))] [] hp123 n 0 0 (pJ Γ n yes64) := by
                intro hp123 ht123 hf123
                refine r_iload (pc := 123) dX12_colours_123 rfl ?_
                refine r_iconst (pc := 125) (v := iv 1) dX12_colours_125 (by decide) ?_
                refine r_isub (pc := 126) (v := iv (v60_4 - 1)) dX12_colours_126 (iv_sub _ _) ?_
                refine r_iload_n (pc := 127) dX12_colours_127 (i := 2) rfl rfl ?_
                obtain ⟨z11, hz11, bz11⟩ := and_2 (v60_4 - 1) v37_2 (by omega) (by omega)
                refine r_iand (pc := 128) (v := iv z11) dX12_colours_128 hz11 ?_
                refine r_istore (pc := 129) (lv' := [(4, .int (iv z11)), (0, .ref y), (1, .int (iv x1)), (2, .int (iv v37_2)), (3, .int (iv z7))]) dX12_colours_129 (by decide) rfl ?_
                refine r_goto (pc := 131) (tgt := 60) dX12_colours_131 (by decide) ?_
                refine Rn.pick (lv' := [(0, .ref y), (1, .int (iv x1)), (2, .int (iv v37_2)), (3, .int (iv z7)), (4, .int (iv z11))]) [1, 2, 3, 4, 0] rfl ?_
                exact ih60 (Int.toNat (z11)) (by omega) _ ht123 z11 ⟨by omega, by omega⟩ (by omega)
              refine t_if_eq (pc := 69) (tgt := 123) dX12_colours_69 (by decide) (by omega) (fun c69 => ?_) (fun c69 => ?_)
              · refine Rn.pick (lv' := [(0, .ref y), (1, .int (iv x1)), (2, .int (iv v37_2)), (3, .int (iv z7)), (4, .int (iv v60_4))]) [0, 1, 2, 3, 4] rfl ?_
                exact B123 _ ht60 trivial
              · refine r_aload_n (pc := 72) dX12_colours_72 (i := 0) rfl rfl ?_
                refine t_getE (pc := 73) (.ref (y + 25)) ht60 hO fX12_85 dX12_colours_73 rfl ?_
                refine r_iload (pc := 76) dX12_colours_76 rfl ?_
                refine t_zaldR (pc := 78) (t0 := 2) ht60 (rd_of hA_solid) dX12_colours_78 rfl (by decide) (by omega) (fun y12 by12 => ?_)
                refine t_if_eq (pc := 79) (tgt := 123) dX12_colours_79 (by decide) (by omega) (fun c79 => ?_) (fun c79 => ?_)
                · refine Rn.pick (lv' := [(0, .ref y), (1, .int (iv x1)), (2, .int (iv v37_2)), (3, .int (iv z7)), (4, .int (iv v60_4))]) [0, 1, 2, 3, 4] rfl ?_
                  exact B123 _ ht60 trivial
                · refine r_aload_n (pc := 82) dX12_colours_82 (i := 0) rfl rfl ?_
                  refine t_getE (pc := 83) (.ref (y + 35)) ht60 hO fX12_115 dX12_colours_83 rfl ?_
                  refine r_iload_n (pc := 86) dX12_colours_86 (i := 2) rfl rfl ?_
                  refine r_iload (pc := 87) dX12_colours_87 rfl ?_
                  refine r_iconst (pc := 89) (v := iv (-1)) dX12_colours_89 (by decide) ?_
                  refine r_ixor (pc := 90) (v := iv (-v60_4 - 1)) dX12_colours_90 (iv_not _) ?_
                  obtain ⟨z13, hz13, bz13⟩ := and_l v37_2 (-v60_4 - 1) (by omega) (by omega)
                  refine r_iand (pc := 91) (v := iv z13) dX12_colours_91 hz13 ?_
                  refine t_iald (pc := 92) (t0 := 0) ht60 (rd_of hA_least) dX12_colours_92 rfl (by decide) (by omega) (fun y14 by14 _ => ?_)
                  refine r_iconst (pc := 93) (v := iv 1) dX12_colours_93 (by decide) ?_
                  obtain ⟨z15, hz15, bz15⟩ := any_i (iv y14 + iv 1)
                  refine r_iadd (pc := 94) (v := iv z15) dX12_colours_94 hz15 ?_
                  refine r_aload_n (pc := 95) dX12_colours_95 (i := 0) rfl rfl ?_
                  refine t_getE (pc := 96) (.ref (y + 35)) ht60 hO fX12_115 dX12_colours_96 rfl ?_
                  refine r_iload_n (pc := 99) dX12_colours_99 (i := 2) rfl rfl ?_
                  refine t_iald (pc := 100) (t0 := 0) ht60 (rd_of hA_least) dX12_colours_100 rfl (by decide) (by omega) (fun y16 by16 _ => ?_)
                  refine t_icmp_ge (pc := 101) (tgt := 123) dX12_colours_101 (by decide) (by omega) (by omega) (fun c101 => ?_) (fun c101 => ?_)
                  · refine Rn.pick (lv' := [(0, .ref y), (1, .int (iv x1)), (2, .int (iv v37_2)), (3, .int (iv z7)), (4, .int (iv v60_4))]) [0, 1, 2, 3, 4] rfl ?_
                    exact B123 _ ht60 trivial
                  · refine r_aload_n (pc := 104) dX12_colours_104 (i := 0) rfl rfl ?_
                    refine t_getE (pc := 105) (.ref (y + 35)) ht60 hO fX12_115 dX12_colours_105 rfl ?_
                    refine r_iload_n (pc := 108) dX12_colours_108 (i := 2) rfl rfl ?_
                    refine r_aload_n (pc := 109) dX12_colours_109 (i := 0) rfl rfl ?_
                    refine t_getE (pc := 110) (.ref (y + 35)) ht60 hO fX12_115 dX12_colours_110 rfl ?_
                    refine r_iload_n (pc := 113) dX12_colours_113 (i := 2) rfl rfl ?_
                    refine r_iload (pc := 114) dX12_colours_114 rfl ?_
                    refine r_iconst (pc := 116) (v := iv (-1)) dX12_colours_116 (by decide) ?_
                    refine r_ixor (pc := 117) (v := iv (-v60_4 - 1)) dX12_colours_117 (iv_not _) ?_
                    obtain ⟨z17, hz17, bz17⟩ := and_l v37_2 (-v60_4 - 1) (by omega) (by omega)
                    refine r_iand (pc := 118) (v := iv z17) dX12_colours_118 hz17 ?_
                    refine t_iald (pc := 119) (t0 := 0) ht60 (rd_of hA_least) dX12_colours_119 rfl (by decide) (by omega) (fun y18 by18 _ => ?_)
                    refine r_iconst (pc := 120) (v := iv 1) dX12_colours_120 (by decide) ?_
                    obtain ⟨z19, hz19, bz19⟩ := any_i (iv y18 + iv 1)
                    refine r_iadd (pc := 121) (v := iv z19) dX12_colours_121 hz19 ?_
                    refine t_iast (pc := 122) (t0 := 0) ht60 hA_least dX12_colours_122 rfl (by decide) (by omega) (by omega) trivial (fun hp20 ht21 => ?_)
                    refine Rn.pick (lv' := [(0, .ref y), (1, .int (iv x1)), (2, .int (iv v37_2)), (3, .int (iv z7)), (4, .int (iv v60_4))]) [0, 1, 2, 3, 4] rfl ?_
                    exact B123 _ ht21 trivial
          refine Rn.pick (lv' := [(0, .ref y), (1, .int (iv x1)), (2, .int (iv v37_2)), (3, .int (iv z7)), (4, .int (iv v37_2))]) [2, 3, 4, 1, 0] rfl ?_
          exact B60 (Int.toNat (v37_2)) _ ht9 v37_2 ⟨by omega, by omega⟩ (by omega)
      refine Rn.pick (lv' := [(0, .ref y), (1, .int (iv x1)), (2, .int (iv 1))]) [1, 2, 0] rfl ?_
      exact B37 (Int.toNat (65536 - 1)) _ ht3 1 ⟨by omega, by omega⟩ (by omega)
    · refine r_aload_n (pc := 9) dX12_colours_9 (i := 0) rfl rfl ?_
      refine t_getE (pc := 10) (.ref (y + 25)) ht2 hO fX12_85 dX12_colours_10 rfl ?_
      refine r_iload_n (pc := 13) dX12_colours_13 (i := 2) rfl rfl ?_
      refine r_aload_n (pc := 14) dX12_colours_14 (i := 0) rfl rfl ?_
      refine r_iload_n (pc := 15) dX12_colours_15 (i := 2) rfl rfl ?_
      refine r_iload_n (pc := 16) dX12_colours_16 (i := 1) rfl rfl ?_
      refine r_iconst (pc := 17) (v := iv 0) dX12_colours_17 (by decide) ?_
      refine t_callVR (pc := 18) (as := [.int (iv v2_2), .int (iv x1), .int (iv 0)]) (st := [.int (iv v2_2), .ref (y + 25)]) ht2 hO kX12_362 rfl dX12_colours_18 (t_X12_isClique (d := d - 1) (x1 := v2_2) (x2 := x1) (x3 := 0) (by omega) hO hA_beside ht2 (by omega) (by omega) (by omega)) rfl (by omega) (Nat.le_of_ble_eq_true rfl) rfl (fun hp22 y24 ht23 by24 => ?_)
      refine t_zastR (pc := 21) (t0 := 2) ht23 hA_solid dX12_colours_21 rfl (by decide) (by omega) (by omega) (fun hp25 ht26 => ?_)
      refine r_iinc (pc := 22) (v := iv (v2_2 + 1)) (lv' := [(2, .int (iv (v2_2 + 1))), (0, .ref y), (1, .int (iv x1))]) dX12_colours_22 rfl (iv_add _ _) (by decide) rfl ?_
      refine r_goto (pc := 25) (tgt := 2) dX12_colours_25 (by decide) ?_
      refine Rn.pick (lv' := [(0, .ref y), (1, .int (iv x1)), (2, .int (iv (v2_2 + 1)))]) [1, 2, 0] rfl ?_
      exact ih2 (Int.toNat (65536 - (v2_2 + 1))) (by omega) _ ht26 (v2_2 + 1) ⟨by omega, by omega⟩ (by omega)
  refine Rn.pick (lv' := [(0, .ref y), (1, .int (iv x1)), (2, .int (iv 0))]) [1, 2, 0] rfl ?_
  exact B2 (Int.toNat (65536 - 0)) _ ht 0 ⟨by omega, by omega⟩ (by omega)
set_option maxHeartbeats 4000000 in
set_option maxRecDepth 100000 in
theorem t_X12_width {D : va_G} {cI cJ cZ cT : ClassId} {lo b L : Nat} {xs : Nat → Int32} {hp : MH} {n d : Nat} {Γ : TG} {y : Nat} {rf cnt nm : Int32} {x1 : Int} (hd0 : 1 ≤ d) (hO : rd Γ y (tO 11 (mdF y rf cnt nm))) (hA_beside : rd Γ (y + 24) (tI cI 16 (rg 0 65535))) (hA_least : Γ (y + 35) = some (tI cI 65536 anyI)) (ht : Tw Γ hp) (hx1 : 0 ≤ x1 ∧ x1 ≤ 16) : Mt (gG D cI cJ cZ cT lo b L xs) mX12_width d 0 0 [.ref y, .int (iv x1)] hp n (pJ Γ n yes64) := by
  refine Mt.of rfl (Nat.le_of_ble_eq_true rfl) ?_
  refine Rn.pick (lv' := [(0, .ref y), (1, .int (iv x1))]) [0, 1] rfl ?_
  refine r_iconst (pc := 0) (v := iv 1) dX12_width_0 (by decide) ?_
  refine r_iload_n (pc := 1) dX12_width_1 (i := 1) rfl rfl ?_
  obtain ⟨z1, hz1, bz1⟩ := shl_1 0 16 x1 (by omega) (by omega) (by decide)
  refine r_ishl (pc := 2) (v := iv z1) dX12_width_2 hz1 ?_
  refine r_iconst (pc := 3) (v := iv 1) dX12_width_3 (by decide) ?_
  refine r_isub (pc := 4) (v := iv (z1 - 1)) dX12_width_4 (iv_sub _ _) ?_
  refine r_istore_n (pc := 5) (lv' := [(2, .int (iv (z1 - 1))), (0, .ref y), (1, .int (iv x1))]) dX12_width_5 (i := 2) rfl (by decide) rfl ?_
  refine r_aload_n (pc := 6) dX12_width_6 (i := 0) rfl rfl ?_
  refine t_getE (pc := 7) (.ref (y + 35)) ht hO fX12_115 dX12_width_7 rfl ?_
  refine r_iconst (pc := 10) (v := iv 0) dX12_width_10 (by decide) ?_
  refine r_iconst (pc := 11) (v := iv 0) dX12_width_11 (by decide) ?_
  refine t_iast (pc := 12) (t0 := 0) ht hA_least dX12_width_12 rfl (by decide) (by omega) (by omega) trivial (fun hp2 ht3 => ?_)
  refine r_iconst (pc := 13) (v := iv 1) dX12_width_13 (by decide) ?_
  refine r_istore_n (pc := 14) (lv' := [(3, .int (iv 1)), (2, .int (iv (z1 - 1))), (0, .ref y), (1, .int (iv x1))]) dX12_width_14 (i := 3) rfl (by decide) rfl ?_
  have B15 : ∀ k : Nat, ∀ hp15 : MH, Tw Γ hp15 → ∀  (v15_3 : Int), 1 ≤ v15_3 ∧ v15_3 ≤ 65536 → 65536 - v15_3 ≤ (k : Int) → Rn (gG D cI cJ cZ cT lo b L xs) mX12_width d 15 [(0, .ref y), (1, .int (iv x1)), (2, .int (iv (z1 - 1))), (3, .int (iv v15_3))] [] hp15 n 0 0 (pJ Γ n yes64) := by
    refine lpS _ ?_
    intro k15 ih15 hp15 ht15 v15_3 hf15 hm15
    refine r_iload_n (pc := 15) dX12_width_15 (i := 3) rfl rfl ?_
    refine r_iload_n (pc := 16) dX12_width_16 (i := 2) rfl rfl ?_
    refine t_icmp_gt (pc := 17) (tgt := 213) dX12_width_17 (by decide) (by omega) (by omega) (fun c17 => ?_) (fun c17 => ?_)
    · refine r_aload_n (pc := 213) dX12_width_213 (i := 0) rfl rfl ?_
      refine t_getE (pc := 214) (.ref (y + 35)) ht15 hO fX12_115 dX12_width_214 rfl ?_
      refine r_iload_n (pc := 217) dX12_width_217 (i := 2) rfl rfl ?_
      refine t_iald (pc := 218) (t0 := 0) ht15 (rd_of hA_least) dX12_width_218 rfl (by decide) (by omega) (fun y4 by4 _ => ?_)
      refine r_i2l (pc := 219) (v := (iv y4).toInt64) dX12_width_219 rfl ?_
      exact r_lret (pc := 220) dX12_width_220 rfl ⟨rfl, ht15, _, rfl, trivial⟩
    · refine r_aload_n (pc := 20) dX12_width_20 (i := 0) rfl rfl ?_
      refine t_getE (pc := 21) (.ref (y + 35)) ht15 hO fX12_115 dX12_width_21 rfl ?_
      refine r_iload_n (pc := 24) dX12_width_24 (i := 3) rfl rfl ?_
      refine r_bipush (pc := 25) (v := iv 99) dX12_width_25 (by decide) ?_
      refine t_iast (pc := 27) (t0 := 0) ht15 hA_least dX12_width_27 rfl (by decide) (by omega) (by omega) trivial (fun hp5 ht6 => ?_)
      refine r_iconst (pc := 28) (v := iv 0) dX12_width_28 (by decide) ?_
      refine r_istore (pc := 29) (lv' := [(4, .int (iv 0)), (0, .ref y), (1, .int (iv x1)), (2, .int (iv (z1 - 1))), (3, .int (iv v15_3))]) dX12_width_29 (by decide) rfl ?_
      have B31 : ∀ k : Nat, ∀ hp31 : MH, Tw Γ hp31 → ∀  (v31_4 : Int), 0 ≤ v31_4 ∧ v31_4 ≤ 16 → 16 - v31_4 ≤ (k : Int) → Rn (gG D cI cJ cZ cT lo b L xs) mX12_width d 31 [(0, .ref y), (1, .int (iv x1)), (2, .int (iv (z1 - 1))), (3, .int (iv v15_3)), (4, .int (iv v31_4))] [] hp31 n 0 0 (pJ Γ n yes64) := by
        refine lpS _ ?_
        intro k31 ih31 hp31 ht31 v31_4 hf31 hm31
        refine r_iload (pc := 31) dX12_width_31 rfl ?_
        refine r_iload_n (pc := 33) dX12_width_33 (i := 1) rfl rfl ?_
        refine t_icmp_ge (pc := 34) (tgt := 207) dX12_width_34 (by decide) (by omega) (by omega) (fun c34 => ?_) (fun c34 => ?_)
        · refine r_iinc (pc := 207) (v := iv (v15_3 + 1)) (lv' := [(3, .int (iv (v15_3 + 1))), (0, .ref y), (1, .int (iv x1)), (2, .int (iv (z1 - 1))), (4, .int (iv v31_4))]) dX12_width_207 rfl (iv_add _ _) (by decide) rfl ?_
          refine r_goto (pc := 210) (tgt := 15) dX12_width_210 (by decide) ?_
          refine Rn.pick (lv' := [(0, .ref y), (1, .int (iv x1)), (2, .int (iv (z1 - 1))), (3, .int (iv (v15_3 + 1)))]) [1, 2, 3, 0] rfl ?_
          exact ih15 (Int.toNat (65536 - (v15_3 + 1))) (by omega) _ ht31 (v15_3 + 1) ⟨by omega, by omega⟩ (by omega)
        · refine r_iload_n (pc := 37) dX12_width_37 (i := 3) rfl rfl ?_
          refine r_iload (pc := 38) dX12_width_38 rfl ?_
          obtain ⟨z7, hz7, bz7⟩ := shr_x v15_3 v31_4 (by omega) (by omega)
          refine r_ishr (pc := 40) (v := iv z7) dX12_width_40 hz7 ?_
          refine r_iconst (pc := 41) (v := iv 1) dX12_width_41 (by decide) ?_
          obtain ⟨z8, hz8, bz8⟩ := and_2 z7 1 (by omega) (by omega)
          refine r_iand (pc := 42) (v := iv z8) dX12_width_42 hz8 ?_
          refine r_iconst (pc := 43) (v := iv 1) dX12_width_43 (by decide) ?_
          have B201 : ∀ hp201 : MH, Tw Γ hp201 → True → Rn (gG D cI cJ cZ cT lo b L xs) mX12_width d 201 [(0, .ref y), (1, .int (iv x1)), (2, .int (iv (z1 - 1))), (3, .int (iv v15_3)), (4, .int (iv v31_4))] [] hp201 n 0 0 (pJ Γ n yes64) := by
            intro hp201 ht201 hf201
            refine r_iinc (pc := 201) (v := iv (v31_4 + 1)) (lv' := [(4, .int (iv (v31_4 + 1))), (0, .ref y), (1, .int (iv x1)), (2, .int (iv (z1 - 1))), (3, .int (iv v15_3))]) dX12_width_201 rfl (iv_add _ _) (by decide) rfl ?_
            refine r_goto (pc := 204) (tgt := 31) dX12_width_204 (by decide) ?_
            refine Rn.pick (lv' := [(0, .ref y), (1, .int (iv x1)), (2, .int (iv (z1 - 1))), (3, .int (iv v15_3)), (4, .int (iv (v31_4 + 1)))]) [1, 2, 3, 4, 0] rfl ?_
            exact ih31 (Int.toNat (16 - (v31_4 + 1))) (by omega) _ ht201 (v31_4 + 1) ⟨by omega, by omega⟩ (by omega)
          refine t_icmp_ne (pc := 44) (tgt := 201) dX12_width_44 (by decide) (by omega) (by omega) (fun c44 => ?_) (fun c44 => ?_)
          · refine Rn.pick (lv' := [(0, .ref y), (1, .int (iv x1)), (2, .int (iv (z1 - 1))), (3, .int (iv v15_3)), (4, .int (iv v31_4))]) [0, 1, 2, 3, 4] rfl ?_
            exact B201 _ ht31 trivial
          · refine r_iload_n (pc := 47) dX12_width_47 (i := 3) rfl rfl ?_
            refine r_iconst (pc := 48) (v := iv 1) dX12_width_48 (by decide) ?_
            refine r_iload (pc := 49) dX12_width_49 rfl ?_
            obtain ⟨z9, hz9, bz9⟩ := shl_1 0 15 v31_4 (by omega) (by omega) (by decide)
            refine r_ishl (pc := 51) (v := iv z9) dX12_width_51 hz9 ?_
            refine r_iconst (pc := 52) (v := iv (-1)) dX12_width_52 (by decide) ?_
            refine r_ixor (pc := 53) (v := iv (-z9 - 1)) dX12_width_53 (iv_not _) ?_
            obtain ⟨z10, hz10, bz10⟩ := and_l v15_3 (-z9 - 1) (by omega) (by omega)
            refine r_iand (pc := 54) (v := iv z10) dX12_width_54 hz10 ?_
            refine r_istore (pc := 55) (lv' := [(5, .int (iv z10)), (0, .ref y), (1, .int (iv x1)), (2, .int (iv (z1 - 1))), (3, .int (iv v15_3)), (4, .int (iv v31_4))]) dX12_width_55 (by decide) rfl ?_
            refine r_iconst (pc := 57) (v := iv 1) dX12_width_57 (by decide) ?_
            refine r_iload (pc := 58) dX12_width_58 rfl ?_
            obtain ⟨z11, hz11, bz11⟩ := shl_1 0 15 v31_4 (by omega) (by omega) (by decide)
            refine r_ishl (pc := 60) (v := iv z11) dX12_width_60 hz11 ?_
            refine r_istore (pc := 61) (lv' := [(6, .int (iv z11)), (5, .int (iv z10)), (0, .ref y), (1, .int (iv x1)), (2, .int (iv (z1 - 1))), (3, .int (iv v15_3)), (4, .int (iv v31_4))]) dX12_width_61 (by decide) rfl ?_
            refine r_iconst (pc := 63) (v := iv 0) dX12_width_63 (by decide) ?_
            refine r_istore (pc := 64) (lv' := [(7, .int (iv 0)), (6, .int (iv z11)), (5, .int (iv z10)), (0, .ref y), (1, .int (iv x1)), (2, .int (iv (z1 - 1))), (3, .int (iv v15_3)), (4, .int (iv v31_4))]) dX12_width_64 (by decide) rfl ?_
            refine r_iconst (pc := 66) (v := iv 0) dX12_width_66 (by decide) ?_
            refine r_istore (pc := 67) (lv' := [(8, .int (iv 0)), (7, .int (iv 0)), (6, .int (iv z11)), (5, .int (iv z10)), (0, .ref y), (1, .int (iv x1)), (2, .int (iv (z1 - 1))), (3, .int (iv v15_3)), (4, .int (iv v31_4))]) dX12_width_67 (by decide) rfl ?_
            have B69 : ∀ k : Nat, ∀ hp69 : MH, Tw Γ hp69 → ∀  (v69_6 : Int) (v69_7 : Int) (v69_8 : Int), 1 ≤ v69_6 ∧ v69_6 ≤ 65535 ∧ z11 ≤ v69_6 ∧ 0 ≤ v69_7 ∧ v69_7 ≤ 65535 ∧ 0 ≤ v69_8 ∧ v69_8 ≤ 65535 ∧ v69_7 ≤ v69_6 → 65536 - v69_7 ≤ (k : Int) → Rn (gG D cI cJ cZ cT lo b L xs) mX12_width d 69 [(0, .ref y), (1, .int (iv x1)), (2, .int (iv (z1 - 1))), (3, .int (iv v15_3)), (4, .int (iv v31_4)), (5, .int (iv z10)), (6, .int (iv v69_6)), (7, .int (iv v69_7)), (8, .int (iv v69_8))] [] hp69 n 0 0 (pJ Γ n yes64) := by
              refine lpS _ ?_
              intro k69 ih69 hp69 ht69 v69_6 v69_7 v69_8 hf69 hm69
              refine r_iload (pc := 69) dX12_width_69 rfl ?_
              refine r_iload (pc := 71) dX12_width_71 rfl ?_
              refine t_icmp_eq (pc := 73) (tgt := 136) dX12_width_73 (by decide) (by omega) (by omega) (fun c73 => ?_) (fun c73 => ?_)
              · refine r_iload (pc := 136) dX12_width_136 rfl ?_
                refine r_iload_n (pc := 138) dX12_width_138 (i := 3) rfl rfl ?_
                refine r_iconst (pc := 139) (v := iv (-1)) dX12_width_139 (by decide) ?_
                refine r_ixor (pc := 140) (v := iv (-v15_3 - 1)) dX12_width_140 (iv_not _) ?_
                obtain ⟨z12, hz12, bz12⟩ := and_l v69_8 (-v15_3 - 1) (by omega) (by omega)
                refine r_iand (pc := 141) (v := iv z12) dX12_width_141 hz12 ?_
                refine t_callSR (pc := 142) (as := [.int (iv z12)]) (st := []) kX12_201 dX12_width_142 (t_X12_bits (d := d - 1) (x1 := z12) (by omega)  ht69 (by omega)) rfl (by omega) (Nat.le_of_ble_eq_true rfl) rfl (fun hp13 y15 ht14 by15 => ?_)
                refine r_istore (pc := 145) (lv' := [(9, .int (iv y15)), (0, .ref y), (1, .int (iv x1)), (2, .int (iv (z1 - 1))), (3, .int (iv v15_3)), (4, .int (iv v31_4)), (5, .int (iv z10)), (6, .int (iv v69_6)), (7, .int (iv v69_7)), (8, .int (iv v69_8))]) dX12_width_145 (by decide) rfl ?_
                refine r_aload_n (pc := 147) dX12_width_147 (i := 0) rfl rfl ?_
                refine t_getE (pc := 148) (.ref (y + 35)) ht14 hO fX12_115 dX12_width_148 rfl ?_
                refine r_iload (pc := 151) dX12_width_151 rfl ?_
                refine t_iald (pc := 153) (t0 := 0) ht14 (rd_of hA_least) dX12_width_153 rfl (by decide) (by omega) (fun y16 by16 _ => ?_)
                refine r_iload (pc := 154) dX12_width_154 rfl ?_
                have B171 : ∀ hp171 : MH, Tw Γ hp171 → ∀  (u171_0 : Int), (-2147483648) ≤ u171_0 ∧ u171_0 ≤ 2147483647 → Rn (gG D cI cJ cZ cT lo b L xs) mX12_width d 171 [(0, .ref y), (1, .int (iv x1)), (2, .int (iv (z1 - 1))), (3, .int (iv v15_3)), (4, .int (iv v31_4))] [.int (iv u171_0)] hp171 n 0 0 (pJ Γ n yes64) := by
                  intro hp171 ht171 u171_0 hf171
                  refine r_istore (pc := 171) (lv' := [(9, .int (iv u171_0)), (0, .ref y), (1, .int (iv x1)), (2, .int (iv (z1 - 1))), (3, .int (iv v15_3)), (4, .int (iv v31_4))]) dX12_width_171 (by decide) rfl ?_
                  refine r_aload_n (pc := 173) dX12_width_173 (i := 0) rfl rfl ?_
                  refine t_getE (pc := 174) (.ref (y + 35)) ht171 hO fX12_115 dX12_width_174 rfl ?_
                  refine r_iload_n (pc := 177) dX12_width_177 (i := 3) rfl rfl ?_
                  refine r_iload (pc := 178) dX12_width_178 rfl ?_
                  refine r_aload_n (pc := 180) dX12_width_180 (i := 0) rfl rfl ?_
                  refine t_getE (pc := 181) (.ref (y + 35)) ht171 hO fX12_115 dX12_width_181 rfl ?_
                  refine r_iload_n (pc := 184) dX12_width_184 (i := 3) rfl rfl ?_
                  refine t_iald (pc := 185) (t0 := 0) ht171 (rd_of hA_least) dX12_width_185 rfl (by decide) (by omega) (fun y17 by17 _ => ?_)
                  have B200 : ∀ hp200 : MH, Tw Γ hp200 → ∀  (u200_2 : Int), (-2147483648) ≤ u200_2 ∧ u200_2 ≤ 2147483647 → Rn (gG D cI cJ cZ cT lo b L xs) mX12_width d 200 [(0, .ref y), (1, .int (iv x1)), (2, .int (iv (z1 - 1))), (3, .int (iv v15_3)), (4, .int (iv v31_4))] [.int (iv u200_2), .int (iv v15_3), .ref (y + 35)] hp200 n 0 0 (pJ Γ n yes64) := by
                    intro hp200 ht200 u200_2 hf200
                    refine t_iast (pc := 200) (t0 := 0) ht200 hA_least dX12_width_200 rfl (by decide) (by omega) (by omega) trivial (fun hp18 ht19 => ?_)
                    refine Rn.pick (lv' := [(0, .ref y), (1, .int (iv x1)), (2, .int (iv (z1 - 1))), (3, .int (iv v15_3)), (4, .int (iv v31_4))]) [0, 1, 2, 3, 4] rfl ?_
                    exact B201 _ ht19 trivial
                  refine t_icmp_ge (pc := 186) (tgt := 194) dX12_width_186 (by decide) (by omega) (by omega) (fun c186 => ?_) (fun c186 => ?_)
                  · refine r_aload_n (pc := 194) dX12_width_194 (i := 0) rfl rfl ?_
                    refine t_getE (pc := 195) (.ref (y + 35)) ht171 hO fX12_115 dX12_width_195 rfl ?_
                    refine r_iload_n (pc := 198) dX12_width_198 (i := 3) rfl rfl ?_
                    refine t_iald (pc := 199) (t0 := 0) ht171 (rd_of hA_least) dX12_width_199 rfl (by decide) (by omega) (fun y20 by20 _ => ?_)
                    refine Rn.pick (lv' := [(0, .ref y), (1, .int (iv x1)), (2, .int (iv (z1 - 1))), (3, .int (iv v15_3)), (4, .int (iv v31_4))]) [1, 2, 3, 4, 5] rfl ?_
                    exact B200 _ ht171 y20 ⟨by omega, by omega⟩
                  · refine r_iload (pc := 189) dX12_width_189 rfl ?_
                    refine r_goto (pc := 191) (tgt := 200) dX12_width_191 (by decide) ?_
                    refine Rn.pick (lv' := [(0, .ref y), (1, .int (iv x1)), (2, .int (iv (z1 - 1))), (3, .int (iv v15_3)), (4, .int (iv v31_4))]) [1, 2, 3, 4, 5] rfl ?_
                    exact B200 _ ht171 u171_0 ⟨by omega, by omega⟩
                refine t_icmp_le (pc := 156) (tgt := 169) dX12_width_156 (by decide) (by omega) (by omega) (fun c156 => ?_) (fun c156 => ?_)
                · refine r_iload (pc := 169) dX12_width_169 rfl ?_
                  refine Rn.pick (lv' := [(0, .ref y), (1, .int (iv x1)), (2, .int (iv (z1 - 1))), (3, .int (iv v15_3)), (4, .int (iv v31_4))]) [1, 2, 3, 4, 5] rfl ?_
                  exact B171 _ ht14 y15 ⟨by omega, by omega⟩
                · refine r_aload_n (pc := 159) dX12_width_159 (i := 0) rfl rfl ?_
                  refine t_getE (pc := 160) (.ref (y + 35)) ht14 hO fX12_115 dX12_width_160 rfl ?_
                  refine r_iload (pc := 163) dX12_width_163 rfl ?_
                  refine t_iald (pc := 165) (t0 := 0) ht14 (rd_of hA_least) dX12_width_165 rfl (by decide) (by omega) (fun y21 by21 _ => ?_)
                  refine r_goto (pc := 166) (tgt := 171) dX12_width_166 (by decide) ?_
                  refine Rn.pick (lv' := [(0, .ref y), (1, .int (iv x1)), (2, .int (iv (z1 - 1))), (3, .int (iv v15_3)), (4, .int (iv v31_4))]) [1, 2, 3, 4, 5] rfl ?_
                  exact B171 _ ht14 y21 ⟨by omega, by omega⟩
              · refine r_iload (pc := 76) dX12_width_76 rfl ?_
                refine r_istore (pc := 78) (lv' := [(7, .int (iv v69_6)), (0, .ref y), (1, .int (iv x1)), (2, .int (iv (z1 - 1))), (3, .int (iv v15_3)), (4, .int (iv v31_4)), (5, .int (iv z10)), (6, .int (iv v69_6)), (8, .int (iv v69_8))]) dX12_width_78 (by decide) rfl ?_
                refine r_iconst (pc := 80) (v := iv 0) dX12_width_80 (by decide) ?_
                refine r_istore (pc := 81) (lv' := [(9, .int (iv 0)), (7, .int (iv v69_6)), (0, .ref y), (1, .int (iv x1)), (2, .int (iv (z1 - 1))), (3, .int (iv v15_3)), (4, .int (iv v31_4)), (5, .int (iv z10)), (6, .int (iv v69_6)), (8, .int (iv v69_8))]) dX12_width_81 (by decide) rfl ?_
                have B83 : ∀ k : Nat, ∀ hp83 : MH, Tw Γ hp83 → ∀  (v83_6 : Int) (v83_8 : Int) (v83_9 : Int), 1 ≤ v83_6 ∧ v83_6 ≤ 65535 ∧ v69_6 ≤ v83_6 ∧ 0 ≤ v83_8 ∧ v83_8 ≤ 65535 ∧ v69_8 ≤ v83_8 ∧ 0 ≤ v83_9 ∧ v83_9 ≤ 16 → 16 - v83_9 ≤ (k : Int) → Rn (gG D cI cJ cZ cT lo b L xs) mX12_width d 83 [(0, .ref y), (1, .int (iv x1)), (2, .int (iv (z1 - 1))), (3, .int (iv v15_3)), (4, .int (iv v31_4)), (5, .int (iv z10)), (6, .int (iv v83_6)), (7, .int (iv v69_6)), (8, .int (iv v83_8)), (9, .int (iv v83_9))] [] hp83 n 0 0 (pJ Γ n yes64) := by
                  refine lpS _ ?_
                  intro k83 ih83 hp83 ht83 v83_6 v83_8 v83_9 hf83 hm83
                  refine r_iload (pc := 83) dX12_width_83 rfl ?_
                  refine r_iload_n (pc := 85) dX12_width_85 (i := 1) rfl rfl ?_
                  refine t_icmp_ge (pc := 86) (tgt := 133) dX12_width_86 (by decide) (by omega) (by omega) (fun c86 => ?_) (fun c86 => ?_)
                  · refine r_goto (pc := 133) (tgt := 69) dX12_width_133 (by decide) ?_
                    refine Rn.pick (lv' := [(0, .ref y), (1, .int (iv x1)), (2, .int (iv (z1 - 1))), (3, .int (iv v15_3)), (4, .int (iv v31_4)), (5, .int (iv z10)), (6, .int (iv v83_6)), (7, .int (iv v69_6)), (8, .int (iv v83_8))]) [0, 1, 2, 3, 4, 5, 6, 7, 8] rfl ?_
                    exact ih69 (Int.toNat (65536 - v69_6)) (by omega) _ ht83 v83_6 v69_6 v83_8 ⟨by omega, by omega, by omega, by omega, by omega, by omega, by omega, by omega⟩ (by omega)
                  · refine r_iload (pc := 89) dX12_width_89 rfl ?_
                    refine r_iload (pc := 91) dX12_width_91 rfl ?_
                    obtain ⟨z22, hz22, bz22⟩ := shr_x v69_6 v83_9 (by omega) (by omega)
                    refine r_ishr (pc := 93) (v := iv z22) dX12_width_93 hz22 ?_
                    refine r_iconst (pc := 94) (v := iv 1) dX12_width_94 (by decide) ?_
                    obtain ⟨z23, hz23, bz23⟩ := and_2 z22 1 (by omega) (by omega)
                    refine r_iand (pc := 95) (v := iv z23) dX12_width_95 hz23 ?_
                    refine r_iconst (pc := 96) (v := iv 1) dX12_width_96 (by decide) ?_
                    have B127 : ∀ hp127 : MH, Tw Γ hp127 → ∀  (v127_6 : Int) (v127_8 : Int), 1 ≤ v127_6 ∧ v127_6 ≤ 65535 ∧ v83_6 ≤ v127_6 ∧ 0 ≤ v127_8 ∧ v127_8 ≤ 65535 ∧ v83_8 ≤ v127_8 → Rn (gG D cI cJ cZ cT lo b L xs) mX12_width d 127 [(0, .ref y), (1, .int (iv x1)), (2, .int (iv (z1 - 1))), (3, .int (iv v15_3)), (4, .int (iv v31_4)), (5, .int (iv z10)), (6, .int (iv v127_6)), (7, .int (iv v69_6)), (8, .int (iv v127_8)), (9, .int (iv v83_9))] [] hp127 n 0 0 (pJ Γ n yes64) := by
                      intro hp127 ht127 v127_6 v127_8 hf127
                      refine r_iinc (pc := 127) (v := iv (v83_9 + 1)) (lv' := [(9, .int (iv (v83_9 + 1))), (0, .ref y), (1, .int (iv x1)), (2, .int (iv (z1 - 1))), (3, .int (iv v15_3)), (4, .int (iv v31_4)), (5, .int (iv z10)), (6, .int (iv v127_6)), (7, .int (iv v69_6)), (8, .int (iv v127_8))]) dX12_width_127 rfl (iv_add _ _) (by decide) rfl ?_
                      refine r_goto (pc := 130) (tgt := 83) dX12_width_130 (by decide) ?_
                      refine Rn.pick (lv' := [(0, .ref y), (1, .int (iv x1)), (2, .int (iv (z1 - 1))), (3, .int (iv v15_3)), (4, .int (iv v31_4)), (5, .int (iv z10)), (6, .int (iv v127_6)), (7, .int (iv v69_6)), (8, .int (iv v127_8)), (9, .int (iv (v83_9 + 1)))]) [1, 2, 3, 4, 5, 6, 7, 8, 9, 0] rfl ?_
                      exact ih83 (Int.toNat (16 - (v83_9 + 1))) (by omega) _ ht127 v127_6 v127_8 (v83_9 + 1) ⟨by omega, by omega, by omega, by omega, by omega, by omega, by omega, by omega⟩ (by omega)
                    refine t_icmp_ne (pc := 97) (tgt := 127) dX12_width_97 (by decide) (by omega) (by omega) (fun c97 => ?_) (fun c97 => ?_)
                    · refine Rn.pick (lv' := [(0, .ref y), (1, .int (iv x1)), (2, .int (iv (z1 - 1))), (3, .int (iv v15_3)), (4, .int (iv v31_4)), (5, .int (iv z10)), (6, .int (iv v83_6)), (7, .int (iv v69_6)), (8, .int (iv v83_8)), (9, .int (iv v83_9))]) [0, 1, 2, 3, 4, 5, 6, 7, 8, 9] rfl ?_
                      exact B127 _ ht83 v83_6 v83_8 ⟨by omega, by omega, by omega, by omega, by omega, by omega⟩
                    · refine r_iload (pc := 100) dX12_width_100 rfl ?_
                      refine r_aload_n (pc := 102) dX12_width_102 (i := 0) rfl rfl ?_
                      refine t_getE (pc := 103) (.ref (y + 24)) ht83 hO fX12_81 dX12_width_103 rfl ?_
                      refine r_iload (pc := 106) dX12_width_106 rfl ?_
                      refine t_ialdR (pc := 108) (t0 := 0) ht83 hA_beside dX12_width_108 rfl (by decide) (by omega) (fun y24 by24 => ?_)
                      obtain ⟨z25, hz25, bz25⟩ := or_2 16 v83_8 y24 (by omega) (by omega) (by decide)
                      refine r_ior (pc := 109) (v := iv z25) dX12_width_109 hz25 ?_
                      refine r_istore (pc := 110) (lv' := [(8, .int (iv z25)), (0, .ref y), (1, .int (iv x1)), (2, .int (iv (z1 - 1))), (3, .int (iv v15_3)), (4, .int (iv v31_4)), (5, .int (iv z10)), (6, .int (iv v83_6)), (7, .int (iv v69_6)), (9, .int (iv v83_9))]) dX12_width_110 (by decide) rfl ?_
                      refine r_iload (pc := 112) dX12_width_112 rfl ?_
                      refine r_aload_n (pc := 114) dX12_width_114 (i := 0) rfl rfl ?_
                      refine t_getE (pc := 115) (.ref (y + 24)) ht83 hO fX12_81 dX12_width_115 rfl ?_
                      refine r_iload (pc := 118) dX12_width_118 rfl ?_
                      refine t_ialdR (pc := 120) (t0 := 0) ht83 hA_beside dX12_width_120 rfl (by decide) (by omega) (fun y26 by26 => ?_)
                      refine r_iload (pc := 121) dX12_width_121 rfl ?_
                      obtain ⟨z27, hz27, bz27⟩ := and_2 y26 z10 (by omega) (by omega)
                      refine r_iand (pc := 123) (v := iv z27) dX12_width_123 hz27 ?_
                      obtain ⟨z28, hz28, bz28⟩ := or_2 16 v83_6 z27 (by omega) (by omega) (by decide)
                      refine r_ior (pc := 124) (v := iv z28) dX12_width_124 hz28 ?_
                      refine r_istore (pc := 125) (lv' := [(6, .int (iv z28)), (8, .int (iv z25)), (0, .ref y), (1, .int (iv x1)), (2, .int (iv (z1 - 1))), (3, .int (iv v15_3)), (4, .int (iv v31_4)), (5, .int (iv z10)), (7, .int (iv v69_6)), (9, .int (iv v83_9))]) dX12_width_125 (by decide) rfl ?_
                      refine Rn.pick (lv' := [(0, .ref y), (1, .int (iv x1)), (2, .int (iv (z1 - 1))), (3, .int (iv v15_3)), (4, .int (iv v31_4)), (5, .int (iv z10)), (6, .int (iv z28)), (7, .int (iv v69_6)), (8, .int (iv z25)), (9, .int (iv v83_9))]) [2, 3, 4, 5, 6, 7, 0, 8, 1, 9] rfl ?_
                      exact B127 _ ht83 z28 z25 ⟨by omega, by omega, by omega, by omega, by omega, by omega⟩
                refine Rn.pick (lv' := [(0, .ref y), (1, .int (iv x1)), (2, .int (iv (z1 - 1))), (3, .int (iv v15_3)), (4, .int (iv v31_4)), (5, .int (iv z10)), (6, .int (iv v69_6)), (7, .int (iv v69_6)), (8, .int (iv v69_8)), (9, .int (iv 0))]) [2, 3, 4, 5, 6, 7, 8, 1, 9, 0] rfl ?_
                exact B83 (Int.toNat (16 - 0)) _ ht69 v69_6 v69_8 0 ⟨by omega, by omega, by omega, by omega, by omega, by omega, by omega, by omega⟩ (by omega)
            refine Rn.pick (lv' := [(0, .ref y), (1, .int (iv x1)), (2, .int (iv (z1 - 1))), (3, .int (iv v15_3)), (4, .int (iv v31_4)), (5, .int (iv z10)), (6, .int (iv z11)), (7, .int (iv 0)), (8, .int (iv 0))]) [4, 5, 6, 7, 8, 3, 2, 1, 0] rfl ?_
            exact B69 (Int.toNat (65536 - 0)) _ ht31 z11 0 0 ⟨by omega, by omega, by omega, by omega, by omega, by omega, by omega, by omega⟩ (by omega)
      refine Rn.pick (lv' := [(0, .ref y), (1, .int (iv x1)), (2, .int (iv (z1 - 1))), (3, .int (iv v15_3)), (4, .int (iv 0))]) [1, 2, 3, 4, 0] rfl ?_
      exact B31 (Int.toNat (16 - 0)) _ ht6 0 ⟨by omega, by omega⟩ (by omega)
  refine Rn.pick (lv' := [(0, .ref y), (1, .int (iv x1)), (2, .int (iv (z1 - 1))), (3, .int (iv 1))]) [2, 3, 1, 0] rfl ?_
  exact B15 (Int.toNat (65536 - 1)) _ ht3 1 ⟨by omega, by omega⟩ (by omega)
set_option maxHeartbeats 4000000 in
set_option maxRecDepth 100000 in
theorem t_X12_pairs {D : va_G} {cI cJ cZ cT : ClassId} {lo b L : Nat} {xs : Nat → Int32} {hp : MH} {n d : Nat} {Γ : TG} {y : Nat} {rf cnt nm : Int32} {x1 x2 : Int} (hd0 : 0 ≤ d) (hO : rd Γ y (tO 11 (mdF y rf cnt nm))) (hA_beside : rd Γ (y + 24) (tI cI 16 (rg 0 65535))) (hA_least : Γ (y + 35) = some (tI cI 65536 anyI)) (ht : Tw Γ hp) (hx1 : 0 ≤ x1 ∧ x1 ≤ 65535) (hx2 : 0 ≤ x2 ∧ x2 ≤ 16) : Mt (gG D cI cJ cZ cT lo b L xs) mX12_pairs d 0 0 [.ref y, .int (iv x1), .int (iv x2)] hp n (pJ Γ n yes64) := by
  refine Mt.of rfl (Nat.le_of_ble_eq_true rfl) ?_
  refine Rn.pick (lv' := [(0, .ref y), (1, .int (iv x1)), (2, .int (iv x2))]) [0, 1, 2] rfl ?_
  refine r_iconst (pc := 0) (v := iv 0) dX12_pairs_0 (by decide) ?_
  refine r_istore_n (pc := 1) (lv' := [(3, .int (iv 0)), (0, .ref y), (1, .int (iv x1)), (2, .int (iv x2))]) dX12_pairs_1 (i := 3) rfl (by decide) rfl ?_
  have B2 : ∀ k : Nat, ∀ hp2 : MH, Tw Γ hp2 → ∀  (v2_3 : Int), 0 ≤ v2_3 ∧ v2_3 ≤ 65536 → 65536 - v2_3 ≤ (k : Int) → Rn (gG D cI cJ cZ cT lo b L xs) mX12_pairs d 2 [(0, .ref y), (1, .int (iv x1)), (2, .int (iv x2)), (3, .int (iv v2_3))] [] hp2 n 0 0 (pJ Γ n yes64) := by
    refine lpS _ ?_
    intro k2 ih2 hp2 ht2 v2_3 hf2 hm2
    refine r_iload_n (pc := 2) dX12_pairs_2 (i := 3) rfl rfl ?_
    refine r_iload_n (pc := 3) dX12_pairs_3 (i := 1) rfl rfl ?_
    refine t_icmp_gt (pc := 4) (tgt := 165) dX12_pairs_4 (by decide) (by omega) (by omega) (fun c4 => ?_) (fun c4 => ?_)
    · refine r_aload_n (pc := 165) dX12_pairs_165 (i := 0) rfl rfl ?_
      refine t_getE (pc := 166) (.ref (y + 35)) ht2 hO fX12_115 dX12_pairs_166 rfl ?_
      refine r_iload_n (pc := 169) dX12_pairs_169 (i := 1) rfl rfl ?_
      refine t_iald (pc := 170) (t0 := 0) ht2 (rd_of hA_least) dX12_pairs_170 rfl (by decide) (by omega) (fun y1 by1 _ => ?_)
      refine r_i2l (pc := 171) (v := (iv y1).toInt64) dX12_pairs_171 rfl ?_
      exact r_lret (pc := 172) dX12_pairs_172 rfl ⟨rfl, ht2, _, rfl, trivial⟩
    · refine r_aload_n (pc := 7) dX12_pairs_7 (i := 0) rfl rfl ?_
      refine t_getE (pc := 8) (.ref (y + 35)) ht2 hO fX12_115 dX12_pairs_8 rfl ?_
      refine r_iload_n (pc := 11) dX12_pairs_11 (i := 3) rfl rfl ?_
      refine r_iconst (pc := 12) (v := iv 0) dX12_pairs_12 (by decide) ?_
      refine t_iast (pc := 13) (t0 := 0) ht2 hA_least dX12_pairs_13 rfl (by decide) (by omega) (by omega) trivial (fun hp2 ht3 => ?_)
      refine r_iconst (pc := 14) (v := iv 0) dX12_pairs_14 (by decide) ?_
      refine r_istore (pc := 15) (lv' := [(4, .int (iv 0)), (0, .ref y), (1, .int (iv x1)), (2, .int (iv x2)), (3, .int (iv v2_3))]) dX12_pairs_15 (by decide) rfl ?_
      have B17 : ∀ k : Nat, ∀ hp17 : MH, Tw Γ hp17 → ∀  (v17_4 : Int), 0 ≤ v17_4 ∧ v17_4 ≤ 16 → 16 - v17_4 ≤ (k : Int) → Rn (gG D cI cJ cZ cT lo b L xs) mX12_pairs d 17 [(0, .ref y), (1, .int (iv x1)), (2, .int (iv x2)), (3, .int (iv v2_3)), (4, .int (iv v17_4))] [] hp17 n 0 0 (pJ Γ n yes64) := by
        refine lpS _ ?_
        intro k17 ih17 hp17 ht17 v17_4 hf17 hm17
        refine r_iload (pc := 17) dX12_pairs_17 rfl ?_
        refine r_iload_n (pc := 19) dX12_pairs_19 (i := 2) rfl rfl ?_
        have B38 : ∀ hp38 : MH, Tw Γ hp38 → True → Rn (gG D cI cJ cZ cT lo b L xs) mX12_pairs d 38 [(0, .ref y), (1, .int (iv x1)), (2, .int (iv x2)), (3, .int (iv v2_3)), (4, .int (iv v17_4))] [] hp38 n 0 0 (pJ Γ n yes64) := by
          intro hp38 ht38 hf38
          refine r_iload (pc := 38) dX12_pairs_38 rfl ?_
          refine r_iload_n (pc := 40) dX12_pairs_40 (i := 2) rfl rfl ?_
          have B159 : ∀ hp159 : MH, Tw Γ hp159 → True → Rn (gG D cI cJ cZ cT lo b L xs) mX12_pairs d 159 [(0, .ref y), (1, .int (iv x1)), (2, .int (iv x2)), (3, .int (iv v2_3))] [] hp159 n 0 0 (pJ Γ n yes64) := by
            intro hp159 ht159 hf159
            refine r_iinc (pc := 159) (v := iv (v2_3 + 1)) (lv' := [(3, .int (iv (v2_3 + 1))), (0, .ref y), (1, .int (iv x1)), (2, .int (iv x2))]) dX12_pairs_159 rfl (iv_add _ _) (by decide) rfl ?_
            refine r_goto (pc := 162) (tgt := 2) dX12_pairs_162 (by decide) ?_
            refine Rn.pick (lv' := [(0, .ref y), (1, .int (iv x1)), (2, .int (iv x2)), (3, .int (iv (v2_3 + 1)))]) [1, 2, 3, 0] rfl ?_
            exact ih2 (Int.toNat (65536 - (v2_3 + 1))) (by omega) _ ht159 (v2_3 + 1) ⟨by omega, by omega⟩ (by omega)
          refine t_icmp_ge (pc := 41) (tgt := 159) dX12_pairs_41 (by decide) (by omega) (by omega) (fun c41 => ?_) (fun c41 => ?_)
          · refine Rn.pick (lv' := [(0, .ref y), (1, .int (iv x1)), (2, .int (iv x2)), (3, .int (iv v2_3))]) [0, 1, 2, 3] rfl ?_
            exact B159 _ ht38 trivial
          · refine r_iload_n (pc := 44) dX12_pairs_44 (i := 3) rfl rfl ?_
            refine r_iconst (pc := 45) (v := iv 1) dX12_pairs_45 (by decide) ?_
            refine r_iload (pc := 46) dX12_pairs_46 rfl ?_
            obtain ⟨z4, hz4, bz4⟩ := shl_1 0 15 v17_4 (by omega) (by omega) (by decide)
            refine r_ishl (pc := 48) (v := iv z4) dX12_pairs_48 hz4 ?_
            refine r_iconst (pc := 49) (v := iv (-1)) dX12_pairs_49 (by decide) ?_
            refine r_ixor (pc := 50) (v := iv (-z4 - 1)) dX12_pairs_50 (iv_not _) ?_
            obtain ⟨z5, hz5, bz5⟩ := and_l v2_3 (-z4 - 1) (by omega) (by omega)
            refine r_iand (pc := 51) (v := iv z5) dX12_pairs_51 hz5 ?_
            refine r_istore (pc := 52) (lv' := [(5, .int (iv z5)), (0, .ref y), (1, .int (iv x1)), (2, .int (iv x2)), (3, .int (iv v2_3)), (4, .int (iv v17_4))]) dX12_pairs_52 (by decide) rfl ?_
            refine r_aload_n (pc := 54) dX12_pairs_54 (i := 0) rfl rfl ?_
            refine t_getE (pc := 55) (.ref (y + 35)) ht38 hO fX12_115 dX12_pairs_55 rfl ?_
            refine r_iload_n (pc := 58) dX12_pairs_58 (i := 3) rfl rfl ?_
            refine r_aload_n (pc := 59) dX12_pairs_59 (i := 0) rfl rfl ?_
            refine t_getE (pc := 60) (.ref (y + 35)) ht38 hO fX12_115 dX12_pairs_60 rfl ?_
            refine r_iload (pc := 63) dX12_pairs_63 rfl ?_
            refine t_iald (pc := 65) (t0 := 0) ht38 (rd_of hA_least) dX12_pairs_65 rfl (by decide) (by omega) (fun y6 by6 _ => ?_)
            refine t_iast (pc := 66) (t0 := 0) ht38 hA_least dX12_pairs_66 rfl (by decide) (by omega) (by omega) trivial (fun hp7 ht8 => ?_)
            refine r_iload (pc := 67) dX12_pairs_67 rfl ?_
            refine r_iconst (pc := 69) (v := iv 1) dX12_pairs_69 (by decide) ?_
            refine r_iadd (pc := 70) (v := iv (v17_4 + 1)) dX12_pairs_70 (iv_add _ _) ?_
            refine r_istore (pc := 71) (lv' := [(6, .int (iv (v17_4 + 1))), (5, .int (iv z5)), (0, .ref y), (1, .int (iv x1)), (2, .int (iv x2)), (3, .int (iv v2_3)), (4, .int (iv v17_4))]) dX12_pairs_71 (by decide) rfl ?_
            have B73 : ∀ k : Nat, ∀ hp73 : MH, Tw Γ hp73 → ∀  (v73_6 : Int), 1 ≤ v73_6 ∧ v73_6 ≤ 16 ∧ v17_4 + 1 ≤ v73_6 → 16 - v73_6 ≤ (k : Int) → Rn (gG D cI cJ cZ cT lo b L xs) mX12_pairs d 73 [(0, .ref y), (1, .int (iv x1)), (2, .int (iv x2)), (3, .int (iv v2_3)), (4, .int (iv v17_4)), (5, .int (iv z5)), (6, .int (iv v73_6))] [] hp73 n 0 0 (pJ Γ n yes64) := by
              refine lpS _ ?_
              intro k73 ih73 hp73 ht73 v73_6 hf73 hm73
              refine r_iload (pc := 73) dX12_pairs_73 rfl ?_
              refine r_iload_n (pc := 75) dX12_pairs_75 (i := 2) rfl rfl ?_
              refine t_icmp_ge (pc := 76) (tgt := 159) dX12_pairs_76 (by decide) (by omega) (by omega) (fun c76 => ?_) (fun c76 => ?_)
              · refine Rn.pick (lv' := [(0, .ref y), (1, .int (iv x1)), (2, .int (iv x2)), (3, .int (iv v2_3))]) [0, 1, 2, 3] rfl ?_
                exact B159 _ ht73 trivial
              · refine r_iload (pc := 79) dX12_pairs_79 rfl ?_
                refine r_iload (pc := 81) dX12_pairs_81 rfl ?_
                obtain ⟨z9, hz9, bz9⟩ := shr_x z5 v73_6 (by omega) (by omega)
                refine r_ishr (pc := 83) (v := iv z9) dX12_pairs_83 hz9 ?_
                refine r_iconst (pc := 84) (v := iv 1) dX12_pairs_84 (by decide) ?_
                obtain ⟨z10, hz10, bz10⟩ := and_2 z9 1 (by omega) (by omega)
                refine r_iand (pc := 85) (v := iv z10) dX12_pairs_85 hz10 ?_
                refine r_iconst (pc := 86) (v := iv 1) dX12_pairs_86 (by decide) ?_
                have B153 : ∀ hp153 : MH, Tw Γ hp153 → True → Rn (gG D cI cJ cZ cT lo b L xs) mX12_pairs d 153 [(0, .ref y), (1, .int (iv x1)), (2, .int (iv x2)), (3, .int (iv v2_3)), (4, .int (iv v17_4)), (5, .int (iv z5)), (6, .int (iv v73_6))] [] hp153 n 0 0 (pJ Γ n yes64) := by
                  intro hp153 ht153 hf153
                  refine r_iinc (pc := 153) (v := iv (v73_6 + 1)) (lv' := [(6, .int (iv (v73_6 + 1))), (0, .ref y), (1, .int (iv x1)), (2, .int (iv x2)), (3, .int (iv v2_3)), (4, .int (iv v17_4)), (5, .int (iv z5))]) dX12_pairs_153 rfl (iv_add _ _) (by decide) rfl ?_
                  refine r_goto (pc := 156) (tgt := 73) dX12_pairs_156 (by decide) ?_
                  refine Rn.pick (lv' := [(0, .ref y), (1, .int (iv x1)), (2, .int (iv x2)), (3, .int (iv v2_3)), (4, .int (iv v17_4)), (5, .int (iv z5)), (6, .int (iv (v73_6 + 1)))]) [1, 2, 3, 4, 5, 6, 0] rfl ?_
                  exact ih73 (Int.toNat (16 - (v73_6 + 1))) (by omega) _ ht153 (v73_6 + 1) ⟨by omega, by omega, by omega⟩ (by omega)
                refine t_icmp_ne (pc := 87) (tgt := 153) dX12_pairs_87 (by decide) (by omega) (by omega) (fun c87 => ?_) (fun c87 => ?_)
                · refine Rn.pick (lv' := [(0, .ref y), (1, .int (iv x1)), (2, .int (iv x2)), (3, .int (iv v2_3)), (4, .int (iv v17_4)), (5, .int (iv z5)), (6, .int (iv v73_6))]) [0, 1, 2, 3, 4, 5, 6] rfl ?_
                  exact B153 _ ht73 trivial
                · refine r_aload_n (pc := 90) dX12_pairs_90 (i := 0) rfl rfl ?_
                  refine t_getE (pc := 91) (.ref (y + 24)) ht73 hO fX12_81 dX12_pairs_91 rfl ?_
                  refine r_iload (pc := 94) dX12_pairs_94 rfl ?_
                  refine t_ialdR (pc := 96) (t0 := 0) ht73 hA_beside dX12_pairs_96 rfl (by decide) (by omega) (fun y11 by11 => ?_)
                  refine r_iload (pc := 97) dX12_pairs_97 rfl ?_
                  obtain ⟨z12, hz12, bz12⟩ := shr_x y11 v73_6 (by omega) (by omega)
                  refine r_ishr (pc := 99) (v := iv z12) dX12_pairs_99 hz12 ?_
                  refine r_iconst (pc := 100) (v := iv 1) dX12_pairs_100 (by decide) ?_
                  obtain ⟨z13, hz13, bz13⟩ := and_2 z12 1 (by omega) (by omega)
                  refine r_iand (pc := 101) (v := iv z13) dX12_pairs_101 hz13 ?_
                  refine r_iconst (pc := 102) (v := iv 1) dX12_pairs_102 (by decide) ?_
                  refine t_icmp_ne (pc := 103) (tgt := 153) dX12_pairs_103 (by decide) (by omega) (by omega) (fun c103 => ?_) (fun c103 => ?_)
                  · refine Rn.pick (lv' := [(0, .ref y), (1, .int (iv x1)), (2, .int (iv x2)), (3, .int (iv v2_3)), (4, .int (iv v17_4)), (5, .int (iv z5)), (6, .int (iv v73_6))]) [0, 1, 2, 3, 4, 5, 6] rfl ?_
                    exact B153 _ ht73 trivial
                  · refine r_aload_n (pc := 106) dX12_pairs_106 (i := 0) rfl rfl ?_
                    refine t_getE (pc := 107) (.ref (y + 35)) ht73 hO fX12_115 dX12_pairs_107 rfl ?_
                    refine r_iload (pc := 110) dX12_pairs_110 rfl ?_
                    refine r_iconst (pc := 112) (v := iv 1) dX12_pairs_112 (by decide) ?_
                    refine r_iload (pc := 113) dX12_pairs_113 rfl ?_
                    obtain ⟨z14, hz14, bz14⟩ := shl_1 1 15 v73_6 (by omega) (by omega) (by decide)
                    refine r_ishl (pc := 115) (v := iv z14) dX12_pairs_115 hz14 ?_
                    refine r_iconst (pc := 116) (v := iv (-1)) dX12_pairs_116 (by decide) ?_
                    refine r_ixor (pc := 117) (v := iv (-z14 - 1)) dX12_pairs_117 (iv_not _) ?_
                    obtain ⟨z15, hz15, bz15⟩ := and_l z5 (-z14 - 1) (by omega) (by omega)
                    refine r_iand (pc := 118) (v := iv z15) dX12_pairs_118 hz15 ?_
                    refine t_iald (pc := 119) (t0 := 0) ht73 (rd_of hA_least) dX12_pairs_119 rfl (by decide) (by omega) (fun y16 by16 _ => ?_)
                    refine r_iconst (pc := 120) (v := iv 1) dX12_pairs_120 (by decide) ?_
                    obtain ⟨z17, hz17, bz17⟩ := any_i (iv y16 + iv 1)
                    refine r_iadd (pc := 121) (v := iv z17) dX12_pairs_121 hz17 ?_
                    refine r_aload_n (pc := 122) dX12_pairs_122 (i := 0) rfl rfl ?_
                    refine t_getE (pc := 123) (.ref (y + 35)) ht73 hO fX12_115 dX12_pairs_123 rfl ?_
                    refine r_iload_n (pc := 126) dX12_pairs_126 (i := 3) rfl rfl ?_
                    refine t_iald (pc := 127) (t0 := 0) ht73 (rd_of hA_least) dX12_pairs_127 rfl (by decide) (by omega) (fun y18 by18 _ => ?_)
                    refine t_icmp_le (pc := 128) (tgt := 153) dX12_pairs_128 (by decide) (by omega) (by omega) (fun c128 => ?_) (fun c128 => ?_)
                    · refine Rn.pick (lv' := [(0, .ref y), (1, .int (iv x1)), (2, .int (iv x2)), (3, .int (iv v2_3)), (4, .int (iv v17_4)), (5, .int (iv z5)), (6, .int (iv v73_6))]) [0, 1, 2, 3, 4, 5, 6] rfl ?_
                      exact B153 _ ht73 trivial
                    · refine r_aload_n (pc := 131) dX12_pairs_131 (i := 0) rfl rfl ?_
                      refine t_getE (pc := 132) (.ref (y + 35)) ht73 hO fX12_115 dX12_pairs_132 rfl ?_
                      refine r_iload_n (pc := 135) dX12_pairs_135 (i := 3) rfl rfl ?_
                      refine r_aload_n (pc := 136) dX12_pairs_136 (i := 0) rfl rfl ?_
                      refine t_getE (pc := 137) (.ref (y + 35)) ht73 hO fX12_115 dX12_pairs_137 rfl ?_
                      refine r_iload (pc := 140) dX12_pairs_140 rfl ?_
                      refine r_iconst (pc := 142) (v := iv 1) dX12_pairs_142 (by decide) ?_
                      refine r_iload (pc := 143) dX12_pairs_143 rfl ?_
                      obtain ⟨z19, hz19, bz19⟩ := shl_1 1 15 v73_6 (by omega) (by omega) (by decide)
                      refine r_ishl (pc := 145) (v := iv z19) dX12_pairs_145 hz19 ?_
                      refine r_iconst (pc := 146) (v := iv (-1)) dX12_pairs_146 (by decide) ?_
                      refine r_ixor (pc := 147) (v := iv (-z19 - 1)) dX12_pairs_147 (iv_not _) ?_
                      obtain ⟨z20, hz20, bz20⟩ := and_l z5 (-z19 - 1) (by omega) (by omega)
                      refine r_iand (pc := 148) (v := iv z20) dX12_pairs_148 hz20 ?_
                      refine t_iald (pc := 149) (t0 := 0) ht73 (rd_of hA_least) dX12_pairs_149 rfl (by decide) (by omega) (fun y21 by21 _ => ?_)
                      refine r_iconst (pc := 150) (v := iv 1) dX12_pairs_150 (by decide) ?_
                      obtain ⟨z22, hz22, bz22⟩ := any_i (iv y21 + iv 1)
                      refine r_iadd (pc := 151) (v := iv z22) dX12_pairs_151 hz22 ?_
                      refine t_iast (pc := 152) (t0 := 0) ht73 hA_least dX12_pairs_152 rfl (by decide) (by omega) (by omega) trivial (fun hp23 ht24 => ?_)
                      refine Rn.pick (lv' := [(0, .ref y), (1, .int (iv x1)), (2, .int (iv x2)), (3, .int (iv v2_3)), (4, .int (iv v17_4)), (5, .int (iv z5)), (6, .int (iv v73_6))]) [0, 1, 2, 3, 4, 5, 6] rfl ?_
                      exact B153 _ ht24 trivial
            refine Rn.pick (lv' := [(0, .ref y), (1, .int (iv x1)), (2, .int (iv x2)), (3, .int (iv v2_3)), (4, .int (iv v17_4)), (5, .int (iv z5)), (6, .int (iv (v17_4 + 1)))]) [2, 3, 4, 5, 6, 1, 0] rfl ?_
            exact B73 (Int.toNat (16 - (v17_4 + 1))) _ ht8 (v17_4 + 1) ⟨by omega, by omega, by omega⟩ (by omega)
        refine t_icmp_ge (pc := 20) (tgt := 38) dX12_pairs_20 (by decide) (by omega) (by omega) (fun c20 => ?_) (fun c20 => ?_)
        · refine Rn.pick (lv' := [(0, .ref y), (1, .int (iv x1)), (2, .int (iv x2)), (3, .int (iv v2_3)), (4, .int (iv v17_4))]) [0, 1, 2, 3, 4] rfl ?_
          exact B38 _ ht17 trivial
        · refine r_iload_n (pc := 23) dX12_pairs_23 (i := 3) rfl rfl ?_
          refine r_iload (pc := 24) dX12_pairs_24 rfl ?_
          obtain ⟨z25, hz25, bz25⟩ := shr_x v2_3 v17_4 (by omega) (by omega)
          refine r_ishr (pc := 26) (v := iv z25) dX12_pairs_26 hz25 ?_
          refine r_iconst (pc := 27) (v := iv 1) dX12_pairs_27 (by decide) ?_
          obtain ⟨z26, hz26, bz26⟩ := and_2 z25 1 (by omega) (by omega)
          refine r_iand (pc := 28) (v := iv z26) dX12_pairs_28 hz26 ?_
          refine t_if_ne (pc := 29) (tgt := 38) dX12_pairs_29 (by decide) (by omega) (fun c29 => ?_) (fun c29 => ?_)
          · refine Rn.pick (lv' := [(0, .ref y), (1, .int (iv x1)), (2, .int (iv x2)), (3, .int (iv v2_3)), (4, .int (iv v17_4))]) [0, 1, 2, 3, 4] rfl ?_
            exact B38 _ ht17 trivial
          · refine r_iinc (pc := 32) (v := iv (v17_4 + 1)) (lv' := [(4, .int (iv (v17_4 + 1))), (0, .ref y), (1, .int (iv x1)), (2, .int (iv x2)), (3, .int (iv v2_3))]) dX12_pairs_32 rfl (iv_add _ _) (by decide) rfl ?_
            refine r_goto (pc := 35) (tgt := 17) dX12_pairs_35 (by decide) ?_
            refine Rn.pick (lv' := [(0, .ref y), (1, .int (iv x1)), (2, .int (iv x2)), (3, .int (iv v2_3)), (4, .int (iv (v17_4 + 1)))]) [1, 2, 3, 4, 0] rfl ?_
            exact ih17 (Int.toNat (16 - (v17_4 + 1))) (by omega) _ ht17 (v17_4 + 1) ⟨by omega, by omega⟩ (by omega)
      refine Rn.pick (lv' := [(0, .ref y), (1, .int (iv x1)), (2, .int (iv x2)), (3, .int (iv v2_3)), (4, .int (iv 0))]) [1, 2, 3, 4, 0] rfl ?_
      exact B17 (Int.toNat (16 - 0)) _ ht3 0 ⟨by omega, by omega⟩ (by omega)
  refine Rn.pick (lv' := [(0, .ref y), (1, .int (iv x1)), (2, .int (iv x2)), (3, .int (iv 0))]) [1, 2, 3, 0] rfl ?_
  exact B2 (Int.toNat (65536 - 0)) _ ht 0 ⟨by omega, by omega⟩ (by omega)
set_option maxHeartbeats 4000000 in
set_option maxRecDepth 100000 in
theorem t_X12_missed {D : va_G} {cI cJ cZ cT : ClassId} {lo b L : Nat} {xs : Nat → Int32} {hp : MH} {n d : Nat} {Γ : TG} {y : Nat} {rf cnt nm : Int32} {x1 : Int} (hd0 : 1 ≤ d) (hO : rd Γ y (tO 11 (mdF y rf cnt nm))) (hA_beside : rd Γ (y + 24) (tI cI 16 (rg 0 65535))) (hA_least : Γ (y + 35) = some (tI cI 65536 anyI)) (ht : Tw Γ hp) (hx1 : 0 ≤ x1 ∧ x1 ≤ 16) : Mt (gG D cI cJ cZ cT lo b L xs) mX12_missed d 0 0 [.ref y, .int (iv x1)] hp n (pJ Γ n yes64) := by
  refine Mt.of rfl (Nat.le_of_ble_eq_true rfl) ?_
  refine Rn.pick (lv' := [(0, .ref y), (1, .int (iv x1))]) [0, 1] rfl ?_
  refine r_iconst (pc := 0) (v := iv 1) dX12_missed_0 (by decide) ?_
  refine r_iload_n (pc := 1) dX12_missed_1 (i := 1) rfl rfl ?_
  obtain ⟨z1, hz1, bz1⟩ := shl_1 0 16 x1 (by omega) (by omega) (by decide)
  refine r_ishl (pc := 2) (v := iv z1) dX12_missed_2 hz1 ?_
  refine r_iconst (pc := 3) (v := iv 1) dX12_missed_3 (by decide) ?_
  refine r_isub (pc := 4) (v := iv (z1 - 1)) dX12_missed_4 (iv_sub _ _) ?_
  refine r_istore_n (pc := 5) (lv' := [(2, .int (iv (z1 - 1))), (0, .ref y), (1, .int (iv x1))]) dX12_missed_5 (i := 2) rfl (by decide) rfl ?_
  refine r_aload_n (pc := 6) dX12_missed_6 (i := 0) rfl rfl ?_
  refine r_iload_n (pc := 7) dX12_missed_7 (i := 2) rfl rfl ?_
  refine r_iload_n (pc := 8) dX12_missed_8 (i := 1) rfl rfl ?_
  refine t_callVJ (pc := 9) (as := [.int (iv (z1 - 1)), .int (iv x1)]) (st := []) ht hO kX12_331 rfl dX12_missed_9 (t_X12_pairs (d := d - 1) (x1 := z1 - 1) (x2 := x1) (by omega) hO hA_beside hA_least ht (by omega) (by omega)) rfl (by omega) (Nat.le_of_ble_eq_true rfl) rfl (fun hp2 y4 ht3 _ => ?_)
  refine r_lstore_n (pc := 12) (lv' := [(3, .long y4), (2, .int (iv (z1 - 1))), (0, .ref y), (1, .int (iv x1))]) dX12_missed_12 (i := 3) rfl (by decide) rfl ?_
  refine r_iconst (pc := 13) (v := iv 0) dX12_missed_13 (by decide) ?_
  refine r_istore (pc := 14) (lv' := [(5, .int (iv 0)), (3, .long y4), (2, .int (iv (z1 - 1))), (0, .ref y), (1, .int (iv x1))]) dX12_missed_14 (by decide) rfl ?_
  refine r_iconst (pc := 16) (v := iv 0) dX12_missed_16 (by decide) ?_
  refine r_istore (pc := 17) (lv' := [(6, .int (iv 0)), (5, .int (iv 0)), (3, .long y4), (2, .int (iv (z1 - 1))), (0, .ref y), (1, .int (iv x1))]) dX12_missed_17 (by decide) rfl ?_
  have B19 : ∀ k : Nat, ∀ hp19 : MH, Tw Γ hp19 → ∀  (v19_5 : Int) (v19_6 : Int), 0 ≤ v19_5 ∧ v19_5 ≤ 65535 ∧ 0 ≤ v19_6 ∧ v19_6 ≤ 16 → 16 - v19_6 ≤ (k : Int) → Rn (gG D cI cJ cZ cT lo b L xs) mX12_missed d 19 [(0, .ref y), (1, .int (iv x1)), (2, .int (iv (z1 - 1))), (3, .long y4), (5, .int (iv v19_5)), (6, .int (iv v19_6))] [] hp19 n 0 0 (pJ Γ n yes64) := by
    refine lpS _ ?_
    intro k19 ih19 hp19 ht19 v19_5 v19_6 hf19 hm19
    refine r_iload (pc := 19) dX12_missed_19 rfl ?_
    refine r_iload_n (pc := 21) dX12_missed_21 (i := 1) rfl rfl ?_
    refine t_icmp_ge (pc := 22) (tgt := 63) dX12_missed_22 (by decide) (by omega) (by omega) (fun c22 => ?_) (fun c22 => ?_)
    · refine r_iload (pc := 63) dX12_missed_63 rfl ?_
      refine r_i2l (pc := 65) (v := (iv v19_5).toInt64) dX12_missed_65 rfl ?_
      exact r_lret (pc := 66) dX12_missed_66 rfl ⟨rfl, ht19, _, rfl, trivial⟩
    · refine r_iload (pc := 25) dX12_missed_25 rfl ?_
      refine r_aload_n (pc := 27) dX12_missed_27 (i := 0) rfl rfl ?_
      refine t_getE (pc := 28) (.ref (y + 35)) ht19 hO fX12_115 dX12_missed_28 rfl ?_
      refine r_iload_n (pc := 31) dX12_missed_31 (i := 2) rfl rfl ?_
      refine r_iconst (pc := 32) (v := iv 1) dX12_missed_32 (by decide) ?_
      refine r_iload (pc := 33) dX12_missed_33 rfl ?_
      obtain ⟨z5, hz5, bz5⟩ := shl_1 0 15 v19_6 (by omega) (by omega) (by decide)
      refine r_ishl (pc := 35) (v := iv z5) dX12_missed_35 hz5 ?_
      refine r_iconst (pc := 36) (v := iv (-1)) dX12_missed_36 (by decide) ?_
      refine r_ixor (pc := 37) (v := iv (-z5 - 1)) dX12_missed_37 (iv_not _) ?_
      obtain ⟨z6, hz6, bz6⟩ := and_l (z1 - 1) (-z5 - 1) (by omega) (by omega)
      refine r_iand (pc := 38) (v := iv z6) dX12_missed_38 hz6 ?_
      refine t_iald (pc := 39) (t0 := 0) ht19 (rd_of hA_least) dX12_missed_39 rfl (by decide) (by omega) (fun y7 by7 _ => ?_)
      refine r_i2l (pc := 40) (v := (iv y7).toInt64) dX12_missed_40 rfl ?_
      refine r_lload_n (pc := 41) dX12_missed_41 (i := 3) rfl rfl ?_
      refine r_lcmp (pc := 42) dX12_missed_42 ?_
      have B54 : ∀ hp54 : MH, Tw Γ hp54 → ∀  (u54_1 : Int), 0 ≤ u54_1 ∧ u54_1 ≤ 32768 → Rn (gG D cI cJ cZ cT lo b L xs) mX12_missed d 54 [(0, .ref y), (1, .int (iv x1)), (2, .int (iv (z1 - 1))), (3, .long y4), (6, .int (iv v19_6))] [.int (iv u54_1), .int (iv v19_5)] hp54 n 0 0 (pJ Γ n yes64) := by
        intro hp54 ht54 u54_1 hf54
        obtain ⟨z8, hz8, bz8⟩ := or_2 16 v19_5 u54_1 (by omega) (by omega) (by decide)
        refine r_ior (pc := 54) (v := iv z8) dX12_missed_54 hz8 ?_
        refine r_istore (pc := 55) (lv' := [(5, .int (iv z8)), (0, .ref y), (1, .int (iv x1)), (2, .int (iv (z1 - 1))), (3, .long y4), (6, .int (iv v19_6))]) dX12_missed_55 (by decide) rfl ?_
        refine r_iinc (pc := 57) (v := iv (v19_6 + 1)) (lv' := [(6, .int (iv (v19_6 + 1))), (5, .int (iv z8)), (0, .ref y), (1, .int (iv x1)), (2, .int (iv (z1 - 1))), (3, .long y4)]) dX12_missed_57 rfl (iv_add _ _) (by decide) rfl ?_
        refine r_goto (pc := 60) (tgt := 19) dX12_missed_60 (by decide) ?_
        refine Rn.pick (lv' := [(0, .ref y), (1, .int (iv x1)), (2, .int (iv (z1 - 1))), (3, .long y4), (5, .int (iv z8)), (6, .int (iv (v19_6 + 1)))]) [2, 3, 4, 5, 1, 0] rfl ?_
        exact ih19 (Int.toNat (16 - (v19_6 + 1))) (by omega) _ ht54 z8 (v19_6 + 1) ⟨by omega, by omega, by omega, by omega⟩ (by omega)
      refine r_if_ne (pc := 43) (tgt := 53) dX12_missed_43 (by decide) (fun c43 => ?_) (fun c43 => ?_)
      · refine r_iconst (pc := 53) (v := iv 0) dX12_missed_53 (by decide) ?_
        refine Rn.pick (lv' := [(0, .ref y), (1, .int (iv x1)), (2, .int (iv (z1 - 1))), (3, .long y4), (6, .int (iv v19_6))]) [0, 1, 2, 3, 5] rfl ?_
        exact B54 _ ht19 0 ⟨by omega, by omega⟩
      · refine r_iconst (pc := 46) (v := iv 1) dX12_missed_46 (by decide) ?_
        refine r_iload (pc := 47) dX12_missed_47 rfl ?_
        obtain ⟨z9, hz9, bz9⟩ := shl_1 0 15 v19_6 (by omega) (by omega) (by decide)
        refine r_ishl (pc := 49) (v := iv z9) dX12_missed_49 hz9 ?_
        refine r_goto (pc := 50) (tgt := 54) dX12_missed_50 (by decide) ?_
        refine Rn.pick (lv' := [(0, .ref y), (1, .int (iv x1)), (2, .int (iv (z1 - 1))), (3, .long y4), (6, .int (iv v19_6))]) [0, 1, 2, 3, 5] rfl ?_
        exact B54 _ ht19 z9 ⟨by omega, by omega⟩
  refine Rn.pick (lv' := [(0, .ref y), (1, .int (iv x1)), (2, .int (iv (z1 - 1))), (3, .long y4), (5, .int (iv 0)), (6, .int (iv 0))]) [4, 5, 3, 2, 1, 0] rfl ?_
  exact B19 (Int.toNat (16 - 0)) _ ht3 0 0 ⟨by omega, by omega, by omega, by omega⟩ (by omega)
set_option maxHeartbeats 4000000 in
set_option maxRecDepth 100000 in
theorem t_X12_light {D : va_G} {cI cJ cZ cT : ClassId} {lo b L : Nat} {xs : Nat → Int32} {hp : MH} {n d : Nat} {Γ : TG} {y : Nat} {rf cnt nm : Int32} {x1 x2 : Int} (hd0 : 1 ≤ d) (hO : rd Γ y (tO 11 (mdF y rf cnt nm))) (hA_sizes : rd Γ (y + 2) (tI cI 121 (rg 0 16))) (hA_many : rd Γ (y + 4) (tI cI 121 (rg 0 60))) (hA_from : rd Γ (y + 5) (tI cI 7260 (rg 0 15))) (hA_to : rd Γ (y + 6) (tI cI 7260 (rg 0 15))) (hA_weight : rd Γ (y + 7) (tI cI 7260 (rg (-1000) 1000))) (hA_joinedWith : Γ (y + 37) = some (tI cI 16 (rg 0 15))) (ht : Tw Γ hp) (hx1 : 0 ≤ x1 ∧ x1 ≤ 120) (hx2 : (-1) ≤ x2 ∧ x2 ≤ 59) : Mt (gG D cI cJ cZ cT lo b L xs) mX12_light d 0 0 [.ref y, .int (iv x1), .int (iv x2)] hp n (pJ Γ n yes64) := by
  refine Mt.of rfl (Nat.le_of_ble_eq_true rfl) ?_
  refine Rn.pick (lv' := [(0, .ref y), (1, .int (iv x1)), (2, .int (iv x2))]) [0, 1, 2] rfl ?_
  refine r_aload_n (pc := 0) dX12_light_0 (i := 0) rfl rfl ?_
  refine t_getE (pc := 1) (.ref (y + 2)) ht hO fX12_13 dX12_light_1 rfl ?_
  refine r_iload_n (pc := 4) dX12_light_4 (i := 1) rfl rfl ?_
  refine t_ialdR (pc := 5) (t0 := 0) ht hA_sizes dX12_light_5 rfl (by decide) (by omega) (fun y1 by1 => ?_)
  refine r_istore_n (pc := 6) (lv' := [(3, .int (iv y1)), (0, .ref y), (1, .int (iv x1)), (2, .int (iv x2))]) dX12_light_6 (i := 3) rfl (by decide) rfl ?_
  refine r_iconst (pc := 7) (v := iv 0) dX12_light_7 (by decide) ?_
  refine r_istore (pc := 8) (lv' := [(4, .int (iv 0)), (3, .int (iv y1)), (0, .ref y), (1, .int (iv x1)), (2, .int (iv x2))]) dX12_light_8 (by decide) rfl ?_
  have B10 : ∀ k : Nat, ∀ hp10 : MH, Tw Γ hp10 → ∀  (v10_4 : Int), 0 ≤ v10_4 ∧ v10_4 ≤ 16 → 16 - v10_4 ≤ (k : Int) → Rn (gG D cI cJ cZ cT lo b L xs) mX12_light d 10 [(0, .ref y), (1, .int (iv x1)), (2, .int (iv x2)), (3, .int (iv y1)), (4, .int (iv v10_4))] [] hp10 n 0 0 (pJ Γ n yes64) := by
    refine lpS _ ?_
    intro k10 ih10 hp10 ht10 v10_4 hf10 hm10
    refine r_iload (pc := 10) dX12_light_10 rfl ?_
    refine r_iload_n (pc := 12) dX12_light_12 (i := 3) rfl rfl ?_
    refine t_icmp_ge (pc := 13) (tgt := 31) dX12_light_13 (by decide) (by omega) (by omega) (fun c13 => ?_) (fun c13 => ?_)
    · refine r_lconst (pc := 31) (v := 0) dX12_light_31 (by decide) ?_
      refine r_lstore (pc := 32) (lv' := [(4, .long (0 : Int64)), (0, .ref y), (1, .int (iv x1)), (2, .int (iv x2)), (3, .int (iv y1))]) dX12_light_32 (by decide) rfl ?_
      refine r_iconst (pc := 34) (v := iv 0) dX12_light_34 (by decide) ?_
      refine r_istore (pc := 35) (lv' := [(6, .int (iv 0)), (4, .long (0 : Int64)), (0, .ref y), (1, .int (iv x1)), (2, .int (iv x2)), (3, .int (iv y1))]) dX12_light_35 (by decide) rfl ?_
      refine r_sipush (pc := 37) (v := iv (-1000)) dX12_light_37 (by decide) ?_
      refine r_istore (pc := 40) (lv' := [(7, .int (iv (-1000))), (6, .int (iv 0)), (4, .long (0 : Int64)), (0, .ref y), (1, .int (iv x1)), (2, .int (iv x2)), (3, .int (iv y1))]) dX12_light_40 (by decide) rfl ?_
      have B42 : ∀ k : Nat, ∀ hp42 : MH, Tw Γ hp42 → ∀  (v42_6 : Int) (v42_7 : Int) (w42_4 : Int64), 0 ≤ v42_6 ∧ v42_6 ≤ 1 ∧ (-1000) ≤ v42_7 ∧ v42_7 ≤ 1001 → 1001 - v42_7 ≤ (k : Int) → Rn (gG D cI cJ cZ cT lo b L xs) mX12_light d 42 [(0, .ref y), (1, .int (iv x1)), (2, .int (iv x2)), (3, .int (iv y1)), (4, .long w42_4), (6, .int (iv v42_6)), (7, .int (iv v42_7))] [] hp42 n 0 0 (pJ Γ n yes64) := by
        refine lpS _ ?_
        intro k42 ih42 hp42 ht42 v42_6 v42_7 w42_4 hf42 hm42
        refine r_iload (pc := 42) dX12_light_42 rfl ?_
        refine r_sipush (pc := 44) (v := iv 1000) dX12_light_44 (by decide) ?_
        refine t_icmp_gt (pc := 47) (tgt := 203) dX12_light_47 (by decide) (by omega) (by omega) (fun c47 => ?_) (fun c47 => ?_)
        · refine r_iload_n (pc := 203) dX12_light_203 (i := 2) rfl rfl ?_
          have B222 : ∀ hp222 : MH, Tw Γ hp222 → ∀  (x222_0 : Int64), True → Rn (gG D cI cJ cZ cT lo b L xs) mX12_light d 222 [] [.long x222_0] hp222 n 0 0 (pJ Γ n yes64) := by
            intro hp222 ht222 x222_0 hf222
            exact r_lret (pc := 222) dX12_light_222 rfl ⟨rfl, ht222, _, rfl, trivial⟩
          refine t_if_ge (pc := 204) (tgt := 212) dX12_light_204 (by decide) (by omega) (fun c204 => ?_) (fun c204 => ?_)
          · refine r_iload (pc := 212) dX12_light_212 rfl ?_
            refine t_if_eq (pc := 214) (tgt := 221) dX12_light_214 (by decide) (by omega) (fun c214 => ?_) (fun c214 => ?_)
            · refine r_lconst (pc := 221) (v := 0) dX12_light_221 (by decide) ?_
              refine Rn.pick (lv' := []) [] rfl ?_
              exact B222 _ ht42 (0 : Int64) trivial
            · refine r_lconst (pc := 217) (v := 1) dX12_light_217 (by decide) ?_
              refine r_goto (pc := 218) (tgt := 222) dX12_light_218 (by decide) ?_
              refine Rn.pick (lv' := []) [] rfl ?_
              exact B222 _ ht42 (1 : Int64) trivial
          · refine r_lload (pc := 207) dX12_light_207 rfl ?_
            refine r_goto (pc := 209) (tgt := 222) dX12_light_209 (by decide) ?_
            refine Rn.pick (lv' := []) [] rfl ?_
            exact B222 _ ht42 w42_4 trivial
        · refine r_iconst (pc := 50) (v := iv 0) dX12_light_50 (by decide) ?_
          refine r_istore (pc := 51) (lv' := [(8, .int (iv 0)), (0, .ref y), (1, .int (iv x1)), (2, .int (iv x2)), (3, .int (iv y1)), (4, .long w42_4), (6, .int (iv v42_6)), (7, .int (iv v42_7))]) dX12_light_51 (by decide) rfl ?_
          have B53 : ∀ k : Nat, ∀ hp53 : MH, Tw Γ hp53 → ∀  (v53_6 : Int) (v53_8 : Int) (w53_4 : Int64), 0 ≤ v53_6 ∧ v53_6 ≤ 1 ∧ 0 ≤ v53_8 ∧ v53_8 ≤ 60 → 60 - v53_8 ≤ (k : Int) → Rn (gG D cI cJ cZ cT lo b L xs) mX12_light d 53 [(0, .ref y), (1, .int (iv x1)), (2, .int (iv x2)), (3, .int (iv y1)), (4, .long w53_4), (6, .int (iv v53_6)), (7, .int (iv v42_7)), (8, .int (iv v53_8))] [] hp53 n 0 0 (pJ Γ n yes64) := by
            refine lpS _ ?_
            intro k53 ih53 hp53 ht53 v53_6 v53_8 w53_4 hf53 hm53
            refine r_iload (pc := 53) dX12_light_53 rfl ?_
            refine r_aload_n (pc := 55) dX12_light_55 (i := 0) rfl rfl ?_
            refine t_getE (pc := 56) (.ref (y + 4)) ht53 hO fX12_20 dX12_light_56 rfl ?_
            refine r_iload_n (pc := 59) dX12_light_59 (i := 1) rfl rfl ?_
            refine t_ialdR (pc := 60) (t0 := 0) ht53 hA_many dX12_light_60 rfl (by decide) (by omega) (fun y2 by2 => ?_)
            refine t_icmp_ge (pc := 61) (tgt := 197) dX12_light_61 (by decide) (by omega) (by omega) (fun c61 => ?_) (fun c61 => ?_)
            · refine r_iinc (pc := 197) (v := iv (v42_7 + 1)) (lv' := [(7, .int (iv (v42_7 + 1))), (0, .ref y), (1, .int (iv x1)), (2, .int (iv x2)), (3, .int (iv y1)), (4, .long w53_4), (6, .int (iv v53_6)), (8, .int (iv v53_8))]) dX12_light_197 rfl (iv_add _ _) (by decide) rfl ?_
              refine r_goto (pc := 200) (tgt := 42) dX12_light_200 (by decide) ?_
              refine Rn.pick (lv' := [(0, .ref y), (1, .int (iv x1)), (2, .int (iv x2)), (3, .int (iv y1)), (4, .long w53_4), (6, .int (iv v53_6)), (7, .int (iv (v42_7 + 1)))]) [1, 2, 3, 4, 5, 6, 0] rfl ?_
              exact ih42 (Int.toNat (1001 - (v42_7 + 1))) (by omega) _ ht53 v53_6 (v42_7 + 1) w53_4 ⟨by omega, by omega, by omega, by omega⟩ (by omega)
            · refine r_iload_n (pc := 64) dX12_light_64 (i := 1) rfl rfl ?_
              refine r_iload (pc := 65) dX12_light_65 rfl ?_
              refine t_callSR (pc := 67) (as := [.int (iv x1), .int (iv v53_8)]) (st := []) kX12_157 dX12_light_67 (t_X12_at1 (d := d - 1) (x1 := x1) (x2 := v53_8) (by omega)  ht53 (by omega) (by omega)) rfl (by omega) (Nat.le_of_ble_eq_true rfl) rfl (fun hp3 y5 ht4 by5 => ?_)
              refine r_istore (pc := 70) (lv' := [(9, .int (iv y5)), (0, .ref y), (1, .int (iv x1)), (2, .int (iv x2)), (3, .int (iv y1)), (4, .long w53_4), (6, .int (iv v53_6)), (7, .int (iv v42_7)), (8, .int (iv v53_8))]) dX12_light_70 (by decide) rfl ?_
              refine r_aload_n (pc := 72) dX12_light_72 (i := 0) rfl rfl ?_
              refine t_getE (pc := 73) (.ref (y + 37)) ht4 hO fX12_121 dX12_light_73 rfl ?_
              refine r_aload_n (pc := 76) dX12_light_76 (i := 0) rfl rfl ?_
              refine t_getE (pc := 77) (.ref (y + 5)) ht4 hO fX12_23 dX12_light_77 rfl ?_
              refine r_iload (pc := 80) dX12_light_80 rfl ?_
              refine t_ialdR (pc := 82) (t0 := 0) ht4 hA_from dX12_light_82 rfl (by decide) (by omega) (fun y6 by6 => ?_)
              refine t_ialdR (pc := 83) (t0 := 0) ht4 (rd_of hA_joinedWith) dX12_light_83 rfl (by decide) (by omega) (fun y7 by7 => ?_)
              refine r_istore (pc := 84) (lv' := [(10, .int (iv y7)), (9, .int (iv y5)), (0, .ref y), (1, .int (iv x1)), (2, .int (iv x2)), (3, .int (iv y1)), (4, .long w53_4), (6, .int (iv v53_6)), (7, .int (iv v42_7)), (8, .int (iv v53_8))]) dX12_light_84 (by decide) rfl ?_
              refine r_aload_n (pc := 86) dX12_light_86 (i := 0) rfl rfl ?_
              refine t_getE (pc := 87) (.ref (y + 37)) ht4 hO fX12_121 dX12_light_87 rfl ?_
              refine r_aload_n (pc := 90) dX12_light_90 (i := 0) rfl rfl ?_
              refine t_getE (pc := 91) (.ref (y + 6)) ht4 hO fX12_26 dX12_light_91 rfl ?_
              refine r_iload (pc := 94) dX12_light_94 rfl ?_
              refine t_ialdR (pc := 96) (t0 := 0) ht4 hA_to dX12_light_96 rfl (by decide) (by omega) (fun y8 by8 => ?_)
              refine t_ialdR (pc := 97) (t0 := 0) ht4 (rd_of hA_joinedWith) dX12_light_97 rfl (by decide) (by omega) (fun y9 by9 => ?_)
              refine r_istore (pc := 98) (lv' := [(11, .int (iv y9)), (10, .int (iv y7)), (9, .int (iv y5)), (0, .ref y), (1, .int (iv x1)), (2, .int (iv x2)), (3, .int (iv y1)), (4, .long w53_4), (6, .int (iv v53_6)), (7, .int (iv v42_7)), (8, .int (iv v53_8))]) dX12_light_98 (by decide) rfl ?_
              refine r_aload_n (pc := 100) dX12_light_100 (i := 0) rfl rfl ?_
              refine t_getE (pc := 101) (.ref (y + 7)) ht4 hO fX12_29 dX12_light_101 rfl ?_
              refine r_iload (pc := 104) dX12_light_104 rfl ?_
              refine t_ialdR (pc := 106) (t0 := 0) ht4 hA_weight dX12_light_106 rfl (by decide) (by omega) (fun y10 by10 => ?_)
              refine r_iload (pc := 107) dX12_light_107 rfl ?_
              have B191 : ∀ hp191 : MH, Tw Γ hp191 → ∀  (v191_6 : Int) (w191_4 : Int64), 0 ≤ v191_6 ∧ v191_6 ≤ 1 → Rn (gG D cI cJ cZ cT lo b L xs) mX12_light d 191 [(0, .ref y), (1, .int (iv x1)), (2, .int (iv x2)), (3, .int (iv y1)), (4, .long w191_4), (6, .int (iv v191_6)), (7, .int (iv v42_7)), (8, .int (iv v53_8))] [] hp191 n 0 0 (pJ Γ n yes64) := by
                intro hp191 ht191 v191_6 w191_4 hf191
                refine r_iinc (pc := 191) (v := iv (v53_8 + 1)) (lv' := [(8, .int (iv (v53_8 + 1))), (0, .ref y), (1, .int (iv x1)), (2, .int (iv x2)), (3, .int (iv y1)), (4, .long w191_4), (6, .int (iv v191_6)), (7, .int (iv v42_7))]) dX12_light_191 rfl (iv_add _ _) (by decide) rfl ?_
                refine r_goto (pc := 194) (tgt := 53) dX12_light_194 (by decide) ?_
                refine Rn.pick (lv' := [(0, .ref y), (1, .int (iv x1)), (2, .int (iv x2)), (3, .int (iv y1)), (4, .long w191_4), (6, .int (iv v191_6)), (7, .int (iv v42_7)), (8, .int (iv (v53_8 + 1)))]) [1, 2, 3, 4, 5, 6, 7, 0] rfl ?_
                exact ih53 (Int.toNat (60 - (v53_8 + 1))) (by omega) _ ht191 v191_6 (v53_8 + 1) w191_4 ⟨by omega, by omega, by omega, by omega⟩ (by omega)
              refine t_icmp_ne (pc := 109) (tgt := 191) dX12_light_109 (by decide) (by omega) (by omega) (fun c109 => ?_) (fun c109 => ?_)
              · refine Rn.pick (lv' := [(0, .ref y), (1, .int (iv x1)), (2, .int (iv x2)), (3, .int (iv y1)), (4, .long w53_4), (6, .int (iv v53_6)), (7, .int (iv v42_7)), (8, .int (iv v53_8))]) [3, 4, 5, 6, 7, 8, 9, 10] rfl ?_
                exact B191 _ ht4 v53_6 w53_4 ⟨by omega, by omega⟩
              · refine r_iload (pc := 112) dX12_light_112 rfl ?_
                refine r_iload (pc := 114) dX12_light_114 rfl ?_
                refine t_icmp_eq (pc := 116) (tgt := 191) dX12_light_116 (by decide) (by omega) (by omega) (fun c116 => ?_) (fun c116 => ?_)
                · refine Rn.pick (lv' := [(0, .ref y), (1, .int (iv x1)), (2, .int (iv x2)), (3, .int (iv y1)), (4, .long w53_4), (6, .int (iv v53_6)), (7, .int (iv v42_7)), (8, .int (iv v53_8))]) [3, 4, 5, 6, 7, 8, 9, 10] rfl ?_
                  exact B191 _ ht4 v53_6 w53_4 ⟨by omega, by omega⟩
                · refine r_lload (pc := 119) dX12_light_119 rfl ?_
                  refine r_iload (pc := 121) dX12_light_121 rfl ?_
                  refine r_i2l (pc := 123) (v := (iv v42_7).toInt64) dX12_light_123 rfl ?_
                  refine r_ladd (pc := 124) (v := w53_4 + ((iv v42_7).toInt64)) dX12_light_124 rfl ?_
                  refine r_lstore (pc := 125) (lv' := [(4, .long (w53_4 + ((iv v42_7).toInt64))), (11, .int (iv y9)), (10, .int (iv y7)), (9, .int (iv y5)), (0, .ref y), (1, .int (iv x1)), (2, .int (iv x2)), (3, .int (iv y1)), (6, .int (iv v53_6)), (7, .int (iv v42_7)), (8, .int (iv v53_8))]) dX12_light_125 (by decide) rfl ?_
                  refine r_iload (pc := 127) dX12_light_127 rfl ?_
                  have B143 : ∀ hp143 : MH, Tw Γ hp143 → ∀  (u143_0 : Int), 0 ≤ u143_0 ∧ u143_0 ≤ 1 → Rn (gG D cI cJ cZ cT lo b L xs) mX12_light d 143 [(0, .ref y), (1, .int (iv x1)), (2, .int (iv x2)), (3, .int (iv y1)), (4, .long (w53_4 + ((iv v42_7).toInt64))), (7, .int (iv v42_7)), (8, .int (iv v53_8)), (10, .int (iv y7)), (11, .int (iv y9))] [.int (iv u143_0)] hp143 n 0 0 (pJ Γ n yes64) := by
                    intro hp143 ht143 u143_0 hf143
                    refine r_istore (pc := 143) (lv' := [(6, .int (iv u143_0)), (0, .ref y), (1, .int (iv x1)), (2, .int (iv x2)), (3, .int (iv y1)), (4, .long (w53_4 + ((iv v42_7).toInt64))), (7, .int (iv v42_7)), (8, .int (iv v53_8)), (10, .int (iv y7)), (11, .int (iv y9))]) dX12_light_143 (by decide) rfl ?_
                    refine r_iconst (pc := 145) (v := iv 0) dX12_light_145 (by decide) ?_
                    refine r_istore (pc := 146) (lv' := [(12, .int (iv 0)), (6, .int (iv u143_0)), (0, .ref y), (1, .int (iv x1)), (2, .int (iv x2)), (3, .int (iv y1)), (4, .long (w53_4 + ((iv v42_7).toInt64))), (7, .int (iv v42_7)), (8, .int (iv v53_8)), (10, .int (iv y7)), (11, .int (iv y9))]) dX12_light_146 (by decide) rfl ?_
                    have B148 : ∀ k : Nat, ∀ hp148 : MH, Tw Γ hp148 → ∀  (v148_12 : Int), 0 ≤ v148_12 ∧ v148_12 ≤ 16 → 16 - v148_12 ≤ (k : Int) → Rn (gG D cI cJ cZ cT lo b L xs) mX12_light d 148 [(0, .ref y), (1, .int (iv x1)), (2, .int (iv x2)), (3, .int (iv y1)), (4, .long (w53_4 + ((iv v42_7).toInt64))), (6, .int (iv u143_0)), (7, .int (iv v42_7)), (8, .int (iv v53_8)), (10, .int (iv y7)), (11, .int (iv y9)), (12, .int (iv v148_12))] [] hp148 n 0 0 (pJ Γ n yes64) := by
                      refine lpS _ ?_
                      intro k148 ih148 hp148 ht148 v148_12 hf148 hm148
                      refine r_iload (pc := 148) dX12_light_148 rfl ?_
                      refine r_iload_n (pc := 150) dX12_light_150 (i := 3) rfl rfl ?_
                      refine t_icmp_ge (pc := 151) (tgt := 191) dX12_light_151 (by decide) (by omega) (by omega) (fun c151 => ?_) (fun c151 => ?_)
                      · refine Rn.pick (lv' := [(0, .ref y), (1, .int (iv x1)), (2, .int (iv x2)), (3, .int (iv y1)), (4, .long (w53_4 + ((iv v42_7).toInt64))), (6, .int (iv u143_0)), (7, .int (iv v42_7)), (8, .int (iv v53_8))]) [0, 1, 2, 3, 4, 5, 6, 7] rfl ?_
                        exact B191 _ ht148 u143_0 (w53_4 + ((iv v42_7).toInt64)) ⟨by omega, by omega⟩
                      · refine r_aload_n (pc := 154) dX12_light_154 (i := 0) rfl rfl ?_
                        refine t_getE (pc := 155) (.ref (y + 37)) ht148 hO fX12_121 dX12_light_155 rfl ?_
                        refine r_iload (pc := 158) dX12_light_158 rfl ?_
                        refine r_aload_n (pc := 160) dX12_light_160 (i := 0) rfl rfl ?_
                        refine t_getE (pc := 161) (.ref (y + 37)) ht148 hO fX12_121 dX12_light_161 rfl ?_
                        refine r_iload (pc := 164) dX12_light_164 rfl ?_
                        refine t_ialdR (pc := 166) (t0 := 0) ht148 (rd_of hA_joinedWith) dX12_light_166 rfl (by decide) (by omega) (fun y11 by11 => ?_)
                        refine r_iload (pc := 167) dX12_light_167 rfl ?_
                        have B184 : ∀ hp184 : MH, Tw Γ hp184 → ∀  (u184_2 : Int), 0 ≤ u184_2 ∧ u184_2 ≤ 15 → Rn (gG D cI cJ cZ cT lo b L xs) mX12_light d 184 [(0, .ref y), (1, .int (iv x1)), (2, .int (iv x2)), (3, .int (iv y1)), (4, .long (w53_4 + ((iv v42_7).toInt64))), (6, .int (iv u143_0)), (7, .int (iv v42_7)), (8, .int (iv v53_8)), (10, .int (iv y7)), (11, .int (iv y9)), (12, .int (iv v148_12))] [.int (iv u184_2), .int (iv v148_12), .ref (y + 37)] hp184 n 0 0 (pJ Γ n yes64) := by
                          intro hp184 ht184 u184_2 hf184
                          refine t_iastR (pc := 184) (t0 := 0) ht184 hA_joinedWith dX12_light_184 rfl (by decide) (by decide) (by omega) (by omega) (fun hp12 ht13 => ?_)
                          refine r_iinc (pc := 185) (v := iv (v148_12 + 1)) (lv' := [(12, .int (iv (v148_12 + 1))), (0, .ref y), (1, .int (iv x1)), (2, .int (iv x2)), (3, .int (iv y1)), (4, .long (w53_4 + ((iv v42_7).toInt64))), (6, .int (iv u143_0)), (7, .int (iv v42_7)), (8, .int (iv v53_8)), (10, .int (iv y7)), (11, .int (iv y9))]) dX12_light_185 rfl (iv_add _ _) (by decide) rfl ?_
                          refine r_goto (pc := 188) (tgt := 148) dX12_light_188 (by decide) ?_
                          refine Rn.pick (lv' := [(0, .ref y), (1, .int (iv x1)), (2, .int (iv x2)), (3, .int (iv y1)), (4, .long (w53_4 + ((iv v42_7).toInt64))), (6, .int (iv u143_0)), (7, .int (iv v42_7)), (8, .int (iv v53_8)), (10, .int (iv y7)), (11, .int (iv y9)), (12, .int (iv (v148_12 + 1)))]) [1, 2, 3, 4, 5, 6, 7, 8, 9, 10, 0] rfl ?_
                          exact ih148 (Int.toNat (16 - (v148_12 + 1))) (by omega) _ ht13 (v148_12 + 1) ⟨by omega, by omega⟩ (by omega)
                        refine t_icmp_ne (pc := 169) (tgt := 177) dX12_light_169 (by decide) (by omega) (by omega) (fun c169 => ?_) (fun c169 => ?_)
                        · refine r_aload_n (pc := 177) dX12_light_177 (i := 0) rfl rfl ?_
                          refine t_getE (pc := 178) (.ref (y + 37)) ht148 hO fX12_121 dX12_light_178 rfl ?_
                          refine r_iload (pc := 181) dX12_light_181 rfl ?_
                          refine t_ialdR (pc := 183) (t0 := 0) ht148 (rd_of hA_joinedWith) dX12_light_183 rfl (by decide) (by omega) (fun y14 by14 => ?_)
                          refine Rn.pick (lv' := [(0, .ref y), (1, .int (iv x1)), (2, .int (iv x2)), (3, .int (iv y1)), (4, .long (w53_4 + ((iv v42_7).toInt64))), (6, .int (iv u143_0)), (7, .int (iv v42_7)), (8, .int (iv v53_8)), (10, .int (iv y7)), (11, .int (iv y9)), (12, .int (iv v148_12))]) [0, 1, 2, 3, 4, 5, 6, 7, 8, 9, 10] rfl ?_
                          exact B184 _ ht148 y14 ⟨by omega, by omega⟩
                        · refine r_iload (pc := 172) dX12_light_172 rfl ?_
                          refine r_goto (pc := 174) (tgt := 184) dX12_light_174 (by decide) ?_
                          refine Rn.pick (lv' := [(0, .ref y), (1, .int (iv x1)), (2, .int (iv x2)), (3, .int (iv y1)), (4, .long (w53_4 + ((iv v42_7).toInt64))), (6, .int (iv u143_0)), (7, .int (iv v42_7)), (8, .int (iv v53_8)), (10, .int (iv y7)), (11, .int (iv y9)), (12, .int (iv v148_12))]) [0, 1, 2, 3, 4, 5, 6, 7, 8, 9, 10] rfl ?_
                          exact B184 _ ht148 y7 ⟨by omega, by omega⟩
                    refine Rn.pick (lv' := [(0, .ref y), (1, .int (iv x1)), (2, .int (iv x2)), (3, .int (iv y1)), (4, .long (w53_4 + ((iv v42_7).toInt64))), (6, .int (iv u143_0)), (7, .int (iv v42_7)), (8, .int (iv v53_8)), (10, .int (iv y7)), (11, .int (iv y9)), (12, .int (iv 0))]) [2, 3, 4, 5, 6, 1, 7, 8, 9, 10, 0] rfl ?_
                    exact B148 (Int.toNat (16 - 0)) _ ht143 0 ⟨by omega, by omega⟩ (by omega)
                  have B138 : ∀ hp138 : MH, Tw Γ hp138 → True → Rn (gG D cI cJ cZ cT lo b L xs) mX12_light d 138 [(0, .ref y), (1, .int (iv x1)), (2, .int (iv x2)), (3, .int (iv y1)), (4, .long (w53_4 + ((iv v42_7).toInt64))), (7, .int (iv v42_7)), (8, .int (iv v53_8)), (10, .int (iv y7)), (11, .int (iv y9))] [] hp138 n 0 0 (pJ Γ n yes64) := by
                    intro hp138 ht138 hf138
                    refine r_iconst (pc := 138) (v := iv 1) dX12_light_138 (by decide) ?_
                    refine r_goto (pc := 139) (tgt := 143) dX12_light_139 (by decide) ?_
                    refine Rn.pick (lv' := [(0, .ref y), (1, .int (iv x1)), (2, .int (iv x2)), (3, .int (iv y1)), (4, .long (w53_4 + ((iv v42_7).toInt64))), (7, .int (iv v42_7)), (8, .int (iv v53_8)), (10, .int (iv y7)), (11, .int (iv y9))]) [0, 1, 2, 3, 4, 5, 6, 7, 8] rfl ?_
                    exact B143 _ ht138 1 ⟨by omega, by omega⟩
                  refine t_if_ne (pc := 129) (tgt := 138) dX12_light_129 (by decide) (by omega) (fun c129 => ?_) (fun c129 => ?_)
                  · refine Rn.pick (lv' := [(0, .ref y), (1, .int (iv x1)), (2, .int (iv x2)), (3, .int (iv y1)), (4, .long (w53_4 + ((iv v42_7).toInt64))), (7, .int (iv v42_7)), (8, .int (iv v53_8)), (10, .int (iv y7)), (11, .int (iv y9))]) [4, 5, 6, 7, 0, 9, 10, 2, 1] rfl ?_
                    exact B138 _ ht4 trivial
                  · refine r_iload (pc := 132) dX12_light_132 rfl ?_
                    refine r_iload_n (pc := 134) dX12_light_134 (i := 2) rfl rfl ?_
                    refine t_icmp_ne (pc := 135) (tgt := 142) dX12_light_135 (by decide) (by omega) (by omega) (fun c135 => ?_) (fun c135 => ?_)
                    · refine r_iconst (pc := 142) (v := iv 0) dX12_light_142 (by decide) ?_
                      refine Rn.pick (lv' := [(0, .ref y), (1, .int (iv x1)), (2, .int (iv x2)), (3, .int (iv y1)), (4, .long (w53_4 + ((iv v42_7).toInt64))), (7, .int (iv v42_7)), (8, .int (iv v53_8)), (10, .int (iv y7)), (11, .int (iv y9))]) [4, 5, 6, 7, 0, 9, 10, 2, 1] rfl ?_
                      exact B143 _ ht4 0 ⟨by omega, by omega⟩
                    · refine Rn.pick (lv' := [(0, .ref y), (1, .int (iv x1)), (2, .int (iv x2)), (3, .int (iv y1)), (4, .long (w53_4 + ((iv v42_7).toInt64))), (7, .int (iv v42_7)), (8, .int (iv v53_8)), (10, .int (iv y7)), (11, .int (iv y9))]) [4, 5, 6, 7, 0, 9, 10, 2, 1] rfl ?_
                      exact B138 _ ht4 trivial
          refine Rn.pick (lv' := [(0, .ref y), (1, .int (iv x1)), (2, .int (iv x2)), (3, .int (iv y1)), (4, .long w42_4), (6, .int (iv v42_6)), (7, .int (iv v42_7)), (8, .int (iv 0))]) [1, 2, 3, 4, 5, 6, 7, 0] rfl ?_
          exact B53 (Int.toNat (60 - 0)) _ ht42 v42_6 0 w42_4 ⟨by omega, by omega, by omega, by omega⟩ (by omega)
      refine Rn.pick (lv' := [(0, .ref y), (1, .int (iv x1)), (2, .int (iv x2)), (3, .int (iv y1)), (4, .long (0 : Int64)), (6, .int (iv 0)), (7, .int (iv (-1000)))]) [3, 4, 5, 6, 2, 1, 0] rfl ?_
      exact B42 (Int.toNat (1001 - (-1000))) _ ht10 0 (-1000) (0 : Int64) ⟨by omega, by omega, by omega, by omega⟩ (by omega)
    · refine r_aload_n (pc := 16) dX12_light_16 (i := 0) rfl rfl ?_
      refine t_getE (pc := 17) (.ref (y + 37)) ht10 hO fX12_121 dX12_light_17 rfl ?_
      refine r_iload (pc := 20) dX12_light_20 rfl ?_
      refine r_iload (pc := 22) dX12_light_22 rfl ?_
      refine t_iastR (pc := 24) (t0 := 0) ht10 hA_joinedWith dX12_light_24 rfl (by decide) (by decide) (by omega) (by omega) (fun hp15 ht16 => ?_)
      refine r_iinc (pc := 25) (v := iv (v10_4 + 1)) (lv' := [(4, .int (iv (v10_4 + 1))), (0, .ref y), (1, .int (iv x1)), (2, .int (iv x2)), (3, .int (iv y1))]) dX12_light_25 rfl (iv_add _ _) (by decide) rfl ?_
      refine r_goto (pc := 28) (tgt := 10) dX12_light_28 (by decide) ?_
      refine Rn.pick (lv' := [(0, .ref y), (1, .int (iv x1)), (2, .int (iv x2)), (3, .int (iv y1)), (4, .int (iv (v10_4 + 1)))]) [1, 2, 3, 4, 0] rfl ?_
      exact ih10 (Int.toNat (16 - (v10_4 + 1))) (by omega) _ ht16 (v10_4 + 1) ⟨by omega, by omega⟩ (by omega)
  refine Rn.pick (lv' := [(0, .ref y), (1, .int (iv x1)), (2, .int (iv x2)), (3, .int (iv y1)), (4, .int (iv 0))]) [2, 3, 4, 1, 0] rfl ?_
  exact B10 (Int.toNat (16 - 0)) _ ht 0 ⟨by omega, by omega⟩ (by omega)
set_option maxHeartbeats 4000000 in
set_option maxRecDepth 100000 in
theorem t_X12_out {D : va_G} {cI cJ cZ cT : ClassId} {lo b L : Nat} {xs : Nat → Int32} {hp : MH} {n d : Nat} {Γ : TG} {y : Nat} {rf cnt nm : Int32} {x1 x2 x3 : Int} (hd0 : 1 ≤ d) (hO : rd Γ y (tO 11 (mdF y rf cnt nm))) (hA_directs : rd Γ (y + 3) (tI cZ 121 (rg 0 1))) (hA_many : rd Γ (y + 4) (tI cI 121 (rg 0 60))) (hA_from : rd Γ (y + 5) (tI cI 7260 (rg 0 15))) (hA_to : rd Γ (y + 6) (tI cI 7260 (rg 0 15))) (hA_weight : rd Γ (y + 7) (tI cI 7260 (rg (-1000) 1000))) (ht : Tw Γ hp) (hx1 : 0 ≤ x1 ∧ x1 ≤ 120) (hx2 : 0 ≤ x2 ∧ x2 ≤ 65535) (hx3 : 0 ≤ x3 ∧ x3 ≤ 1) : Mt (gG D cI cJ cZ cT lo b L xs) mX12_out d 0 0 [.ref y, .int (iv x1), .int (iv x2), .int (iv x3)] hp n (pJ Γ n yes64) := by
  refine Mt.of rfl (Nat.le_of_ble_eq_true rfl) ?_
  refine Rn.pick (lv' := [(0, .ref y), (1, .int (iv x1)), (2, .int (iv x2)), (3, .int (iv x3))]) [0, 1, 2, 3] rfl ?_
  refine r_lconst (pc := 0) (v := 0) dX12_out_0 (by decide) ?_
  refine r_lstore (pc := 1) (lv' := [(4, .long (0 : Int64)), (0, .ref y), (1, .int (iv x1)), (2, .int (iv x2)), (3, .int (iv x3))]) dX12_out_1 (by decide) rfl ?_
  refine r_iconst (pc := 3) (v := iv 0) dX12_out_3 (by decide) ?_
  refine r_istore (pc := 4) (lv' := [(6, .int (iv 0)), (4, .long (0 : Int64)), (0, .ref y), (1, .int (iv x1)), (2, .int (iv x2)), (3, .int (iv x3))]) dX12_out_4 (by decide) rfl ?_
  have B6 : ∀ k : Nat, ∀ hp6 : MH, Tw Γ hp6 → ∀  (v6_6 : Int) (w6_4 : Int64), 0 ≤ v6_6 ∧ v6_6 ≤ 60 → 60 - v6_6 ≤ (k : Int) → Rn (gG D cI cJ cZ cT lo b L xs) mX12_out d 6 [(0, .ref y), (1, .int (iv x1)), (2, .int (iv x2)), (3, .int (iv x3)), (4, .long w6_4), (6, .int (iv v6_6))] [] hp6 n 0 0 (pJ Γ n yes64) := by
    refine lpS _ ?_
    intro k6 ih6 hp6 ht6 v6_6 w6_4 hf6 hm6
    refine r_iload (pc := 6) dX12_out_6 rfl ?_
    refine r_aload_n (pc := 8) dX12_out_8 (i := 0) rfl rfl ?_
    refine t_getE (pc := 9) (.ref (y + 4)) ht6 hO fX12_20 dX12_out_9 rfl ?_
    refine r_iload_n (pc := 12) dX12_out_12 (i := 1) rfl rfl ?_
    refine t_ialdR (pc := 13) (t0 := 0) ht6 hA_many dX12_out_13 rfl (by decide) (by omega) (fun y1 by1 => ?_)
    refine t_icmp_ge (pc := 14) (tgt := 139) dX12_out_14 (by decide) (by omega) (by omega) (fun c14 => ?_) (fun c14 => ?_)
    · refine r_lload (pc := 139) dX12_out_139 rfl ?_
      exact r_lret (pc := 141) dX12_out_141 rfl ⟨rfl, ht6, _, rfl, trivial⟩
    · refine r_iload_n (pc := 17) dX12_out_17 (i := 1) rfl rfl ?_
      refine r_iload (pc := 18) dX12_out_18 rfl ?_
      refine t_callSR (pc := 20) (as := [.int (iv x1), .int (iv v6_6)]) (st := []) kX12_157 dX12_out_20 (t_X12_at1 (d := d - 1) (x1 := x1) (x2 := v6_6) (by omega)  ht6 (by omega) (by omega)) rfl (by omega) (Nat.le_of_ble_eq_true rfl) rfl (fun hp2 y4 ht3 by4 => ?_)
      refine r_istore (pc := 23) (lv' := [(7, .int (iv y4)), (0, .ref y), (1, .int (iv x1)), (2, .int (iv x2)), (3, .int (iv x3)), (4, .long w6_4), (6, .int (iv v6_6))]) dX12_out_23 (by decide) rfl ?_
      refine r_iload_n (pc := 25) dX12_out_25 (i := 2) rfl rfl ?_
      refine r_aload_n (pc := 26) dX12_out_26 (i := 0) rfl rfl ?_
      refine t_getE (pc := 27) (.ref (y + 5)) ht3 hO fX12_23 dX12_out_27 rfl ?_
      refine r_iload (pc := 30) dX12_out_30 rfl ?_
      refine t_ialdR (pc := 32) (t0 := 0) ht3 hA_from dX12_out_32 rfl (by decide) (by omega) (fun y5 by5 => ?_)
      obtain ⟨z6, hz6, bz6⟩ := shr_x x2 y5 (by omega) (by omega)
      refine r_ishr (pc := 33) (v := iv z6) dX12_out_33 hz6 ?_
      refine r_iconst (pc := 34) (v := iv 1) dX12_out_34 (by decide) ?_
      obtain ⟨z7, hz7, bz7⟩ := and_2 z6 1 (by omega) (by omega)
      refine r_iand (pc := 35) (v := iv z7) dX12_out_35 hz7 ?_
      refine r_iconst (pc := 36) (v := iv 1) dX12_out_36 (by decide) ?_
      have B45 : ∀ hp45 : MH, Tw Γ hp45 → ∀  (u45_0 : Int), 0 ≤ u45_0 ∧ u45_0 ≤ 1 → Rn (gG D cI cJ cZ cT lo b L xs) mX12_out d 45 [(0, .ref y), (1, .int (iv x1)), (2, .int (iv x2)), (3, .int (iv x3)), (4, .long w6_4), (6, .int (iv v6_6)), (7, .int (iv y4))] [.int (iv u45_0)] hp45 n 0 0 (pJ Γ n yes64) := by
        intro hp45 ht45 u45_0 hf45
        refine r_istore (pc := 45) (lv' := [(8, .int (iv u45_0)), (0, .ref y), (1, .int (iv x1)), (2, .int (iv x2)), (3, .int (iv x3)), (4, .long w6_4), (6, .int (iv v6_6)), (7, .int (iv y4))]) dX12_out_45 (by decide) rfl ?_
        refine r_iload_n (pc := 47) dX12_out_47 (i := 2) rfl rfl ?_
        refine r_aload_n (pc := 48) dX12_out_48 (i := 0) rfl rfl ?_
        refine t_getE (pc := 49) (.ref (y + 6)) ht45 hO fX12_26 dX12_out_49 rfl ?_
        refine r_iload (pc := 52) dX12_out_52 rfl ?_
        refine t_ialdR (pc := 54) (t0 := 0) ht45 hA_to dX12_out_54 rfl (by decide) (by omega) (fun y8 by8 => ?_)
        obtain ⟨z9, hz9, bz9⟩ := shr_x x2 y8 (by omega) (by omega)
        refine r_ishr (pc := 55) (v := iv z9) dX12_out_55 hz9 ?_
        refine r_iconst (pc := 56) (v := iv 1) dX12_out_56 (by decide) ?_
        obtain ⟨z10, hz10, bz10⟩ := and_2 z9 1 (by omega) (by omega)
        refine r_iand (pc := 57) (v := iv z10) dX12_out_57 hz10 ?_
        refine r_iconst (pc := 58) (v := iv 1) dX12_out_58 (by decide) ?_
        have B67 : ∀ hp67 : MH, Tw Γ hp67 → ∀  (u67_0 : Int), 0 ≤ u67_0 ∧ u67_0 ≤ 1 → Rn (gG D cI cJ cZ cT lo b L xs) mX12_out d 67 [(0, .ref y), (1, .int (iv x1)), (2, .int (iv x2)), (3, .int (iv x3)), (4, .long w6_4), (6, .int (iv v6_6)), (7, .int (iv y4)), (8, .int (iv u45_0))] [.int (iv u67_0)] hp67 n 0 0 (pJ Γ n yes64) := by
          intro hp67 ht67 u67_0 hf67
          refine r_istore (pc := 67) (lv' := [(9, .int (iv u67_0)), (0, .ref y), (1, .int (iv x1)), (2, .int (iv x2)), (3, .int (iv x3)), (4, .long w6_4), (6, .int (iv v6_6)), (7, .int (iv y4)), (8, .int (iv u45_0))]) dX12_out_67 (by decide) rfl ?_
          refine r_iload (pc := 69) dX12_out_69 rfl ?_
          have B133 : ∀ hp133 : MH, Tw Γ hp133 → ∀  (w133_4 : Int64), True → Rn (gG D cI cJ cZ cT lo b L xs) mX12_out d 133 [(0, .ref y), (1, .int (iv x1)), (2, .int (iv x2)), (3, .int (iv x3)), (4, .long w133_4), (6, .int (iv v6_6))] [] hp133 n 0 0 (pJ Γ n yes64) := by
            intro hp133 ht133 w133_4 hf133
            refine r_iinc (pc := 133) (v := iv (v6_6 + 1)) (lv' := [(6, .int (iv (v6_6 + 1))), (0, .ref y), (1, .int (iv x1)), (2, .int (iv x2)), (3, .int (iv x3)), (4, .long w133_4)]) dX12_out_133 rfl (iv_add _ _) (by decide) rfl ?_
            refine r_goto (pc := 136) (tgt := 6) dX12_out_136 (by decide) ?_
            refine Rn.pick (lv' := [(0, .ref y), (1, .int (iv x1)), (2, .int (iv x2)), (3, .int (iv x3)), (4, .long w133_4), (6, .int (iv (v6_6 + 1)))]) [1, 2, 3, 4, 5, 0] rfl ?_
            exact ih6 (Int.toNat (60 - (v6_6 + 1))) (by omega) _ ht133 (v6_6 + 1) w133_4 ⟨by omega, by omega⟩ (by omega)
          have B98 : ∀ hp98 : MH, Tw Γ hp98 → True → Rn (gG D cI cJ cZ cT lo b L xs) mX12_out d 98 [(0, .ref y), (1, .int (iv x1)), (2, .int (iv x2)), (3, .int (iv x3)), (4, .long w6_4), (6, .int (iv v6_6)), (7, .int (iv y4))] [] hp98 n 0 0 (pJ Γ n yes64) := by
            intro hp98 ht98 hf98
            refine r_lload (pc := 98) dX12_out_98 rfl ?_
            refine r_iload_n (pc := 100) dX12_out_100 (i := 3) rfl rfl ?_
            have B130 : ∀ hp130 : MH, Tw Γ hp130 → ∀  (x130_1 : Int64), True → Rn (gG D cI cJ cZ cT lo b L xs) mX12_out d 130 [(0, .ref y), (1, .int (iv x1)), (2, .int (iv x2)), (3, .int (iv x3)), (6, .int (iv v6_6))] [.long x130_1, .long w6_4] hp130 n 0 0 (pJ Γ n yes64) := by
              intro hp130 ht130 x130_1 hf130
              refine r_ladd (pc := 130) (v := w6_4 + x130_1) dX12_out_130 rfl ?_
              refine r_lstore (pc := 131) (lv' := [(4, .long (w6_4 + x130_1)), (0, .ref y), (1, .int (iv x1)), (2, .int (iv x2)), (3, .int (iv x3)), (6, .int (iv v6_6))]) dX12_out_131 (by decide) rfl ?_
              refine Rn.pick (lv' := [(0, .ref y), (1, .int (iv x1)), (2, .int (iv x2)), (3, .int (iv x3)), (4, .long (w6_4 + x130_1)), (6, .int (iv v6_6))]) [1, 2, 3, 4, 0, 5] rfl ?_
              exact B133 _ ht130 (w6_4 + x130_1) trivial
            refine t_if_eq (pc := 101) (tgt := 108) dX12_out_101 (by decide) (by omega) (fun c101 => ?_) (fun c101 => ?_)
            · refine r_aload_n (pc := 108) dX12_out_108 (i := 0) rfl rfl ?_
              refine t_getE (pc := 109) (.ref (y + 7)) ht98 hO fX12_29 dX12_out_109 rfl ?_
              refine r_iload (pc := 112) dX12_out_112 rfl ?_
              refine t_ialdR (pc := 114) (t0 := 0) ht98 hA_weight dX12_out_114 rfl (by decide) (by omega) (fun y11 by11 => ?_)
              refine t_if_le (pc := 115) (tgt := 129) dX12_out_115 (by decide) (by omega) (fun c115 => ?_) (fun c115 => ?_)
              · refine r_lconst (pc := 129) (v := 0) dX12_out_129 (by decide) ?_
                refine Rn.pick (lv' := [(0, .ref y), (1, .int (iv x1)), (2, .int (iv x2)), (3, .int (iv x3)), (6, .int (iv v6_6))]) [0, 1, 2, 3, 5] rfl ?_
                exact B130 _ ht98 (0 : Int64) trivial
              · refine r_aload_n (pc := 118) dX12_out_118 (i := 0) rfl rfl ?_
                refine t_getE (pc := 119) (.ref (y + 7)) ht98 hO fX12_29 dX12_out_119 rfl ?_
                refine r_iload (pc := 122) dX12_out_122 rfl ?_
                refine t_ialdR (pc := 124) (t0 := 0) ht98 hA_weight dX12_out_124 rfl (by decide) (by omega) (fun y12 by12 => ?_)
                refine r_i2l (pc := 125) (v := (iv y12).toInt64) dX12_out_125 rfl ?_
                refine r_goto (pc := 126) (tgt := 130) dX12_out_126 (by decide) ?_
                refine Rn.pick (lv' := [(0, .ref y), (1, .int (iv x1)), (2, .int (iv x2)), (3, .int (iv x3)), (6, .int (iv v6_6))]) [0, 1, 2, 3, 5] rfl ?_
                exact B130 _ ht98 ((iv y12).toInt64) trivial
            · refine r_lconst (pc := 104) (v := 1) dX12_out_104 (by decide) ?_
              refine r_goto (pc := 105) (tgt := 130) dX12_out_105 (by decide) ?_
              refine Rn.pick (lv' := [(0, .ref y), (1, .int (iv x1)), (2, .int (iv x2)), (3, .int (iv x3)), (6, .int (iv v6_6))]) [0, 1, 2, 3, 5] rfl ?_
              exact B130 _ ht98 (1 : Int64) trivial
          have B79 : ∀ hp79 : MH, Tw Γ hp79 → True → Rn (gG D cI cJ cZ cT lo b L xs) mX12_out d 79 [(0, .ref y), (1, .int (iv x1)), (2, .int (iv x2)), (3, .int (iv x3)), (4, .long w6_4), (6, .int (iv v6_6)), (7, .int (iv y4)), (8, .int (iv u45_0)), (9, .int (iv u67_0))] [] hp79 n 0 0 (pJ Γ n yes64) := by
            intro hp79 ht79 hf79
            refine r_aload_n (pc := 79) dX12_out_79 (i := 0) rfl rfl ?_
            refine t_getE (pc := 80) (.ref (y + 3)) ht79 hO fX12_16 dX12_out_80 rfl ?_
            refine r_iload_n (pc := 83) dX12_out_83 (i := 1) rfl rfl ?_
            refine t_zaldR (pc := 84) (t0 := 2) ht79 hA_directs dX12_out_84 rfl (by decide) (by omega) (fun y13 by13 => ?_)
            refine t_if_ne (pc := 85) (tgt := 133) dX12_out_85 (by decide) (by omega) (fun c85 => ?_) (fun c85 => ?_)
            · refine Rn.pick (lv' := [(0, .ref y), (1, .int (iv x1)), (2, .int (iv x2)), (3, .int (iv x3)), (4, .long w6_4), (6, .int (iv v6_6))]) [0, 1, 2, 3, 4, 5] rfl ?_
              exact B133 _ ht79 w6_4 trivial
            · refine r_iload (pc := 88) dX12_out_88 rfl ?_
              refine t_if_eq (pc := 90) (tgt := 133) dX12_out_90 (by decide) (by omega) (fun c90 => ?_) (fun c90 => ?_)
              · refine Rn.pick (lv' := [(0, .ref y), (1, .int (iv x1)), (2, .int (iv x2)), (3, .int (iv x3)), (4, .long w6_4), (6, .int (iv v6_6))]) [0, 1, 2, 3, 4, 5] rfl ?_
                exact B133 _ ht79 w6_4 trivial
              · refine r_iload (pc := 93) dX12_out_93 rfl ?_
                refine t_if_ne (pc := 95) (tgt := 133) dX12_out_95 (by decide) (by omega) (fun c95 => ?_) (fun c95 => ?_)
                · refine Rn.pick (lv' := [(0, .ref y), (1, .int (iv x1)), (2, .int (iv x2)), (3, .int (iv x3)), (4, .long w6_4), (6, .int (iv v6_6))]) [0, 1, 2, 3, 4, 5] rfl ?_
                  exact B133 _ ht79 w6_4 trivial
                · refine Rn.pick (lv' := [(0, .ref y), (1, .int (iv x1)), (2, .int (iv x2)), (3, .int (iv x3)), (4, .long w6_4), (6, .int (iv v6_6)), (7, .int (iv y4))]) [0, 1, 2, 3, 4, 5, 6] rfl ?_
                  exact B98 _ ht79 trivial
          refine t_if_eq (pc := 71) (tgt := 79) dX12_out_71 (by decide) (by omega) (fun c71 => ?_) (fun c71 => ?_)
          · refine Rn.pick (lv' := [(0, .ref y), (1, .int (iv x1)), (2, .int (iv x2)), (3, .int (iv x3)), (4, .long w6_4), (6, .int (iv v6_6)), (7, .int (iv y4)), (8, .int (iv u45_0)), (9, .int (iv u67_0))]) [1, 2, 3, 4, 5, 6, 7, 8, 0] rfl ?_
            exact B79 _ ht67 trivial
          · refine r_iload (pc := 74) dX12_out_74 rfl ?_
            refine t_if_eq (pc := 76) (tgt := 98) dX12_out_76 (by decide) (by omega) (fun c76 => ?_) (fun c76 => ?_)
            · refine Rn.pick (lv' := [(0, .ref y), (1, .int (iv x1)), (2, .int (iv x2)), (3, .int (iv x3)), (4, .long w6_4), (6, .int (iv v6_6)), (7, .int (iv y4))]) [1, 2, 3, 4, 5, 6, 7] rfl ?_
              exact B98 _ ht67 trivial
            · refine Rn.pick (lv' := [(0, .ref y), (1, .int (iv x1)), (2, .int (iv x2)), (3, .int (iv x3)), (4, .long w6_4), (6, .int (iv v6_6)), (7, .int (iv y4)), (8, .int (iv u45_0)), (9, .int (iv u67_0))]) [1, 2, 3, 4, 5, 6, 7, 8, 0] rfl ?_
              exact B79 _ ht67 trivial
        refine t_icmp_ne (pc := 59) (tgt := 66) dX12_out_59 (by decide) (by omega) (by omega) (fun c59 => ?_) (fun c59 => ?_)
        · refine r_iconst (pc := 66) (v := iv 0) dX12_out_66 (by decide) ?_
          refine Rn.pick (lv' := [(0, .ref y), (1, .int (iv x1)), (2, .int (iv x2)), (3, .int (iv x3)), (4, .long w6_4), (6, .int (iv v6_6)), (7, .int (iv y4)), (8, .int (iv u45_0))]) [1, 2, 3, 4, 5, 6, 7, 0] rfl ?_
          exact B67 _ ht45 0 ⟨by omega, by omega⟩
        · refine r_iconst (pc := 62) (v := iv 1) dX12_out_62 (by decide) ?_
          refine r_goto (pc := 63) (tgt := 67) dX12_out_63 (by decide) ?_
          refine Rn.pick (lv' := [(0, .ref y), (1, .int (iv x1)), (2, .int (iv x2)), (3, .int (iv x3)), (4, .long w6_4), (6, .int (iv v6_6)), (7, .int (iv y4)), (8, .int (iv u45_0))]) [1, 2, 3, 4, 5, 6, 7, 0] rfl ?_
          exact B67 _ ht45 1 ⟨by omega, by omega⟩
      refine t_icmp_ne (pc := 37) (tgt := 44) dX12_out_37 (by decide) (by omega) (by omega) (fun c37 => ?_) (fun c37 => ?_)
      · refine r_iconst (pc := 44) (v := iv 0) dX12_out_44 (by decide) ?_
        refine Rn.pick (lv' := [(0, .ref y), (1, .int (iv x1)), (2, .int (iv x2)), (3, .int (iv x3)), (4, .long w6_4), (6, .int (iv v6_6)), (7, .int (iv y4))]) [1, 2, 3, 4, 5, 6, 0] rfl ?_
        exact B45 _ ht3 0 ⟨by omega, by omega⟩
      · refine r_iconst (pc := 40) (v := iv 1) dX12_out_40 (by decide) ?_
        refine r_goto (pc := 41) (tgt := 45) dX12_out_41 (by decide) ?_
        refine Rn.pick (lv' := [(0, .ref y), (1, .int (iv x1)), (2, .int (iv x2)), (3, .int (iv x3)), (4, .long w6_4), (6, .int (iv v6_6)), (7, .int (iv y4))]) [1, 2, 3, 4, 5, 6, 0] rfl ?_
        exact B45 _ ht3 1 ⟨by omega, by omega⟩
  refine Rn.pick (lv' := [(0, .ref y), (1, .int (iv x1)), (2, .int (iv x2)), (3, .int (iv x3)), (4, .long (0 : Int64)), (6, .int (iv 0))]) [2, 3, 4, 5, 1, 0] rfl ?_
  exact B6 (Int.toNat (60 - 0)) _ ht 0 (0 : Int64) ⟨by omega, by omega⟩ (by omega)
set_option maxHeartbeats 4000000 in
set_option maxRecDepth 100000 in
theorem t_X12_cut {D : va_G} {cI cJ cZ cT : ClassId} {lo b L : Nat} {xs : Nat → Int32} {hp : MH} {n d : Nat} {Γ : TG} {y : Nat} {rf cnt nm : Int32} {x1 x2 x3 x4 : Int} (hd0 : 2 ≤ d) (hO : rd Γ y (tO 11 (mdF y rf cnt nm))) (hA_sizes : rd Γ (y + 2) (tI cI 121 (rg 0 16))) (hA_directs : rd Γ (y + 3) (tI cZ 121 (rg 0 1))) (hA_many : rd Γ (y + 4) (tI cI 121 (rg 0 60))) (hA_from : rd Γ (y + 5) (tI cI 7260 (rg 0 15))) (hA_to : rd Γ (y + 6) (tI cI 7260 (rg 0 15))) (hA_weight : rd Γ (y + 7) (tI cI 7260 (rg (-1000) 1000))) (ht : Tw Γ hp) (hx1 : 0 ≤ x1 ∧ x1 ≤ 120) (hx2 : 0 ≤ x2 ∧ x2 ≤ 15) (hx3 : 0 ≤ x3 ∧ x3 ≤ 15) (hx4 : 0 ≤ x4 ∧ x4 ≤ 1) : Mt (gG D cI cJ cZ cT lo b L xs) mX12_cut d 0 0 [.ref y, .int (iv x1), .int (iv x2), .int (iv x3), .int (iv x4)] hp n (pJ Γ n yes64) := by
  refine Mt.of rfl (Nat.le_of_ble_eq_true rfl) ?_
  refine Rn.pick (lv' := [(0, .ref y), (1, .int (iv x1)), (2, .int (iv x2)), (3, .int (iv x3)), (4, .int (iv x4))]) [0, 1, 2, 3, 4] rfl ?_
  refine r_ldc2 (pc := 0) (v := 1000000000000) dX12_cut_0 kX12_251 ?_
  refine r_lstore (pc := 3) (lv' := [(5, .long (1000000000000 : Int64)), (0, .ref y), (1, .int (iv x1)), (2, .int (iv x2)), (3, .int (iv x3)), (4, .int (iv x4))]) dX12_cut_3 (by decide) rfl ?_
  refine r_iconst (pc := 5) (v := iv 0) dX12_cut_5 (by decide) ?_
  refine r_istore (pc := 6) (lv' := [(7, .int (iv 0)), (5, .long (1000000000000 : Int64)), (0, .ref y), (1, .int (iv x1)), (2, .int (iv x2)), (3, .int (iv x3)), (4, .int (iv x4))]) dX12_cut_6 (by decide) rfl ?_
  have B8 : ∀ k : Nat, ∀ hp8 : MH, Tw Γ hp8 → ∀  (v8_7 : Int) (w8_5 : Int64), 0 ≤ v8_7 ∧ v8_7 ≤ 65536 → 65536 - v8_7 ≤ (k : Int) → Rn (gG D cI cJ cZ cT lo b L xs) mX12_cut d 8 [(0, .ref y), (1, .int (iv x1)), (2, .int (iv x2)), (3, .int (iv x3)), (4, .int (iv x4)), (5, .long w8_5), (7, .int (iv v8_7))] [] hp8 n 0 0 (pJ Γ n yes64) := by
    refine lpS _ ?_
    intro k8 ih8 hp8 ht8 v8_7 w8_5 hf8 hm8
    refine r_iload (pc := 8) dX12_cut_8 rfl ?_
    refine r_iconst (pc := 10) (v := iv 1) dX12_cut_10 (by decide) ?_
    refine r_aload_n (pc := 11) dX12_cut_11 (i := 0) rfl rfl ?_
    refine t_getE (pc := 12) (.ref (y + 2)) ht8 hO fX12_13 dX12_cut_12 rfl ?_
    refine r_iload_n (pc := 15) dX12_cut_15 (i := 1) rfl rfl ?_
    refine t_ialdR (pc := 16) (t0 := 0) ht8 hA_sizes dX12_cut_16 rfl (by decide) (by omega) (fun y1 by1 => ?_)
    obtain ⟨z2, hz2, bz2⟩ := shl_1 0 16 y1 (by omega) (by omega) (by decide)
    refine r_ishl (pc := 17) (v := iv z2) dX12_cut_17 hz2 ?_
    refine t_icmp_ge (pc := 18) (tgt := 74) dX12_cut_18 (by decide) (by omega) (by omega) (fun c18 => ?_) (fun c18 => ?_)
    · refine r_lload (pc := 74) dX12_cut_74 rfl ?_
      exact r_lret (pc := 76) dX12_cut_76 rfl ⟨rfl, ht8, _, rfl, trivial⟩
    · refine r_iload (pc := 21) dX12_cut_21 rfl ?_
      refine r_iload_n (pc := 23) dX12_cut_23 (i := 2) rfl rfl ?_
      obtain ⟨z3, hz3, bz3⟩ := shr_x v8_7 x2 (by omega) (by omega)
      refine r_ishr (pc := 24) (v := iv z3) dX12_cut_24 hz3 ?_
      refine r_iconst (pc := 25) (v := iv 1) dX12_cut_25 (by decide) ?_
      obtain ⟨z4, hz4, bz4⟩ := and_2 z3 1 (by omega) (by omega)
      refine r_iand (pc := 26) (v := iv z4) dX12_cut_26 hz4 ?_
      refine r_iconst (pc := 27) (v := iv 1) dX12_cut_27 (by decide) ?_
      have B68 : ∀ hp68 : MH, Tw Γ hp68 → ∀  (w68_5 : Int64), True → Rn (gG D cI cJ cZ cT lo b L xs) mX12_cut d 68 [(0, .ref y), (1, .int (iv x1)), (2, .int (iv x2)), (3, .int (iv x3)), (4, .int (iv x4)), (5, .long w68_5), (7, .int (iv v8_7))] [] hp68 n 0 0 (pJ Γ n yes64) := by
        intro hp68 ht68 w68_5 hf68
        refine r_iinc (pc := 68) (v := iv (v8_7 + 1)) (lv' := [(7, .int (iv (v8_7 + 1))), (0, .ref y), (1, .int (iv x1)), (2, .int (iv x2)), (3, .int (iv x3)), (4, .int (iv x4)), (5, .long w68_5)]) dX12_cut_68 rfl (iv_add _ _) (by decide) rfl ?_
        refine r_goto (pc := 71) (tgt := 8) dX12_cut_71 (by decide) ?_
        refine Rn.pick (lv' := [(0, .ref y), (1, .int (iv x1)), (2, .int (iv x2)), (3, .int (iv x3)), (4, .int (iv x4)), (5, .long w68_5), (7, .int (iv (v8_7 + 1)))]) [1, 2, 3, 4, 5, 6, 0] rfl ?_
        exact ih8 (Int.toNat (65536 - (v8_7 + 1))) (by omega) _ ht68 (v8_7 + 1) w68_5 ⟨by omega, by omega⟩ (by omega)
      refine t_icmp_ne (pc := 28) (tgt := 68) dX12_cut_28 (by decide) (by omega) (by omega) (fun c28 => ?_) (fun c28 => ?_)
      · refine Rn.pick (lv' := [(0, .ref y), (1, .int (iv x1)), (2, .int (iv x2)), (3, .int (iv x3)), (4, .int (iv x4)), (5, .long w8_5), (7, .int (iv v8_7))]) [0, 1, 2, 3, 4, 5, 6] rfl ?_
        exact B68 _ ht8 w8_5 trivial
      · refine r_iload (pc := 31) dX12_cut_31 rfl ?_
        refine r_iload_n (pc := 33) dX12_cut_33 (i := 3) rfl rfl ?_
        obtain ⟨z5, hz5, bz5⟩ := shr_x v8_7 x3 (by omega) (by omega)
        refine r_ishr (pc := 34) (v := iv z5) dX12_cut_34 hz5 ?_
        refine r_iconst (pc := 35) (v := iv 1) dX12_cut_35 (by decide) ?_
        obtain ⟨z6, hz6, bz6⟩ := and_2 z5 1 (by omega) (by omega)
        refine r_iand (pc := 36) (v := iv z6) dX12_cut_36 hz6 ?_
        refine t_if_ne (pc := 37) (tgt := 68) dX12_cut_37 (by decide) (by omega) (fun c37 => ?_) (fun c37 => ?_)
        · refine Rn.pick (lv' := [(0, .ref y), (1, .int (iv x1)), (2, .int (iv x2)), (3, .int (iv x3)), (4, .int (iv x4)), (5, .long w8_5), (7, .int (iv v8_7))]) [0, 1, 2, 3, 4, 5, 6] rfl ?_
          exact B68 _ ht8 w8_5 trivial
        · refine r_aload_n (pc := 40) dX12_cut_40 (i := 0) rfl rfl ?_
          refine r_iload_n (pc := 41) dX12_cut_41 (i := 1) rfl rfl ?_
          refine r_iload (pc := 42) dX12_cut_42 rfl ?_
          refine r_iload (pc := 44) dX12_cut_44 rfl ?_
          refine t_callVJ (pc := 46) (as := [.int (iv x1), .int (iv v8_7), .int (iv x4)]) (st := []) ht8 hO kX12_368 rfl dX12_cut_46 (t_X12_out (d := d - 1) (x1 := x1) (x2 := v8_7) (x3 := x4) (by omega) hO hA_directs hA_many hA_from hA_to hA_weight ht8 (by omega) (by omega) (by omega)) rfl (by omega) (Nat.le_of_ble_eq_true rfl) rfl (fun hp7 y9 ht8 _ => ?_)
          refine r_lstore (pc := 49) (lv' := [(8, .long y9), (0, .ref y), (1, .int (iv x1)), (2, .int (iv x2)), (3, .int (iv x3)), (4, .int (iv x4)), (5, .long w8_5), (7, .int (iv v8_7))]) dX12_cut_49 (by decide) rfl ?_
          refine r_lload (pc := 51) dX12_cut_51 rfl ?_
          refine r_lload (pc := 53) dX12_cut_53 rfl ?_
          refine r_lcmp (pc := 55) dX12_cut_55 ?_
          have B66 : ∀ hp66 : MH, Tw Γ hp66 → ∀  (x66_0 : Int64), True → Rn (gG D cI cJ cZ cT lo b L xs) mX12_cut d 66 [(0, .ref y), (1, .int (iv x1)), (2, .int (iv x2)), (3, .int (iv x3)), (4, .int (iv x4)), (7, .int (iv v8_7))] [.long x66_0] hp66 n 0 0 (pJ Γ n yes64) := by
            intro hp66 ht66 x66_0 hf66
            refine r_lstore (pc := 66) (lv' := [(5, .long x66_0), (0, .ref y), (1, .int (iv x1)), (2, .int (iv x2)), (3, .int (iv x3)), (4, .int (iv x4)), (7, .int (iv v8_7))]) dX12_cut_66 (by decide) rfl ?_
            refine Rn.pick (lv' := [(0, .ref y), (1, .int (iv x1)), (2, .int (iv x2)), (3, .int (iv x3)), (4, .int (iv x4)), (5, .long x66_0), (7, .int (iv v8_7))]) [1, 2, 3, 4, 5, 0, 6] rfl ?_
            exact B68 _ ht66 x66_0 trivial
          refine r_if_ge (pc := 56) (tgt := 64) dX12_cut_56 (by decide) (fun c56 => ?_) (fun c56 => ?_)
          · refine r_lload (pc := 64) dX12_cut_64 rfl ?_
            refine Rn.pick (lv' := [(0, .ref y), (1, .int (iv x1)), (2, .int (iv x2)), (3, .int (iv x3)), (4, .int (iv x4)), (7, .int (iv v8_7))]) [1, 2, 3, 4, 5, 7] rfl ?_
            exact B66 _ ht8 w8_5 trivial
          · refine r_lload (pc := 59) dX12_cut_59 rfl ?_
            refine r_goto (pc := 61) (tgt := 66) dX12_cut_61 (by decide) ?_
            refine Rn.pick (lv' := [(0, .ref y), (1, .int (iv x1)), (2, .int (iv x2)), (3, .int (iv x3)), (4, .int (iv x4)), (7, .int (iv v8_7))]) [1, 2, 3, 4, 5, 7] rfl ?_
            exact B66 _ ht8 y9 trivial
  refine Rn.pick (lv' := [(0, .ref y), (1, .int (iv x1)), (2, .int (iv x2)), (3, .int (iv x3)), (4, .int (iv x4)), (5, .long (1000000000000 : Int64)), (7, .int (iv 0))]) [2, 3, 4, 5, 6, 1, 0] rfl ?_
  exact B8 (Int.toNat (65536 - 0)) _ ht 0 (1000000000000 : Int64) ⟨by omega, by omega⟩ (by omega)
set_option maxHeartbeats 4000000 in
set_option maxRecDepth 100000 in
theorem t_X12_cutSet {D : va_G} {cI cJ cZ cT : ClassId} {lo b L : Nat} {xs : Nat → Int32} {hp : MH} {n d : Nat} {Γ : TG} {y : Nat} {rf cnt nm : Int32} {x1 x2 x3 : Int} (hd0 : 3 ≤ d) (hO : rd Γ y (tO 11 (mdF y rf cnt nm))) (hA_sizes : rd Γ (y + 2) (tI cI 121 (rg 0 16))) (hA_directs : rd Γ (y + 3) (tI cZ 121 (rg 0 1))) (hA_many : rd Γ (y + 4) (tI cI 121 (rg 0 60))) (hA_from : rd Γ (y + 5) (tI cI 7260 (rg 0 15))) (hA_to : rd Γ (y + 6) (tI cI 7260 (rg 0 15))) (hA_weight : rd Γ (y + 7) (tI cI 7260 (rg (-1000) 1000))) (ht : Tw Γ hp) (hx1 : 0 ≤ x1 ∧ x1 ≤ 120) (hx2 : 0 ≤ x2 ∧ x2 ≤ 15) (hx3 : 0 ≤ x3 ∧ x3 ≤ 15) : Mt (gG D cI cJ cZ cT lo b L xs) mX12_cutSet d 0 0 [.ref y, .int (iv x1), .int (iv x2), .int (iv x3)] hp n (pJ Γ n yes64) := by
  refine Mt.of rfl (Nat.le_of_ble_eq_true rfl) ?_
  refine Rn.pick (lv' := [(0, .ref y), (1, .int (iv x1)), (2, .int (iv x2)), (3, .int (iv x3))]) [0, 1, 2, 3] rfl ?_
  refine r_aload_n (pc := 0) dX12_cutSet_0 (i := 0) rfl rfl ?_
  refine r_iload_n (pc := 1) dX12_cutSet_1 (i := 1) rfl rfl ?_
  refine r_iload_n (pc := 2) dX12_cutSet_2 (i := 2) rfl rfl ?_
  refine r_iload_n (pc := 3) dX12_cutSet_3 (i := 3) rfl rfl ?_
  refine r_iconst (pc := 4) (v := iv 0) dX12_cutSet_4 (by decide) ?_
  refine t_callVJ (pc := 5) (as := [.int (iv x1), .int (iv x2), .int (iv x3), .int (iv 0)]) (st := []) ht hO kX12_343 rfl dX12_cutSet_5 (t_X12_cut (d := d - 1) (x1 := x1) (x2 := x2) (x3 := x3) (x4 := 0) (by omega) hO hA_sizes hA_directs hA_many hA_from hA_to hA_weight ht (by omega) (by omega) (by omega) (by omega)) rfl (by omega) (Nat.le_of_ble_eq_true rfl) rfl (fun hp1 y3 ht2 _ => ?_)
  refine r_lstore (pc := 8) (lv' := [(4, .long y3), (0, .ref y), (1, .int (iv x1)), (2, .int (iv x2)), (3, .int (iv x3))]) dX12_cutSet_8 (by decide) rfl ?_
  refine r_iconst (pc := 10) (v := iv 0) dX12_cutSet_10 (by decide) ?_
  refine r_istore (pc := 11) (lv' := [(6, .int (iv 0)), (4, .long y3), (0, .ref y), (1, .int (iv x1)), (2, .int (iv x2)), (3, .int (iv x3))]) dX12_cutSet_11 (by decide) rfl ?_
  have B13 : ∀ k : Nat, ∀ hp13 : MH, Tw Γ hp13 → ∀  (v13_6 : Int), 0 ≤ v13_6 ∧ v13_6 ≤ 65536 → 65536 - v13_6 ≤ (k : Int) → Rn (gG D cI cJ cZ cT lo b L xs) mX12_cutSet d 13 [(0, .ref y), (1, .int (iv x1)), (2, .int (iv x2)), (3, .int (iv x3)), (4, .long y3), (6, .int (iv v13_6))] [] hp13 n 0 0 (pJ Γ n yes64) := by
    refine lpS _ ?_
    intro k13 ih13 hp13 ht13 v13_6 hf13 hm13
    refine r_iload (pc := 13) dX12_cutSet_13 rfl ?_
    refine r_iconst (pc := 15) (v := iv 1) dX12_cutSet_15 (by decide) ?_
    refine r_aload_n (pc := 16) dX12_cutSet_16 (i := 0) rfl rfl ?_
    refine t_getE (pc := 17) (.ref (y + 2)) ht13 hO fX12_13 dX12_cutSet_17 rfl ?_
    refine r_iload_n (pc := 20) dX12_cutSet_20 (i := 1) rfl rfl ?_
    refine t_ialdR (pc := 21) (t0 := 0) ht13 hA_sizes dX12_cutSet_21 rfl (by decide) (by omega) (fun y4 by4 => ?_)
    obtain ⟨z5, hz5, bz5⟩ := shl_1 0 16 y4 (by omega) (by omega) (by decide)
    refine r_ishl (pc := 22) (v := iv z5) dX12_cutSet_22 hz5 ?_
    refine t_icmp_ge (pc := 23) (tgt := 69) dX12_cutSet_23 (by decide) (by omega) (by omega) (fun c23 => ?_) (fun c23 => ?_)
    · refine r_lconst (pc := 69) (v := 0) dX12_cutSet_69 (by decide) ?_
      exact r_lret (pc := 70) dX12_cutSet_70 rfl ⟨rfl, ht13, _, rfl, trivial⟩
    · refine r_iload (pc := 26) dX12_cutSet_26 rfl ?_
      refine r_iload_n (pc := 28) dX12_cutSet_28 (i := 2) rfl rfl ?_
      obtain ⟨z6, hz6, bz6⟩ := shr_x v13_6 x2 (by omega) (by omega)
      refine r_ishr (pc := 29) (v := iv z6) dX12_cutSet_29 hz6 ?_
      refine r_iconst (pc := 30) (v := iv 1) dX12_cutSet_30 (by decide) ?_
      obtain ⟨z7, hz7, bz7⟩ := and_2 z6 1 (by omega) (by omega)
      refine r_iand (pc := 31) (v := iv z7) dX12_cutSet_31 hz7 ?_
      refine r_iconst (pc := 32) (v := iv 1) dX12_cutSet_32 (by decide) ?_
      have B63 : ∀ hp63 : MH, Tw Γ hp63 → True → Rn (gG D cI cJ cZ cT lo b L xs) mX12_cutSet d 63 [(0, .ref y), (1, .int (iv x1)), (2, .int (iv x2)), (3, .int (iv x3)), (4, .long y3), (6, .int (iv v13_6))] [] hp63 n 0 0 (pJ Γ n yes64) := by
        intro hp63 ht63 hf63
        refine r_iinc (pc := 63) (v := iv (v13_6 + 1)) (lv' := [(6, .int (iv (v13_6 + 1))), (0, .ref y), (1, .int (iv x1)), (2, .int (iv x2)), (3, .int (iv x3)), (4, .long y3)]) dX12_cutSet_63 rfl (iv_add _ _) (by decide) rfl ?_
        refine r_goto (pc := 66) (tgt := 13) dX12_cutSet_66 (by decide) ?_
        refine Rn.pick (lv' := [(0, .ref y), (1, .int (iv x1)), (2, .int (iv x2)), (3, .int (iv x3)), (4, .long y3), (6, .int (iv (v13_6 + 1)))]) [1, 2, 3, 4, 5, 0] rfl ?_
        exact ih13 (Int.toNat (65536 - (v13_6 + 1))) (by omega) _ ht63 (v13_6 + 1) ⟨by omega, by omega⟩ (by omega)
      refine t_icmp_ne (pc := 33) (tgt := 63) dX12_cutSet_33 (by decide) (by omega) (by omega) (fun c33 => ?_) (fun c33 => ?_)
      · refine Rn.pick (lv' := [(0, .ref y), (1, .int (iv x1)), (2, .int (iv x2)), (3, .int (iv x3)), (4, .long y3), (6, .int (iv v13_6))]) [0, 1, 2, 3, 4, 5] rfl ?_
        exact B63 _ ht13 trivial
      · refine r_iload (pc := 36) dX12_cutSet_36 rfl ?_
        refine r_iload_n (pc := 38) dX12_cutSet_38 (i := 3) rfl rfl ?_
        obtain ⟨z8, hz8, bz8⟩ := shr_x v13_6 x3 (by omega) (by omega)
        refine r_ishr (pc := 39) (v := iv z8) dX12_cutSet_39 hz8 ?_
        refine r_iconst (pc := 40) (v := iv 1) dX12_cutSet_40 (by decide) ?_
        obtain ⟨z9, hz9, bz9⟩ := and_2 z8 1 (by omega) (by omega)
        refine r_iand (pc := 41) (v := iv z9) dX12_cutSet_41 hz9 ?_
        refine t_if_ne (pc := 42) (tgt := 63) dX12_cutSet_42 (by decide) (by omega) (fun c42 => ?_) (fun c42 => ?_)
        · refine Rn.pick (lv' := [(0, .ref y), (1, .int (iv x1)), (2, .int (iv x2)), (3, .int (iv x3)), (4, .long y3), (6, .int (iv v13_6))]) [0, 1, 2, 3, 4, 5] rfl ?_
          exact B63 _ ht13 trivial
        · refine r_aload_n (pc := 45) dX12_cutSet_45 (i := 0) rfl rfl ?_
          refine r_iload_n (pc := 46) dX12_cutSet_46 (i := 1) rfl rfl ?_
          refine r_iload (pc := 47) dX12_cutSet_47 rfl ?_
          refine r_iconst (pc := 49) (v := iv 0) dX12_cutSet_49 (by decide) ?_
          refine t_callVJ (pc := 50) (as := [.int (iv x1), .int (iv v13_6), .int (iv 0)]) (st := []) ht13 hO kX12_368 rfl dX12_cutSet_50 (t_X12_out (d := d - 1) (x1 := x1) (x2 := v13_6) (x3 := 0) (by omega) hO hA_directs hA_many hA_from hA_to hA_weight ht13 (by omega) (by omega) (by omega)) rfl (by omega) (Nat.le_of_ble_eq_true rfl) rfl (fun hp10 y12 ht11 _ => ?_)
          refine r_lload (pc := 53) dX12_cutSet_53 rfl ?_
          refine r_lcmp (pc := 55) dX12_cutSet_55 ?_
          refine r_if_ne (pc := 56) (tgt := 63) dX12_cutSet_56 (by decide) (fun c56 => ?_) (fun c56 => ?_)
          · refine Rn.pick (lv' := [(0, .ref y), (1, .int (iv x1)), (2, .int (iv x2)), (3, .int (iv x3)), (4, .long y3), (6, .int (iv v13_6))]) [0, 1, 2, 3, 4, 5] rfl ?_
            exact B63 _ ht11 trivial
          · refine r_iload (pc := 59) dX12_cutSet_59 rfl ?_
            refine r_i2l (pc := 61) (v := (iv v13_6).toInt64) dX12_cutSet_61 rfl ?_
            exact r_lret (pc := 62) dX12_cutSet_62 rfl ⟨rfl, ht11, _, rfl, trivial⟩
  refine Rn.pick (lv' := [(0, .ref y), (1, .int (iv x1)), (2, .int (iv x2)), (3, .int (iv x3)), (4, .long y3), (6, .int (iv 0))]) [2, 3, 4, 5, 1, 0] rfl ?_
  exact B13 (Int.toNat (65536 - 0)) _ ht2 0 ⟨by omega, by omega⟩ (by omega)
set_option maxHeartbeats 4000000 in
set_option maxRecDepth 100000 in
theorem t_X12_roomOf {D : va_G} {cI cJ cZ cT : ClassId} {lo b L : Nat} {xs : Nat → Int32} {hp : MH} {n d : Nat} {Γ : TG} {y : Nat} {rf cnt nm : Int32} {x1 x2 x3 : Int} (hd0 : 1 ≤ d) (hO : rd Γ y (tO 11 (mdF y rf cnt nm))) (hA_directs : rd Γ (y + 3) (tI cZ 121 (rg 0 1))) (hA_weight : rd Γ (y + 7) (tI cI 7260 (rg (-1000) 1000))) (hA_gone : rd Γ (y + 38) (tI cI 60 anyI)) (ht : Tw Γ hp) (hx1 : 0 ≤ x1 ∧ x1 ≤ 120) (hx2 : 0 ≤ x2 ∧ x2 ≤ 59) (hx3 : 0 ≤ x3 ∧ x3 ≤ 1) : Mt (gG D cI cJ cZ cT lo b L xs) mX12_roomOf d 0 0 [.ref y, .int (iv x1), .int (iv x2), .int (iv x3)] hp n (pR Γ n (-2147483648) 2147483647) := by
  refine Mt.of rfl (Nat.le_of_ble_eq_true rfl) ?_
  refine Rn.pick (lv' := [(0, .ref y), (1, .int (iv x1)), (2, .int (iv x2)), (3, .int (iv x3))]) [0, 1, 2, 3] rfl ?_
  refine r_aload_n (pc := 0) dX12_roomOf_0 (i := 0) rfl rfl ?_
  refine t_getE (pc := 1) (.ref (y + 7)) ht hO fX12_29 dX12_roomOf_1 rfl ?_
  refine r_iload_n (pc := 4) dX12_roomOf_4 (i := 1) rfl rfl ?_
  refine r_iload_n (pc := 5) dX12_roomOf_5 (i := 2) rfl rfl ?_
  refine t_callSR (pc := 6) (as := [.int (iv x1), .int (iv x2)]) (st := [.ref (y + 7)]) kX12_157 dX12_roomOf_6 (t_X12_at1 (d := d - 1) (x1 := x1) (x2 := x2) (by omega)  ht (by omega) (by omega)) rfl (by omega) (Nat.le_of_ble_eq_true rfl) rfl (fun hp1 y3 ht2 by3 => ?_)
  refine t_ialdR (pc := 9) (t0 := 0) ht2 hA_weight dX12_roomOf_9 rfl (by decide) (by omega) (fun y4 by4 => ?_)
  have B27 : ∀ hp27 : MH, Tw Γ hp27 → ∀  (u27_0 : Int), (-1000) ≤ u27_0 ∧ u27_0 ≤ 1000 → Rn (gG D cI cJ cZ cT lo b L xs) mX12_roomOf d 27 [(0, .ref y), (1, .int (iv x1)), (2, .int (iv x2)), (3, .int (iv x3))] [.int (iv u27_0)] hp27 n 0 0 (pR Γ n (-2147483648) 2147483647) := by
    intro hp27 ht27 u27_0 hf27
    refine r_istore (pc := 27) (lv' := [(4, .int (iv u27_0)), (0, .ref y), (1, .int (iv x1)), (2, .int (iv x2)), (3, .int (iv x3))]) dX12_roomOf_27 (by decide) rfl ?_
    refine r_iload_n (pc := 29) dX12_roomOf_29 (i := 3) rfl rfl ?_
    refine t_if_eq (pc := 30) (tgt := 62) dX12_roomOf_30 (by decide) (by omega) (fun c30 => ?_) (fun c30 => ?_)
    · refine r_aload_n (pc := 62) dX12_roomOf_62 (i := 0) rfl rfl ?_
      refine t_getE (pc := 63) (.ref (y + 38)) ht27 hO fX12_124 dX12_roomOf_63 rfl ?_
      refine r_iload_n (pc := 66) dX12_roomOf_66 (i := 2) rfl rfl ?_
      refine t_iald (pc := 67) (t0 := 0) ht27 hA_gone dX12_roomOf_67 rfl (by decide) (by omega) (fun y5 by5 _ => ?_)
      have B102 : ∀ hp102 : MH, Tw Γ hp102 → ∀  (u102_0 : Int), (-2147483648) ≤ u102_0 ∧ u102_0 ≤ 2147483647 → Rn (gG D cI cJ cZ cT lo b L xs) mX12_roomOf d 102 [] [.int (iv u102_0)] hp102 n 0 0 (pR Γ n (-2147483648) 2147483647) := by
        intro hp102 ht102 u102_0 hf102
        exact r_iret (pc := 102) dX12_roomOf_102 rfl ⟨rfl, ht102, _, rfl, by omega, by omega⟩
      refine t_if_le (pc := 68) (tgt := 80) dX12_roomOf_68 (by decide) (by omega) (fun c68 => ?_) (fun c68 => ?_)
      · refine r_aload_n (pc := 80) dX12_roomOf_80 (i := 0) rfl rfl ?_
        refine t_getE (pc := 81) (.ref (y + 3)) ht27 hO fX12_16 dX12_roomOf_81 rfl ?_
        refine r_iload_n (pc := 84) dX12_roomOf_84 (i := 1) rfl rfl ?_
        refine t_zaldR (pc := 85) (t0 := 2) ht27 hA_directs dX12_roomOf_85 rfl (by decide) (by omega) (fun y6 by6 => ?_)
        refine t_if_eq (pc := 86) (tgt := 93) dX12_roomOf_86 (by decide) (by omega) (fun c86 => ?_) (fun c86 => ?_)
        · refine r_iload (pc := 93) dX12_roomOf_93 rfl ?_
          refine r_aload_n (pc := 95) dX12_roomOf_95 (i := 0) rfl rfl ?_
          refine t_getE (pc := 96) (.ref (y + 38)) ht27 hO fX12_124 dX12_roomOf_96 rfl ?_
          refine r_iload_n (pc := 99) dX12_roomOf_99 (i := 2) rfl rfl ?_
          refine t_iald (pc := 100) (t0 := 0) ht27 hA_gone dX12_roomOf_100 rfl (by decide) (by omega) (fun y7 by7 _ => ?_)
          obtain ⟨z8, hz8, bz8⟩ := any_i (iv u27_0 + iv y7)
          refine r_iadd (pc := 101) (v := iv z8) dX12_roomOf_101 hz8 ?_
          refine Rn.pick (lv' := []) [] rfl ?_
          exact B102 _ ht27 z8 ⟨by omega, by omega⟩
        · refine r_iconst (pc := 89) (v := iv 0) dX12_roomOf_89 (by decide) ?_
          refine r_goto (pc := 90) (tgt := 102) dX12_roomOf_90 (by decide) ?_
          refine Rn.pick (lv' := []) [] rfl ?_
          exact B102 _ ht27 0 ⟨by omega, by omega⟩
      · refine r_aload_n (pc := 71) dX12_roomOf_71 (i := 0) rfl rfl ?_
        refine t_getE (pc := 72) (.ref (y + 38)) ht27 hO fX12_124 dX12_roomOf_72 rfl ?_
        refine r_iload_n (pc := 75) dX12_roomOf_75 (i := 2) rfl rfl ?_
        refine t_iald (pc := 76) (t0 := 0) ht27 hA_gone dX12_roomOf_76 rfl (by decide) (by omega) (fun y9 by9 _ => ?_)
        refine r_goto (pc := 77) (tgt := 102) dX12_roomOf_77 (by decide) ?_
        refine Rn.pick (lv' := []) [] rfl ?_
        exact B102 _ ht27 y9 ⟨by omega, by omega⟩
    · refine r_aload_n (pc := 33) dX12_roomOf_33 (i := 0) rfl rfl ?_
      refine t_getE (pc := 34) (.ref (y + 38)) ht27 hO fX12_124 dX12_roomOf_34 rfl ?_
      refine r_iload_n (pc := 37) dX12_roomOf_37 (i := 2) rfl rfl ?_
      refine t_iald (pc := 38) (t0 := 0) ht27 hA_gone dX12_roomOf_38 rfl (by decide) (by omega) (fun y10 by10 _ => ?_)
      have B61 : ∀ hp61 : MH, Tw Γ hp61 → ∀  (u61_0 : Int), (-2147483648) ≤ u61_0 ∧ u61_0 ≤ 2147483647 → Rn (gG D cI cJ cZ cT lo b L xs) mX12_roomOf d 61 [] [.int (iv u61_0)] hp61 n 0 0 (pR Γ n (-2147483648) 2147483647) := by
        intro hp61 ht61 u61_0 hf61
        exact r_iret (pc := 61) dX12_roomOf_61 rfl ⟨rfl, ht61, _, rfl, by omega, by omega⟩
      refine t_if_ge (pc := 39) (tgt := 52) dX12_roomOf_39 (by decide) (by omega) (fun c39 => ?_) (fun c39 => ?_)
      · refine r_iload (pc := 52) dX12_roomOf_52 rfl ?_
        refine r_aload_n (pc := 54) dX12_roomOf_54 (i := 0) rfl rfl ?_
        refine t_getE (pc := 55) (.ref (y + 38)) ht27 hO fX12_124 dX12_roomOf_55 rfl ?_
        refine r_iload_n (pc := 58) dX12_roomOf_58 (i := 2) rfl rfl ?_
        refine t_iald (pc := 59) (t0 := 0) ht27 hA_gone dX12_roomOf_59 rfl (by decide) (by omega) (fun y11 by11 _ => ?_)
        obtain ⟨z12, hz12, bz12⟩ := any_i (iv u27_0 - iv y11)
        refine r_isub (pc := 60) (v := iv z12) dX12_roomOf_60 hz12 ?_
        refine Rn.pick (lv' := []) [] rfl ?_
        exact B61 _ ht27 z12 ⟨by omega, by omega⟩
      · refine r_aload_n (pc := 42) dX12_roomOf_42 (i := 0) rfl rfl ?_
        refine t_getE (pc := 43) (.ref (y + 38)) ht27 hO fX12_124 dX12_roomOf_43 rfl ?_
        refine r_iload_n (pc := 46) dX12_roomOf_46 (i := 2) rfl rfl ?_
        refine t_iald (pc := 47) (t0 := 0) ht27 hA_gone dX12_roomOf_47 rfl (by decide) (by omega) (fun y13 by13 _ => ?_)
        obtain ⟨z14, hz14, bz14⟩ := any_i (- iv y13)
        refine r_ineg (pc := 48) (v := iv z14) dX12_roomOf_48 hz14 ?_
        refine r_goto (pc := 49) (tgt := 61) dX12_roomOf_49 (by decide) ?_
        refine Rn.pick (lv' := []) [] rfl ?_
        exact B61 _ ht27 z14 ⟨by omega, by omega⟩
  refine t_if_le (pc := 10) (tgt := 26) dX12_roomOf_10 (by decide) (by omega) (fun c10 => ?_) (fun c10 => ?_)
  · refine r_iconst (pc := 26) (v := iv 0) dX12_roomOf_26 (by decide) ?_
    refine Rn.pick (lv' := [(0, .ref y), (1, .int (iv x1)), (2, .int (iv x2)), (3, .int (iv x3))]) [0, 1, 2, 3] rfl ?_
    exact B27 _ ht2 0 ⟨by omega, by omega⟩
  · refine r_aload_n (pc := 13) dX12_roomOf_13 (i := 0) rfl rfl ?_
    refine t_getE (pc := 14) (.ref (y + 7)) ht2 hO fX12_29 dX12_roomOf_14 rfl ?_
    refine r_iload_n (pc := 17) dX12_roomOf_17 (i := 1) rfl rfl ?_
    refine r_iload_n (pc := 18) dX12_roomOf_18 (i := 2) rfl rfl ?_
    refine t_callSR (pc := 19) (as := [.int (iv x1), .int (iv x2)]) (st := [.ref (y + 7)]) kX12_157 dX12_roomOf_19 (t_X12_at1 (d := d - 1) (x1 := x1) (x2 := x2) (by omega)  ht2 (by omega) (by omega)) rfl (by omega) (Nat.le_of_ble_eq_true rfl) rfl (fun hp15 y17 ht16 by17 => ?_)
    refine t_ialdR (pc := 22) (t0 := 0) ht16 hA_weight dX12_roomOf_22 rfl (by decide) (by omega) (fun y18 by18 => ?_)
    refine r_goto (pc := 23) (tgt := 27) dX12_roomOf_23 (by decide) ?_
    refine Rn.pick (lv' := [(0, .ref y), (1, .int (iv x1)), (2, .int (iv x2)), (3, .int (iv x3))]) [0, 1, 2, 3] rfl ?_
    exact B27 _ ht16 y18 ⟨by omega, by omega⟩
set_option maxHeartbeats 4000000 in
set_option maxRecDepth 100000 in
theorem t_X12_costOf {D : va_G} {cI cJ cZ cT : ClassId} {lo b L : Nat} {xs : Nat → Int32} {hp : MH} {n d : Nat} {Γ : TG} {y : Nat} {rf cnt nm : Int32} {x1 x2 x3 : Int} (hd0 : 1 ≤ d) (hO : rd Γ y (tO 11 (mdF y rf cnt nm))) (hA_cost : rd Γ (y + 8) (tI cI 7260 (rg (-1000) 1000))) (hA_gone : rd Γ (y + 38) (tI cI 60 anyI)) (ht : Tw Γ hp) (hx1 : 0 ≤ x1 ∧ x1 ≤ 120) (hx2 : 0 ≤ x2 ∧ x2 ≤ 59) (hx3 : 0 ≤ x3 ∧ x3 ≤ 1) : Mt (gG D cI cJ cZ cT lo b L xs) mX12_costOf d 0 0 [.ref y, .int (iv x1), .int (iv x2), .int (iv x3)] hp n (pJ Γ n yes64) := by
  refine Mt.of rfl (Nat.le_of_ble_eq_true rfl) ?_
  refine Rn.pick (lv' := [(0, .ref y), (1, .int (iv x1)), (2, .int (iv x2)), (3, .int (iv x3))]) [0, 1, 2, 3] rfl ?_
  refine r_aload_n (pc := 0) dX12_costOf_0 (i := 0) rfl rfl ?_
  refine t_getE (pc := 1) (.ref (y + 8)) ht hO fX12_32 dX12_costOf_1 rfl ?_
  refine r_iload_n (pc := 4) dX12_costOf_4 (i := 1) rfl rfl ?_
  refine r_iload_n (pc := 5) dX12_costOf_5 (i := 2) rfl rfl ?_
  refine t_callSR (pc := 6) (as := [.int (iv x1), .int (iv x2)]) (st := [.ref (y + 8)]) kX12_157 dX12_costOf_6 (t_X12_at1 (d := d - 1) (x1 := x1) (x2 := x2) (by omega)  ht (by omega) (by omega)) rfl (by omega) (Nat.le_of_ble_eq_true rfl) rfl (fun hp1 y3 ht2 by3 => ?_)
  refine t_ialdR (pc := 9) (t0 := 0) ht2 hA_cost dX12_costOf_9 rfl (by decide) (by omega) (fun y4 by4 => ?_)
  have B28 : ∀ hp28 : MH, Tw Γ hp28 → ∀  (x28_0 : Int64), True → Rn (gG D cI cJ cZ cT lo b L xs) mX12_costOf d 28 [(0, .ref y), (2, .int (iv x2)), (3, .int (iv x3))] [.long x28_0] hp28 n 0 0 (pJ Γ n yes64) := by
    intro hp28 ht28 x28_0 hf28
    refine r_lstore (pc := 28) (lv' := [(4, .long x28_0), (0, .ref y), (2, .int (iv x2)), (3, .int (iv x3))]) dX12_costOf_28 (by decide) rfl ?_
    refine r_iload_n (pc := 30) dX12_costOf_30 (i := 3) rfl rfl ?_
    have B65 : ∀ hp65 : MH, Tw Γ hp65 → ∀  (u65_0 : Int), 0 ≤ u65_0 ∧ u65_0 ≤ 1 → Rn (gG D cI cJ cZ cT lo b L xs) mX12_costOf d 65 [(4, .long x28_0)] [.int (iv u65_0)] hp65 n 0 0 (pJ Γ n yes64) := by
      intro hp65 ht65 u65_0 hf65
      refine r_istore (pc := 65) (lv' := [(6, .int (iv u65_0)), (4, .long x28_0)]) dX12_costOf_65 (by decide) rfl ?_
      refine r_iload (pc := 67) dX12_costOf_67 rfl ?_
      have B80 : ∀ hp80 : MH, Tw Γ hp80 → ∀  (x80_0 : Int64), True → Rn (gG D cI cJ cZ cT lo b L xs) mX12_costOf d 80 [] [.long x80_0] hp80 n 0 0 (pJ Γ n yes64) := by
        intro hp80 ht80 x80_0 hf80
        exact r_lret (pc := 80) dX12_costOf_80 rfl ⟨rfl, ht80, _, rfl, trivial⟩
      refine t_if_eq (pc := 69) (tgt := 78) dX12_costOf_69 (by decide) (by omega) (fun c69 => ?_) (fun c69 => ?_)
      · refine r_lload (pc := 78) dX12_costOf_78 rfl ?_
        refine Rn.pick (lv' := []) [] rfl ?_
        exact B80 _ ht65 x28_0 trivial
      · refine r_lload (pc := 72) dX12_costOf_72 rfl ?_
        refine r_lneg (pc := 74) dX12_costOf_74 ?_
        refine r_goto (pc := 75) (tgt := 80) dX12_costOf_75 (by decide) ?_
        refine Rn.pick (lv' := []) [] rfl ?_
        exact B80 _ ht65 (-x28_0) trivial
    refine t_if_eq (pc := 31) (tgt := 51) dX12_costOf_31 (by decide) (by omega) (fun c31 => ?_) (fun c31 => ?_)
    · refine r_aload_n (pc := 51) dX12_costOf_51 (i := 0) rfl rfl ?_
      refine t_getE (pc := 52) (.ref (y + 38)) ht28 hO fX12_124 dX12_costOf_52 rfl ?_
      refine r_iload_n (pc := 55) dX12_costOf_55 (i := 2) rfl rfl ?_
      refine t_iald (pc := 56) (t0 := 0) ht28 hA_gone dX12_costOf_56 rfl (by decide) (by omega) (fun y5 by5 _ => ?_)
      refine t_if_le (pc := 57) (tgt := 64) dX12_costOf_57 (by decide) (by omega) (fun c57 => ?_) (fun c57 => ?_)
      · refine r_iconst (pc := 64) (v := iv 0) dX12_costOf_64 (by decide) ?_
        refine Rn.pick (lv' := [(4, .long x28_0)]) [0] rfl ?_
        exact B65 _ ht28 0 ⟨by omega, by omega⟩
      · refine r_iconst (pc := 60) (v := iv 1) dX12_costOf_60 (by decide) ?_
        refine r_goto (pc := 61) (tgt := 65) dX12_costOf_61 (by decide) ?_
        refine Rn.pick (lv' := [(4, .long x28_0)]) [0] rfl ?_
        exact B65 _ ht28 1 ⟨by omega, by omega⟩
    · refine r_aload_n (pc := 34) dX12_costOf_34 (i := 0) rfl rfl ?_
      refine t_getE (pc := 35) (.ref (y + 38)) ht28 hO fX12_124 dX12_costOf_35 rfl ?_
      refine r_iload_n (pc := 38) dX12_costOf_38 (i := 2) rfl rfl ?_
      refine t_iald (pc := 39) (t0 := 0) ht28 hA_gone dX12_costOf_39 rfl (by decide) (by omega) (fun y6 by6 _ => ?_)
      refine t_if_ge (pc := 40) (tgt := 47) dX12_costOf_40 (by decide) (by omega) (fun c40 => ?_) (fun c40 => ?_)
      · refine r_iconst (pc := 47) (v := iv 0) dX12_costOf_47 (by decide) ?_
        refine r_goto (pc := 48) (tgt := 65) dX12_costOf_48 (by decide) ?_
        refine Rn.pick (lv' := [(4, .long x28_0)]) [0] rfl ?_
        exact B65 _ ht28 0 ⟨by omega, by omega⟩
      · refine r_iconst (pc := 43) (v := iv 1) dX12_costOf_43 (by decide) ?_
        refine r_goto (pc := 44) (tgt := 65) dX12_costOf_44 (by decide) ?_
        refine Rn.pick (lv' := [(4, .long x28_0)]) [0] rfl ?_
        exact B65 _ ht28 1 ⟨by omega, by omega⟩
  refine t_if_le (pc := 10) (tgt := 27) dX12_costOf_10 (by decide) (by omega) (fun c10 => ?_) (fun c10 => ?_)
  · refine r_lconst (pc := 27) (v := 0) dX12_costOf_27 (by decide) ?_
    refine Rn.pick (lv' := [(0, .ref y), (2, .int (iv x2)), (3, .int (iv x3))]) [0, 2, 3] rfl ?_
    exact B28 _ ht2 (0 : Int64) trivial
  · refine r_aload_n (pc := 13) dX12_costOf_13 (i := 0) rfl rfl ?_
    refine t_getE (pc := 14) (.ref (y + 8)) ht2 hO fX12_32 dX12_costOf_14 rfl ?_
    refine r_iload_n (pc := 17) dX12_costOf_17 (i := 1) rfl rfl ?_
    refine r_iload_n (pc := 18) dX12_costOf_18 (i := 2) rfl rfl ?_
    refine t_callSR (pc := 19) (as := [.int (iv x1), .int (iv x2)]) (st := [.ref (y + 8)]) kX12_157 dX12_costOf_19 (t_X12_at1 (d := d - 1) (x1 := x1) (x2 := x2) (by omega)  ht2 (by omega) (by omega)) rfl (by omega) (Nat.le_of_ble_eq_true rfl) rfl (fun hp7 y9 ht8 by9 => ?_)
    refine t_ialdR (pc := 22) (t0 := 0) ht8 hA_cost dX12_costOf_22 rfl (by decide) (by omega) (fun y10 by10 => ?_)
    refine r_i2l (pc := 23) (v := (iv y10).toInt64) dX12_costOf_23 rfl ?_
    refine r_goto (pc := 24) (tgt := 28) dX12_costOf_24 (by decide) ?_
    refine Rn.pick (lv' := [(0, .ref y), (2, .int (iv x2)), (3, .int (iv x3))]) [0, 2, 3] rfl ?_
    exact B28 _ ht8 ((iv y10).toInt64) trivial
set_option maxHeartbeats 4000000 in
set_option maxRecDepth 100000 in
theorem t_X12_relax {D : va_G} {cI cJ cZ cT : ClassId} {lo b L : Nat} {xs : Nat → Int32} {hp : MH} {n d : Nat} {Γ : TG} {y : Nat} {rf cnt nm : Int32} {x1 x2 x3 : Int} (hd0 : 2 ≤ d) (hO : rd Γ y (tO 11 (mdF y rf cnt nm))) (hA_directs : rd Γ (y + 3) (tI cZ 121 (rg 0 1))) (hA_from : rd Γ (y + 5) (tI cI 7260 (rg 0 15))) (hA_to : rd Γ (y + 6) (tI cI 7260 (rg 0 15))) (hA_weight : rd Γ (y + 7) (tI cI 7260 (rg (-1000) 1000))) (hA_cost : rd Γ (y + 8) (tI cI 7260 (rg (-1000) 1000))) (hA_gone : rd Γ (y + 38) (tI cI 60 anyI)) (hA_dear : Γ (y + 39) = some (tJ cJ 16 anyJ)) (hA_by : Γ (y + 40) = some (tI cI 16 (rg 0 59))) (hA_ahead : Γ (y + 41) = some (tI cZ 16 (rg 0 1))) (ht : Tw Γ hp) (hx1 : 0 ≤ x1 ∧ x1 ≤ 120) (hx2 : 0 ≤ x2 ∧ x2 ≤ 59) (hx3 : 0 ≤ x3 ∧ x3 ≤ 1) : Mt (gG D cI cJ cZ cT lo b L xs) mX12_relax d 0 0 [.ref y, .int (iv x1), .int (iv x2), .int (iv x3)] hp n (pV Γ n) := by
  refine Mt.of rfl (Nat.le_of_ble_eq_true rfl) ?_
  refine Rn.pick (lv' := [(0, .ref y), (1, .int (iv x1)), (2, .int (iv x2)), (3, .int (iv x3))]) [0, 1, 2, 3] rfl ?_
  refine r_iload_n (pc := 0) dX12_relax_0 (i := 1) rfl rfl ?_
  refine r_iload_n (pc := 1) dX12_relax_1 (i := 2) rfl rfl ?_
  refine t_callSR (pc := 2) (as := [.int (iv x1), .int (iv x2)]) (st := []) kX12_157 dX12_relax_2 (t_X12_at1 (d := d - 1) (x1 := x1) (x2 := x2) (by omega)  ht (by omega) (by omega)) rfl (by omega) (Nat.le_of_ble_eq_true rfl) rfl (fun hp1 y3 ht2 by3 => ?_)
  refine r_istore (pc := 5) (lv' := [(4, .int (iv y3)), (0, .ref y), (1, .int (iv x1)), (2, .int (iv x2)), (3, .int (iv x3))]) dX12_relax_5 (by decide) rfl ?_
  refine r_iload_n (pc := 7) dX12_relax_7 (i := 3) rfl rfl ?_
  have B28 : ∀ hp28 : MH, Tw Γ hp28 → ∀  (u28_0 : Int), 0 ≤ u28_0 ∧ u28_0 ≤ 15 → Rn (gG D cI cJ cZ cT lo b L xs) mX12_relax d 28 [(0, .ref y), (1, .int (iv x1)), (2, .int (iv x2)), (3, .int (iv x3)), (4, .int (iv y3))] [.int (iv u28_0)] hp28 n 0 0 (pV Γ n) := by
    intro hp28 ht28 u28_0 hf28
    refine r_istore (pc := 28) (lv' := [(5, .int (iv u28_0)), (0, .ref y), (1, .int (iv x1)), (2, .int (iv x2)), (3, .int (iv x3)), (4, .int (iv y3))]) dX12_relax_28 (by decide) rfl ?_
    refine r_iload_n (pc := 30) dX12_relax_30 (i := 3) rfl rfl ?_
    have B51 : ∀ hp51 : MH, Tw Γ hp51 → ∀  (u51_0 : Int), 0 ≤ u51_0 ∧ u51_0 ≤ 15 → Rn (gG D cI cJ cZ cT lo b L xs) mX12_relax d 51 [(0, .ref y), (1, .int (iv x1)), (2, .int (iv x2)), (3, .int (iv x3)), (5, .int (iv u28_0))] [.int (iv u51_0)] hp51 n 0 0 (pV Γ n) := by
      intro hp51 ht51 u51_0 hf51
      refine r_istore (pc := 51) (lv' := [(6, .int (iv u51_0)), (0, .ref y), (1, .int (iv x1)), (2, .int (iv x2)), (3, .int (iv x3)), (5, .int (iv u28_0))]) dX12_relax_51 (by decide) rfl ?_
      refine r_iload (pc := 53) dX12_relax_53 rfl ?_
      refine r_iload (pc := 55) dX12_relax_55 rfl ?_
      have B148 : ∀ hp148 : MH, Tw Γ hp148 → True → Rn (gG D cI cJ cZ cT lo b L xs) mX12_relax d 148 [] [] hp148 n 0 0 (pV Γ n) := by
        intro hp148 ht148 hf148
        exact r_vret (pc := 148) dX12_relax_148 rfl ⟨rfl, ht148, rfl⟩
      refine t_icmp_eq (pc := 57) (tgt := 148) dX12_relax_57 (by decide) (by omega) (by omega) (fun c57 => ?_) (fun c57 => ?_)
      · refine Rn.pick (lv' := []) [] rfl ?_
        exact B148 _ ht51 trivial
      · refine r_aload_n (pc := 60) dX12_relax_60 (i := 0) rfl rfl ?_
        refine t_getE (pc := 61) (.ref (y + 39)) ht51 hO fX12_127 dX12_relax_61 rfl ?_
        refine r_iload (pc := 64) dX12_relax_64 rfl ?_
        refine t_lald (pc := 66) (t0 := 1) ht51 (rd_of hA_dear) dX12_relax_66 rfl (by decide) (by omega) (fun w4 _ => ?_)
        refine r_ldc2 (pc := 67) (v := 1000000000000) dX12_relax_67 kX12_251 ?_
        refine r_lcmp (pc := 70) dX12_relax_70 ?_
        refine r_if_ge (pc := 71) (tgt := 148) dX12_relax_71 (by decide) (fun c71 => ?_) (fun c71 => ?_)
        · refine Rn.pick (lv' := []) [] rfl ?_
          exact B148 _ ht51 trivial
        · refine r_aload_n (pc := 74) dX12_relax_74 (i := 0) rfl rfl ?_
          refine r_iload_n (pc := 75) dX12_relax_75 (i := 1) rfl rfl ?_
          refine r_iload_n (pc := 76) dX12_relax_76 (i := 2) rfl rfl ?_
          refine r_iload_n (pc := 77) dX12_relax_77 (i := 3) rfl rfl ?_
          refine t_callVR (pc := 78) (as := [.int (iv x1), .int (iv x2), .int (iv x3)]) (st := []) ht51 hO kX12_380 rfl dX12_relax_78 (t_X12_roomOf (d := d - 1) (x1 := x1) (x2 := x2) (x3 := x3) (by omega) hO hA_directs hA_weight hA_gone ht51 (by omega) (by omega) (by omega)) rfl (by omega) (Nat.le_of_ble_eq_true rfl) rfl (fun hp5 y7 ht6 by7 => ?_)
          refine t_if_le (pc := 81) (tgt := 148) dX12_relax_81 (by decide) (by omega) (fun c81 => ?_) (fun c81 => ?_)
          · refine Rn.pick (lv' := []) [] rfl ?_
            exact B148 _ ht6 trivial
          · refine r_aload_n (pc := 84) dX12_relax_84 (i := 0) rfl rfl ?_
            refine t_getE (pc := 85) (.ref (y + 39)) ht6 hO fX12_127 dX12_relax_85 rfl ?_
            refine r_iload (pc := 88) dX12_relax_88 rfl ?_
            refine t_lald (pc := 90) (t0 := 1) ht6 (rd_of hA_dear) dX12_relax_90 rfl (by decide) (by omega) (fun w8 _ => ?_)
            refine r_aload_n (pc := 91) dX12_relax_91 (i := 0) rfl rfl ?_
            refine r_iload_n (pc := 92) dX12_relax_92 (i := 1) rfl rfl ?_
            refine r_iload_n (pc := 93) dX12_relax_93 (i := 2) rfl rfl ?_
            refine r_iload_n (pc := 94) dX12_relax_94 (i := 3) rfl rfl ?_
            refine t_callVJ (pc := 95) (as := [.int (iv x1), .int (iv x2), .int (iv x3)]) (st := [.long w8]) ht6 hO kX12_384 rfl dX12_relax_95 (t_X12_costOf (d := d - 1) (x1 := x1) (x2 := x2) (x3 := x3) (by omega) hO hA_cost hA_gone ht6 (by omega) (by omega) (by omega)) rfl (by omega) (Nat.le_of_ble_eq_true rfl) rfl (fun hp9 y11 ht10 _ => ?_)
            refine r_ladd (pc := 98) (v := w8 + y11) dX12_relax_98 rfl ?_
            refine r_aload_n (pc := 99) dX12_relax_99 (i := 0) rfl rfl ?_
            refine t_getE (pc := 100) (.ref (y + 39)) ht10 hO fX12_127 dX12_relax_100 rfl ?_
            refine r_iload (pc := 103) dX12_relax_103 rfl ?_
            refine t_lald (pc := 105) (t0 := 1) ht10 (rd_of hA_dear) dX12_relax_105 rfl (by decide) (by omega) (fun w12 _ => ?_)
            refine r_lcmp (pc := 106) dX12_relax_106 ?_
            refine r_if_ge (pc := 107) (tgt := 148) dX12_relax_107 (by decide) (fun c107 => ?_) (fun c107 => ?_)
            · refine Rn.pick (lv' := []) [] rfl ?_
              exact B148 _ ht10 trivial
            · refine r_aload_n (pc := 110) dX12_relax_110 (i := 0) rfl rfl ?_
              refine t_getE (pc := 111) (.ref (y + 39)) ht10 hO fX12_127 dX12_relax_111 rfl ?_
              refine r_iload (pc := 114) dX12_relax_114 rfl ?_
              refine r_aload_n (pc := 116) dX12_relax_116 (i := 0) rfl rfl ?_
              refine t_getE (pc := 117) (.ref (y + 39)) ht10 hO fX12_127 dX12_relax_117 rfl ?_
              refine r_iload (pc := 120) dX12_relax_120 rfl ?_
              refine t_lald (pc := 122) (t0 := 1) ht10 (rd_of hA_dear) dX12_relax_122 rfl (by decide) (by omega) (fun w13 _ => ?_)
              refine r_aload_n (pc := 123) dX12_relax_123 (i := 0) rfl rfl ?_
              refine r_iload_n (pc := 124) dX12_relax_124 (i := 1) rfl rfl ?_
              refine r_iload_n (pc := 125) dX12_relax_125 (i := 2) rfl rfl ?_
              refine r_iload_n (pc := 126) dX12_relax_126 (i := 3) rfl rfl ?_
              refine t_callVJ (pc := 127) (as := [.int (iv x1), .int (iv x2), .int (iv x3)]) (st := [.long w13, .int (iv u51_0), .ref (y + 39)]) ht10 hO kX12_384 rfl dX12_relax_127 (t_X12_costOf (d := d - 1) (x1 := x1) (x2 := x2) (x3 := x3) (by omega) hO hA_cost hA_gone ht10 (by omega) (by omega) (by omega)) rfl (by omega) (Nat.le_of_ble_eq_true rfl) rfl (fun hp14 y16 ht15 _ => ?_)
              refine r_ladd (pc := 130) (v := w13 + y16) dX12_relax_130 rfl ?_
              refine t_last (pc := 131) (t0 := 1) ht15 hA_dear dX12_relax_131 rfl (by decide) (by omega) trivial (fun hp17 ht18 => ?_)
              refine r_aload_n (pc := 132) dX12_relax_132 (i := 0) rfl rfl ?_
              refine t_getE (pc := 133) (.ref (y + 40)) ht18 hO fX12_130 dX12_relax_133 rfl ?_
              refine r_iload (pc := 136) dX12_relax_136 rfl ?_
              refine r_iload_n (pc := 138) dX12_relax_138 (i := 2) rfl rfl ?_
              refine t_iastR (pc := 139) (t0 := 0) ht18 hA_by dX12_relax_139 rfl (by decide) (by decide) (by omega) (by omega) (fun hp19 ht20 => ?_)
              refine r_aload_n (pc := 140) dX12_relax_140 (i := 0) rfl rfl ?_
              refine t_getE (pc := 141) (.ref (y + 41)) ht20 hO fX12_133 dX12_relax_141 rfl ?_
              refine r_iload (pc := 144) dX12_relax_144 rfl ?_
              refine r_iload_n (pc := 146) dX12_relax_146 (i := 3) rfl rfl ?_
              refine t_zastR (pc := 147) (t0 := 2) ht20 hA_ahead dX12_relax_147 rfl (by decide) (by omega) (by omega) (fun hp21 ht22 => ?_)
              refine Rn.pick (lv' := []) [] rfl ?_
              exact B148 _ ht22 trivial
    refine t_if_eq (pc := 31) (tgt := 44) dX12_relax_31 (by decide) (by omega) (fun c31 => ?_) (fun c31 => ?_)
    · refine r_aload_n (pc := 44) dX12_relax_44 (i := 0) rfl rfl ?_
      refine t_getE (pc := 45) (.ref (y + 5)) ht28 hO fX12_23 dX12_relax_45 rfl ?_
      refine r_iload (pc := 48) dX12_relax_48 rfl ?_
      refine t_ialdR (pc := 50) (t0 := 0) ht28 hA_from dX12_relax_50 rfl (by decide) (by omega) (fun y23 by23 => ?_)
      refine Rn.pick (lv' := [(0, .ref y), (1, .int (iv x1)), (2, .int (iv x2)), (3, .int (iv x3)), (5, .int (iv u28_0))]) [1, 2, 3, 4, 0] rfl ?_
      exact B51 _ ht28 y23 ⟨by omega, by omega⟩
    · refine r_aload_n (pc := 34) dX12_relax_34 (i := 0) rfl rfl ?_
      refine t_getE (pc := 35) (.ref (y + 6)) ht28 hO fX12_26 dX12_relax_35 rfl ?_
      refine r_iload (pc := 38) dX12_relax_38 rfl ?_
      refine t_ialdR (pc := 40) (t0 := 0) ht28 hA_to dX12_relax_40 rfl (by decide) (by omega) (fun y24 by24 => ?_)
      refine r_goto (pc := 41) (tgt := 51) dX12_relax_41 (by decide) ?_
      refine Rn.pick (lv' := [(0, .ref y), (1, .int (iv x1)), (2, .int (iv x2)), (3, .int (iv x3)), (5, .int (iv u28_0))]) [1, 2, 3, 4, 0] rfl ?_
      exact B51 _ ht28 y24 ⟨by omega, by omega⟩
  refine t_if_eq (pc := 8) (tgt := 21) dX12_relax_8 (by decide) (by omega) (fun c8 => ?_) (fun c8 => ?_)
  · refine r_aload_n (pc := 21) dX12_relax_21 (i := 0) rfl rfl ?_
    refine t_getE (pc := 22) (.ref (y + 6)) ht2 hO fX12_26 dX12_relax_22 rfl ?_
    refine r_iload (pc := 25) dX12_relax_25 rfl ?_
    refine t_ialdR (pc := 27) (t0 := 0) ht2 hA_to dX12_relax_27 rfl (by decide) (by omega) (fun y25 by25 => ?_)
    refine Rn.pick (lv' := [(0, .ref y), (1, .int (iv x1)), (2, .int (iv x2)), (3, .int (iv x3)), (4, .int (iv y3))]) [1, 2, 3, 4, 0] rfl ?_
    exact B28 _ ht2 y25 ⟨by omega, by omega⟩
  · refine r_aload_n (pc := 11) dX12_relax_11 (i := 0) rfl rfl ?_
    refine t_getE (pc := 12) (.ref (y + 5)) ht2 hO fX12_23 dX12_relax_12 rfl ?_
    refine r_iload (pc := 15) dX12_relax_15 rfl ?_
    refine t_ialdR (pc := 17) (t0 := 0) ht2 hA_from dX12_relax_17 rfl (by decide) (by omega) (fun y26 by26 => ?_)
    refine r_goto (pc := 18) (tgt := 28) dX12_relax_18 (by decide) ?_
    refine Rn.pick (lv' := [(0, .ref y), (1, .int (iv x1)), (2, .int (iv x2)), (3, .int (iv x3)), (4, .int (iv y3))]) [1, 2, 3, 4, 0] rfl ?_
    exact B28 _ ht2 y26 ⟨by omega, by omega⟩
set_option maxHeartbeats 4000000 in
set_option maxRecDepth 100000 in
theorem t_X12_ends {D : va_G} {cI cJ cZ cT : ClassId} {lo b L : Nat} {xs : Nat → Int32} {hp : MH} {n d : Nat} {Γ : TG} {y : Nat} {rf cnt nm : Int32} {x1 x2 : Int} (hd0 : 1 ≤ d) (hO : rd Γ y (tO 11 (mdF y rf cnt nm))) (hA_directs : rd Γ (y + 3) (tI cZ 121 (rg 0 1))) (hA_many : rd Γ (y + 4) (tI cI 121 (rg 0 60))) (hA_from : rd Γ (y + 5) (tI cI 7260 (rg 0 15))) (hA_to : rd Γ (y + 6) (tI cI 7260 (rg 0 15))) (ht : Tw Γ hp) (hx1 : 0 ≤ x1 ∧ x1 ≤ 120) (hx2 : (-1) ≤ x2 ∧ x2 ≤ 15) : Mt (gG D cI cJ cZ cT lo b L xs) mX12_ends d 0 0 [.ref y, .int (iv x1), .int (iv x2)] hp n (pR Γ n (-2147483648) 2147483647) := by
  refine Mt.of rfl (Nat.le_of_ble_eq_true rfl) ?_
  refine Rn.pick (lv' := [(0, .ref y), (1, .int (iv x1)), (2, .int (iv x2))]) [0, 1, 2] rfl ?_
  refine r_iconst (pc := 0) (v := iv 0) dX12_ends_0 (by decide) ?_
  refine r_istore_n (pc := 1) (lv' := [(3, .int (iv 0)), (0, .ref y), (1, .int (iv x1)), (2, .int (iv x2))]) dX12_ends_1 (i := 3) rfl (by decide) rfl ?_
  refine r_iconst (pc := 2) (v := iv 0) dX12_ends_2 (by decide) ?_
  refine r_istore (pc := 3) (lv' := [(4, .int (iv 0)), (3, .int (iv 0)), (0, .ref y), (1, .int (iv x1)), (2, .int (iv x2))]) dX12_ends_3 (by decide) rfl ?_
  have B5 : ∀ k : Nat, ∀ hp5 : MH, Tw Γ hp5 → ∀  (v5_3 : Int) (v5_4 : Int), (-2147483648) ≤ v5_3 ∧ v5_3 ≤ 2147483647 ∧ 0 ≤ v5_4 ∧ v5_4 ≤ 60 → 60 - v5_4 ≤ (k : Int) → Rn (gG D cI cJ cZ cT lo b L xs) mX12_ends d 5 [(0, .ref y), (1, .int (iv x1)), (2, .int (iv x2)), (3, .int (iv v5_3)), (4, .int (iv v5_4))] [] hp5 n 0 0 (pR Γ n (-2147483648) 2147483647) := by
    refine lpS _ ?_
    intro k5 ih5 hp5 ht5 v5_3 v5_4 hf5 hm5
    refine r_iload (pc := 5) dX12_ends_5 rfl ?_
    refine r_aload_n (pc := 7) dX12_ends_7 (i := 0) rfl rfl ?_
    refine t_getE (pc := 8) (.ref (y + 4)) ht5 hO fX12_20 dX12_ends_8 rfl ?_
    refine r_iload_n (pc := 11) dX12_ends_11 (i := 1) rfl rfl ?_
    refine t_ialdR (pc := 12) (t0 := 0) ht5 hA_many dX12_ends_12 rfl (by decide) (by omega) (fun y1 by1 => ?_)
    refine t_icmp_ge (pc := 13) (tgt := 81) dX12_ends_13 (by decide) (by omega) (by omega) (fun c13 => ?_) (fun c13 => ?_)
    · refine r_iload_n (pc := 81) dX12_ends_81 (i := 3) rfl rfl ?_
      exact r_iret (pc := 82) dX12_ends_82 rfl ⟨rfl, ht5, _, rfl, by omega, by omega⟩
    · refine r_iload_n (pc := 16) dX12_ends_16 (i := 1) rfl rfl ?_
      refine r_iload (pc := 17) dX12_ends_17 rfl ?_
      refine t_callSR (pc := 19) (as := [.int (iv x1), .int (iv v5_4)]) (st := []) kX12_157 dX12_ends_19 (t_X12_at1 (d := d - 1) (x1 := x1) (x2 := v5_4) (by omega)  ht5 (by omega) (by omega)) rfl (by omega) (Nat.le_of_ble_eq_true rfl) rfl (fun hp2 y4 ht3 by4 => ?_)
      refine r_istore (pc := 22) (lv' := [(5, .int (iv y4)), (0, .ref y), (1, .int (iv x1)), (2, .int (iv x2)), (3, .int (iv v5_3)), (4, .int (iv v5_4))]) dX12_ends_22 (by decide) rfl ?_
      refine r_iload_n (pc := 24) dX12_ends_24 (i := 3) rfl rfl ?_
      refine r_aload_n (pc := 25) dX12_ends_25 (i := 0) rfl rfl ?_
      refine t_getE (pc := 26) (.ref (y + 5)) ht3 hO fX12_23 dX12_ends_26 rfl ?_
      refine r_iload (pc := 29) dX12_ends_29 rfl ?_
      refine t_ialdR (pc := 31) (t0 := 0) ht3 hA_from dX12_ends_31 rfl (by decide) (by omega) (fun y5 by5 => ?_)
      refine r_iload_n (pc := 32) dX12_ends_32 (i := 2) rfl rfl ?_
      have B41 : ∀ hp41 : MH, Tw Γ hp41 → ∀  (u41_1 : Int), 0 ≤ u41_1 ∧ u41_1 ≤ 1 → Rn (gG D cI cJ cZ cT lo b L xs) mX12_ends d 41 [(0, .ref y), (1, .int (iv x1)), (2, .int (iv x2)), (4, .int (iv v5_4)), (5, .int (iv y4))] [.int (iv u41_1), .int (iv v5_3)] hp41 n 0 0 (pR Γ n (-2147483648) 2147483647) := by
        intro hp41 ht41 u41_1 hf41
        refine r_aload_n (pc := 41) dX12_ends_41 (i := 0) rfl rfl ?_
        refine t_getE (pc := 42) (.ref (y + 6)) ht41 hO fX12_26 dX12_ends_42 rfl ?_
        refine r_iload (pc := 45) dX12_ends_45 rfl ?_
        refine t_ialdR (pc := 47) (t0 := 0) ht41 hA_to dX12_ends_47 rfl (by decide) (by omega) (fun y6 by6 => ?_)
        refine r_iload_n (pc := 48) dX12_ends_48 (i := 2) rfl rfl ?_
        have B72 : ∀ hp72 : MH, Tw Γ hp72 → ∀  (u72_2 : Int), 0 ≤ u72_2 ∧ u72_2 ≤ 1000 → Rn (gG D cI cJ cZ cT lo b L xs) mX12_ends d 72 [(0, .ref y), (1, .int (iv x1)), (2, .int (iv x2)), (4, .int (iv v5_4))] [.int (iv u72_2), .int (iv u41_1), .int (iv v5_3)] hp72 n 0 0 (pR Γ n (-2147483648) 2147483647) := by
          intro hp72 ht72 u72_2 hf72
          refine r_iadd (pc := 72) (v := iv (u41_1 + u72_2)) dX12_ends_72 (iv_add _ _) ?_
          obtain ⟨z7, hz7, bz7⟩ := any_i (iv v5_3 + iv (u41_1 + u72_2))
          refine r_iadd (pc := 73) (v := iv z7) dX12_ends_73 hz7 ?_
          refine r_istore_n (pc := 74) (lv' := [(3, .int (iv z7)), (0, .ref y), (1, .int (iv x1)), (2, .int (iv x2)), (4, .int (iv v5_4))]) dX12_ends_74 (i := 3) rfl (by decide) rfl ?_
          refine r_iinc (pc := 75) (v := iv (v5_4 + 1)) (lv' := [(4, .int (iv (v5_4 + 1))), (3, .int (iv z7)), (0, .ref y), (1, .int (iv x1)), (2, .int (iv x2))]) dX12_ends_75 rfl (iv_add _ _) (by decide) rfl ?_
          refine r_goto (pc := 78) (tgt := 5) dX12_ends_78 (by decide) ?_
          refine Rn.pick (lv' := [(0, .ref y), (1, .int (iv x1)), (2, .int (iv x2)), (3, .int (iv z7)), (4, .int (iv (v5_4 + 1)))]) [2, 3, 4, 1, 0] rfl ?_
          exact ih5 (Int.toNat (60 - (v5_4 + 1))) (by omega) _ ht72 z7 (v5_4 + 1) ⟨by omega, by omega, by omega, by omega⟩ (by omega)
        refine t_icmp_ne (pc := 49) (tgt := 71) dX12_ends_49 (by decide) (by omega) (by omega) (fun c49 => ?_) (fun c49 => ?_)
        · refine r_iconst (pc := 71) (v := iv 0) dX12_ends_71 (by decide) ?_
          refine Rn.pick (lv' := [(0, .ref y), (1, .int (iv x1)), (2, .int (iv x2)), (4, .int (iv v5_4))]) [0, 1, 2, 3] rfl ?_
          exact B72 _ ht41 0 ⟨by omega, by omega⟩
        · refine r_aload_n (pc := 52) dX12_ends_52 (i := 0) rfl rfl ?_
          refine t_getE (pc := 53) (.ref (y + 3)) ht41 hO fX12_16 dX12_ends_53 rfl ?_
          refine r_iload_n (pc := 56) dX12_ends_56 (i := 1) rfl rfl ?_
          refine t_zaldR (pc := 57) (t0 := 2) ht41 hA_directs dX12_ends_57 rfl (by decide) (by omega) (fun y8 by8 => ?_)
          refine t_if_eq (pc := 58) (tgt := 67) dX12_ends_58 (by decide) (by omega) (fun c58 => ?_) (fun c58 => ?_)
          · refine r_iconst (pc := 67) (v := iv 1) dX12_ends_67 (by decide) ?_
            refine r_goto (pc := 68) (tgt := 72) dX12_ends_68 (by decide) ?_
            refine Rn.pick (lv' := [(0, .ref y), (1, .int (iv x1)), (2, .int (iv x2)), (4, .int (iv v5_4))]) [0, 1, 2, 3] rfl ?_
            exact B72 _ ht41 1 ⟨by omega, by omega⟩
          · refine r_sipush (pc := 61) (v := iv 1000) dX12_ends_61 (by decide) ?_
            refine r_goto (pc := 64) (tgt := 72) dX12_ends_64 (by decide) ?_
            refine Rn.pick (lv' := [(0, .ref y), (1, .int (iv x1)), (2, .int (iv x2)), (4, .int (iv v5_4))]) [0, 1, 2, 3] rfl ?_
            exact B72 _ ht41 1000 ⟨by omega, by omega⟩
      refine t_icmp_ne (pc := 33) (tgt := 40) dX12_ends_33 (by decide) (by omega) (by omega) (fun c33 => ?_) (fun c33 => ?_)
      · refine r_iconst (pc := 40) (v := iv 0) dX12_ends_40 (by decide) ?_
        refine Rn.pick (lv' := [(0, .ref y), (1, .int (iv x1)), (2, .int (iv x2)), (4, .int (iv v5_4)), (5, .int (iv y4))]) [1, 2, 3, 5, 0] rfl ?_
        exact B41 _ ht3 0 ⟨by omega, by omega⟩
      · refine r_iconst (pc := 36) (v := iv 1) dX12_ends_36 (by decide) ?_
        refine r_goto (pc := 37) (tgt := 41) dX12_ends_37 (by decide) ?_
        refine Rn.pick (lv' := [(0, .ref y), (1, .int (iv x1)), (2, .int (iv x2)), (4, .int (iv v5_4)), (5, .int (iv y4))]) [1, 2, 3, 5, 0] rfl ?_
        exact B41 _ ht3 1 ⟨by omega, by omega⟩
  refine Rn.pick (lv' := [(0, .ref y), (1, .int (iv x1)), (2, .int (iv x2)), (3, .int (iv 0)), (4, .int (iv 0))]) [2, 3, 4, 1, 0] rfl ?_
  exact B5 (Int.toNat (60 - 0)) _ ht 0 0 ⟨by omega, by omega, by omega, by omega⟩ (by omega)
set_option maxHeartbeats 4000000 in
set_option maxRecDepth 100000 in
theorem t_X12_times {D : va_G} {cI cJ cZ cT : ClassId} {lo b L : Nat} {xs : Nat → Int32} {hp : MH} {n d : Nat} {Γ : TG} {y : Nat} {rf cnt nm : Int32} {x1 x2 x3 x4 x5 : Int} (hd0 : 1 ≤ d) (hO : rd Γ y (tO 11 (mdF y rf cnt nm))) (hA_directs : rd Γ (y + 3) (tI cZ 121 (rg 0 1))) (hA_many : rd Γ (y + 4) (tI cI 121 (rg 0 60))) (hA_from : rd Γ (y + 5) (tI cI 7260 (rg 0 15))) (hA_to : rd Γ (y + 6) (tI cI 7260 (rg 0 15))) (hA_weight : rd Γ (y + 7) (tI cI 7260 (rg (-1000) 1000))) (hA_cost : rd Γ (y + 8) (tI cI 7260 (rg (-1000) 1000))) (ht : Tw Γ hp) (hx1 : 0 ≤ x1 ∧ x1 ≤ 120) (hx2 : (-1) ≤ x2 ∧ x2 ≤ 15) (hx3 : (-1) ≤ x3 ∧ x3 ≤ 15) (hx4 : (-2147483648) ≤ x4 ∧ x4 ≤ 2147483647) (hx5 : (-2147483648) ≤ x5 ∧ x5 ≤ 2147483647) : Mt (gG D cI cJ cZ cT lo b L xs) mX12_times d 0 0 [.ref y, .int (iv x1), .int (iv x2), .int (iv x3), .int (iv x4), .int (iv x5)] hp n (pR Γ n (-2147483648) 2147483647) := by
  refine Mt.of rfl (Nat.le_of_ble_eq_true rfl) ?_
  refine Rn.pick (lv' := [(0, .ref y), (1, .int (iv x1)), (2, .int (iv x2)), (3, .int (iv x3)), (4, .int (iv x4)), (5, .int (iv x5))]) [0, 1, 2, 3, 4, 5] rfl ?_
  refine r_iconst (pc := 0) (v := iv 0) dX12_times_0 (by decide) ?_
  refine r_istore (pc := 1) (lv' := [(6, .int (iv 0)), (0, .ref y), (1, .int (iv x1)), (2, .int (iv x2)), (3, .int (iv x3)), (4, .int (iv x4)), (5, .int (iv x5))]) dX12_times_1 (by decide) rfl ?_
  refine r_iconst (pc := 3) (v := iv 0) dX12_times_3 (by decide) ?_
  refine r_istore (pc := 4) (lv' := [(7, .int (iv 0)), (6, .int (iv 0)), (0, .ref y), (1, .int (iv x1)), (2, .int (iv x2)), (3, .int (iv x3)), (4, .int (iv x4)), (5, .int (iv x5))]) dX12_times_4 (by decide) rfl ?_
  have B6 : ∀ k : Nat, ∀ hp6 : MH, Tw Γ hp6 → ∀  (v6_6 : Int) (v6_7 : Int), (-2147483648) ≤ v6_6 ∧ v6_6 ≤ 2147483647 ∧ 0 ≤ v6_7 ∧ v6_7 ≤ 60 → 60 - v6_7 ≤ (k : Int) → Rn (gG D cI cJ cZ cT lo b L xs) mX12_times d 6 [(0, .ref y), (1, .int (iv x1)), (2, .int (iv x2)), (3, .int (iv x3)), (4, .int (iv x4)), (5, .int (iv x5)), (6, .int (iv v6_6)), (7, .int (iv v6_7))] [] hp6 n 0 0 (pR Γ n (-2147483648) 2147483647) := by
    refine lpS _ ?_
    intro k6 ih6 hp6 ht6 v6_6 v6_7 hf6 hm6
    refine r_iload (pc := 6) dX12_times_6 rfl ?_
    refine r_aload_n (pc := 8) dX12_times_8 (i := 0) rfl rfl ?_
    refine t_getE (pc := 9) (.ref (y + 4)) ht6 hO fX12_20 dX12_times_9 rfl ?_
    refine r_iload_n (pc := 12) dX12_times_12 (i := 1) rfl rfl ?_
    refine t_ialdR (pc := 13) (t0 := 0) ht6 hA_many dX12_times_13 rfl (by decide) (by omega) (fun y1 by1 => ?_)
    refine t_icmp_ge (pc := 14) (tgt := 130) dX12_times_14 (by decide) (by omega) (by omega) (fun c14 => ?_) (fun c14 => ?_)
    · refine r_iload (pc := 130) dX12_times_130 rfl ?_
      exact r_iret (pc := 132) dX12_times_132 rfl ⟨rfl, ht6, _, rfl, by omega, by omega⟩
    · refine r_iload_n (pc := 17) dX12_times_17 (i := 1) rfl rfl ?_
      refine r_iload (pc := 18) dX12_times_18 rfl ?_
      refine t_callSR (pc := 20) (as := [.int (iv x1), .int (iv v6_7)]) (st := []) kX12_157 dX12_times_20 (t_X12_at1 (d := d - 1) (x1 := x1) (x2 := v6_7) (by omega)  ht6 (by omega) (by omega)) rfl (by omega) (Nat.le_of_ble_eq_true rfl) rfl (fun hp2 y4 ht3 by4 => ?_)
      refine r_istore (pc := 23) (lv' := [(8, .int (iv y4)), (0, .ref y), (1, .int (iv x1)), (2, .int (iv x2)), (3, .int (iv x3)), (4, .int (iv x4)), (5, .int (iv x5)), (6, .int (iv v6_6)), (7, .int (iv v6_7))]) dX12_times_23 (by decide) rfl ?_
      refine r_aload_n (pc := 25) dX12_times_25 (i := 0) rfl rfl ?_
      refine t_getE (pc := 26) (.ref (y + 5)) ht3 hO fX12_23 dX12_times_26 rfl ?_
      refine r_iload (pc := 29) dX12_times_29 rfl ?_
      refine t_ialdR (pc := 31) (t0 := 0) ht3 hA_from dX12_times_31 rfl (by decide) (by omega) (fun y5 by5 => ?_)
      refine r_iload_n (pc := 32) dX12_times_32 (i := 2) rfl rfl ?_
      have B83 : ∀ hp83 : MH, Tw Γ hp83 → ∀  (u83_0 : Int), 0 ≤ u83_0 ∧ u83_0 ≤ 1 → Rn (gG D cI cJ cZ cT lo b L xs) mX12_times d 83 [(0, .ref y), (1, .int (iv x1)), (2, .int (iv x2)), (3, .int (iv x3)), (4, .int (iv x4)), (5, .int (iv x5)), (6, .int (iv v6_6)), (7, .int (iv v6_7)), (8, .int (iv y4))] [.int (iv u83_0)] hp83 n 0 0 (pR Γ n (-2147483648) 2147483647) := by
        intro hp83 ht83 u83_0 hf83
        refine r_istore (pc := 83) (lv' := [(9, .int (iv u83_0)), (0, .ref y), (1, .int (iv x1)), (2, .int (iv x2)), (3, .int (iv x3)), (4, .int (iv x4)), (5, .int (iv x5)), (6, .int (iv v6_6)), (7, .int (iv v6_7)), (8, .int (iv y4))]) dX12_times_83 (by decide) rfl ?_
        refine r_iload (pc := 85) dX12_times_85 rfl ?_
        refine r_iload (pc := 87) dX12_times_87 rfl ?_
        have B121 : ∀ hp121 : MH, Tw Γ hp121 → ∀  (u121_1 : Int), 0 ≤ u121_1 ∧ u121_1 ≤ 1 → Rn (gG D cI cJ cZ cT lo b L xs) mX12_times d 121 [(0, .ref y), (1, .int (iv x1)), (2, .int (iv x2)), (3, .int (iv x3)), (4, .int (iv x4)), (5, .int (iv x5)), (7, .int (iv v6_7))] [.int (iv u121_1), .int (iv v6_6)] hp121 n 0 0 (pR Γ n (-2147483648) 2147483647) := by
          intro hp121 ht121 u121_1 hf121
          obtain ⟨z6, hz6, bz6⟩ := any_i (iv v6_6 + iv u121_1)
          refine r_iadd (pc := 121) (v := iv z6) dX12_times_121 hz6 ?_
          refine r_istore (pc := 122) (lv' := [(6, .int (iv z6)), (0, .ref y), (1, .int (iv x1)), (2, .int (iv x2)), (3, .int (iv x3)), (4, .int (iv x4)), (5, .int (iv x5)), (7, .int (iv v6_7))]) dX12_times_122 (by decide) rfl ?_
          refine r_iinc (pc := 124) (v := iv (v6_7 + 1)) (lv' := [(7, .int (iv (v6_7 + 1))), (6, .int (iv z6)), (0, .ref y), (1, .int (iv x1)), (2, .int (iv x2)), (3, .int (iv x3)), (4, .int (iv x4)), (5, .int (iv x5))]) dX12_times_124 rfl (iv_add _ _) (by decide) rfl ?_
          refine r_goto (pc := 127) (tgt := 6) dX12_times_127 (by decide) ?_
          refine Rn.pick (lv' := [(0, .ref y), (1, .int (iv x1)), (2, .int (iv x2)), (3, .int (iv x3)), (4, .int (iv x4)), (5, .int (iv x5)), (6, .int (iv z6)), (7, .int (iv (v6_7 + 1)))]) [2, 3, 4, 5, 6, 7, 1, 0] rfl ?_
          exact ih6 (Int.toNat (60 - (v6_7 + 1))) (by omega) _ ht121 z6 (v6_7 + 1) ⟨by omega, by omega, by omega, by omega⟩ (by omega)
        have B120 : ∀ hp120 : MH, Tw Γ hp120 → True → Rn (gG D cI cJ cZ cT lo b L xs) mX12_times d 120 [(0, .ref y), (1, .int (iv x1)), (2, .int (iv x2)), (3, .int (iv x3)), (4, .int (iv x4)), (5, .int (iv x5)), (7, .int (iv v6_7))] [.int (iv v6_6)] hp120 n 0 0 (pR Γ n (-2147483648) 2147483647) := by
          intro hp120 ht120 hf120
          refine r_iconst (pc := 120) (v := iv 0) dX12_times_120 (by decide) ?_
          refine Rn.pick (lv' := [(0, .ref y), (1, .int (iv x1)), (2, .int (iv x2)), (3, .int (iv x3)), (4, .int (iv x4)), (5, .int (iv x5)), (7, .int (iv v6_7))]) [0, 1, 2, 3, 4, 5, 6] rfl ?_
          exact B121 _ ht120 0 ⟨by omega, by omega⟩
        refine t_if_eq (pc := 89) (tgt := 120) dX12_times_89 (by decide) (by omega) (fun c89 => ?_) (fun c89 => ?_)
        · refine Rn.pick (lv' := [(0, .ref y), (1, .int (iv x1)), (2, .int (iv x2)), (3, .int (iv x3)), (4, .int (iv x4)), (5, .int (iv x5)), (7, .int (iv v6_7))]) [1, 2, 3, 4, 5, 6, 8] rfl ?_
          exact B120 _ ht83 trivial
        · refine r_aload_n (pc := 92) dX12_times_92 (i := 0) rfl rfl ?_
          refine t_getE (pc := 93) (.ref (y + 7)) ht83 hO fX12_29 dX12_times_93 rfl ?_
          refine r_iload (pc := 96) dX12_times_96 rfl ?_
          refine t_ialdR (pc := 98) (t0 := 0) ht83 hA_weight dX12_times_98 rfl (by decide) (by omega) (fun y7 by7 => ?_)
          refine r_iload (pc := 99) dX12_times_99 rfl ?_
          refine t_icmp_ne (pc := 101) (tgt := 120) dX12_times_101 (by decide) (by omega) (by omega) (fun c101 => ?_) (fun c101 => ?_)
          · refine Rn.pick (lv' := [(0, .ref y), (1, .int (iv x1)), (2, .int (iv x2)), (3, .int (iv x3)), (4, .int (iv x4)), (5, .int (iv x5)), (7, .int (iv v6_7))]) [1, 2, 3, 4, 5, 6, 8] rfl ?_
            exact B120 _ ht83 trivial
          · refine r_aload_n (pc := 104) dX12_times_104 (i := 0) rfl rfl ?_
            refine t_getE (pc := 105) (.ref (y + 8)) ht83 hO fX12_32 dX12_times_105 rfl ?_
            refine r_iload (pc := 108) dX12_times_108 rfl ?_
            refine t_ialdR (pc := 110) (t0 := 0) ht83 hA_cost dX12_times_110 rfl (by decide) (by omega) (fun y8 by8 => ?_)
            refine r_iload (pc := 111) dX12_times_111 rfl ?_
            refine t_icmp_ne (pc := 113) (tgt := 120) dX12_times_113 (by decide) (by omega) (by omega) (fun c113 => ?_) (fun c113 => ?_)
            · refine Rn.pick (lv' := [(0, .ref y), (1, .int (iv x1)), (2, .int (iv x2)), (3, .int (iv x3)), (4, .int (iv x4)), (5, .int (iv x5)), (7, .int (iv v6_7))]) [1, 2, 3, 4, 5, 6, 8] rfl ?_
              exact B120 _ ht83 trivial
            · refine r_iconst (pc := 116) (v := iv 1) dX12_times_116 (by decide) ?_
              refine r_goto (pc := 117) (tgt := 121) dX12_times_117 (by decide) ?_
              refine Rn.pick (lv' := [(0, .ref y), (1, .int (iv x1)), (2, .int (iv x2)), (3, .int (iv x3)), (4, .int (iv x4)), (5, .int (iv x5)), (7, .int (iv v6_7))]) [1, 2, 3, 4, 5, 6, 8] rfl ?_
              exact B121 _ ht83 1 ⟨by omega, by omega⟩
      have B78 : ∀ hp78 : MH, Tw Γ hp78 → 0 ≤ x2 ∧ 0 ≤ x3 → Rn (gG D cI cJ cZ cT lo b L xs) mX12_times d 78 [(0, .ref y), (1, .int (iv x1)), (2, .int (iv x2)), (3, .int (iv x3)), (4, .int (iv x4)), (5, .int (iv x5)), (6, .int (iv v6_6)), (7, .int (iv v6_7)), (8, .int (iv y4))] [] hp78 n 0 0 (pR Γ n (-2147483648) 2147483647) := by
        intro hp78 ht78 hf78
        refine r_iconst (pc := 78) (v := iv 1) dX12_times_78 (by decide) ?_
        refine r_goto (pc := 79) (tgt := 83) dX12_times_79 (by decide) ?_
        refine Rn.pick (lv' := [(0, .ref y), (1, .int (iv x1)), (2, .int (iv x2)), (3, .int (iv x3)), (4, .int (iv x4)), (5, .int (iv x5)), (6, .int (iv v6_6)), (7, .int (iv v6_7)), (8, .int (iv y4))]) [0, 1, 2, 3, 4, 5, 6, 7, 8] rfl ?_
        exact B83 _ ht78 1 ⟨by omega, by omega⟩
      have B47 : ∀ hp47 : MH, Tw Γ hp47 → True → Rn (gG D cI cJ cZ cT lo b L xs) mX12_times d 47 [(0, .ref y), (1, .int (iv x1)), (2, .int (iv x2)), (3, .int (iv x3)), (4, .int (iv x4)), (5, .int (iv x5)), (6, .int (iv v6_6)), (7, .int (iv v6_7)), (8, .int (iv y4))] [] hp47 n 0 0 (pR Γ n (-2147483648) 2147483647) := by
        intro hp47 ht47 hf47
        refine r_aload_n (pc := 47) dX12_times_47 (i := 0) rfl rfl ?_
        refine t_getE (pc := 48) (.ref (y + 3)) ht47 hO fX12_16 dX12_times_48 rfl ?_
        refine r_iload_n (pc := 51) dX12_times_51 (i := 1) rfl rfl ?_
        refine t_zaldR (pc := 52) (t0 := 2) ht47 hA_directs dX12_times_52 rfl (by decide) (by omega) (fun y9 by9 => ?_)
        have B82 : ∀ hp82 : MH, Tw Γ hp82 → True → Rn (gG D cI cJ cZ cT lo b L xs) mX12_times d 82 [(0, .ref y), (1, .int (iv x1)), (2, .int (iv x2)), (3, .int (iv x3)), (4, .int (iv x4)), (5, .int (iv x5)), (6, .int (iv v6_6)), (7, .int (iv v6_7)), (8, .int (iv y4))] [] hp82 n 0 0 (pR Γ n (-2147483648) 2147483647) := by
          intro hp82 ht82 hf82
          refine r_iconst (pc := 82) (v := iv 0) dX12_times_82 (by decide) ?_
          refine Rn.pick (lv' := [(0, .ref y), (1, .int (iv x1)), (2, .int (iv x2)), (3, .int (iv x3)), (4, .int (iv x4)), (5, .int (iv x5)), (6, .int (iv v6_6)), (7, .int (iv v6_7)), (8, .int (iv y4))]) [0, 1, 2, 3, 4, 5, 6, 7, 8] rfl ?_
          exact B83 _ ht82 0 ⟨by omega, by omega⟩
        refine t_if_ne (pc := 53) (tgt := 82) dX12_times_53 (by decide) (by omega) (fun c53 => ?_) (fun c53 => ?_)
        · refine Rn.pick (lv' := [(0, .ref y), (1, .int (iv x1)), (2, .int (iv x2)), (3, .int (iv x3)), (4, .int (iv x4)), (5, .int (iv x5)), (6, .int (iv v6_6)), (7, .int (iv v6_7)), (8, .int (iv y4))]) [0, 1, 2, 3, 4, 5, 6, 7, 8] rfl ?_
          exact B82 _ ht47 trivial
        · refine r_aload_n (pc := 56) dX12_times_56 (i := 0) rfl rfl ?_
          refine t_getE (pc := 57) (.ref (y + 5)) ht47 hO fX12_23 dX12_times_57 rfl ?_
          refine r_iload (pc := 60) dX12_times_60 rfl ?_
          refine t_ialdR (pc := 62) (t0 := 0) ht47 hA_from dX12_times_62 rfl (by decide) (by omega) (fun y10 by10 => ?_)
          refine r_iload_n (pc := 63) dX12_times_63 (i := 3) rfl rfl ?_
          refine t_icmp_ne (pc := 64) (tgt := 82) dX12_times_64 (by decide) (by omega) (by omega) (fun c64 => ?_) (fun c64 => ?_)
          · refine Rn.pick (lv' := [(0, .ref y), (1, .int (iv x1)), (2, .int (iv x2)), (3, .int (iv x3)), (4, .int (iv x4)), (5, .int (iv x5)), (6, .int (iv v6_6)), (7, .int (iv v6_7)), (8, .int (iv y4))]) [0, 1, 2, 3, 4, 5, 6, 7, 8] rfl ?_
            exact B82 _ ht47 trivial
          · refine r_aload_n (pc := 67) dX12_times_67 (i := 0) rfl rfl ?_
            refine t_getE (pc := 68) (.ref (y + 6)) ht47 hO fX12_26 dX12_times_68 rfl ?_
            refine r_iload (pc := 71) dX12_times_71 rfl ?_
            refine t_ialdR (pc := 73) (t0 := 0) ht47 hA_to dX12_times_73 rfl (by decide) (by omega) (fun y11 by11 => ?_)
            refine r_iload_n (pc := 74) dX12_times_74 (i := 2) rfl rfl ?_
            refine t_icmp_ne (pc := 75) (tgt := 82) dX12_times_75 (by decide) (by omega) (by omega) (fun c75 => ?_) (fun c75 => ?_)
            · refine Rn.pick (lv' := [(0, .ref y), (1, .int (iv x1)), (2, .int (iv x2)), (3, .int (iv x3)), (4, .int (iv x4)), (5, .int (iv x5)), (6, .int (iv v6_6)), (7, .int (iv v6_7)), (8, .int (iv y4))]) [0, 1, 2, 3, 4, 5, 6, 7, 8] rfl ?_
              exact B82 _ ht47 trivial
            · refine Rn.pick (lv' := [(0, .ref y), (1, .int (iv x1)), (2, .int (iv x2)), (3, .int (iv x3)), (4, .int (iv x4)), (5, .int (iv x5)), (6, .int (iv v6_6)), (7, .int (iv v6_7)), (8, .int (iv y4))]) [0, 1, 2, 3, 4, 5, 6, 7, 8] rfl ?_
              exact B78 _ ht47 ⟨by omega, by omega⟩
      refine t_icmp_ne (pc := 33) (tgt := 47) dX12_times_33 (by decide) (by omega) (by omega) (fun c33 => ?_) (fun c33 => ?_)
      · refine Rn.pick (lv' := [(0, .ref y), (1, .int (iv x1)), (2, .int (iv x2)), (3, .int (iv x3)), (4, .int (iv x4)), (5, .int (iv x5)), (6, .int (iv v6_6)), (7, .int (iv v6_7)), (8, .int (iv y4))]) [1, 2, 3, 4, 5, 6, 7, 8, 0] rfl ?_
        exact B47 _ ht3 trivial
      · refine r_aload_n (pc := 36) dX12_times_36 (i := 0) rfl rfl ?_
        refine t_getE (pc := 37) (.ref (y + 6)) ht3 hO fX12_26 dX12_times_37 rfl ?_
        refine r_iload (pc := 40) dX12_times_40 rfl ?_
        refine t_ialdR (pc := 42) (t0 := 0) ht3 hA_to dX12_times_42 rfl (by decide) (by omega) (fun y12 by12 => ?_)
        refine r_iload_n (pc := 43) dX12_times_43 (i := 3) rfl rfl ?_
        refine t_icmp_eq (pc := 44) (tgt := 78) dX12_times_44 (by decide) (by omega) (by omega) (fun c44 => ?_) (fun c44 => ?_)
        · refine Rn.pick (lv' := [(0, .ref y), (1, .int (iv x1)), (2, .int (iv x2)), (3, .int (iv x3)), (4, .int (iv x4)), (5, .int (iv x5)), (6, .int (iv v6_6)), (7, .int (iv v6_7)), (8, .int (iv y4))]) [1, 2, 3, 4, 5, 6, 7, 8, 0] rfl ?_
          exact B78 _ ht3 ⟨by omega, by omega⟩
        · refine Rn.pick (lv' := [(0, .ref y), (1, .int (iv x1)), (2, .int (iv x2)), (3, .int (iv x3)), (4, .int (iv x4)), (5, .int (iv x5)), (6, .int (iv v6_6)), (7, .int (iv v6_7)), (8, .int (iv y4))]) [1, 2, 3, 4, 5, 6, 7, 8, 0] rfl ?_
          exact B47 _ ht3 trivial
  refine Rn.pick (lv' := [(0, .ref y), (1, .int (iv x1)), (2, .int (iv x2)), (3, .int (iv x3)), (4, .int (iv x4)), (5, .int (iv x5)), (6, .int (iv 0)), (7, .int (iv 0))]) [2, 3, 4, 5, 6, 7, 1, 0] rfl ?_
  exact B6 (Int.toNat (60 - 0)) _ ht 0 0 ⟨by omega, by omega, by omega, by omega⟩ (by omega)
set_option maxHeartbeats 4000000 in
set_option maxRecDepth 100000 in
theorem t_X12_fits {D : va_G} {cI cJ cZ cT : ClassId} {lo b L : Nat} {xs : Nat → Int32} {hp : MH} {n d : Nat} {Γ : TG} {y : Nat} {rf cnt nm : Int32} {x1 x2 x3 : Int} (hd0 : 2 ≤ d) (hO : rd Γ y (tO 11 (mdF y rf cnt nm))) (hA_directs : rd Γ (y + 3) (tI cZ 121 (rg 0 1))) (hA_many : rd Γ (y + 4) (tI cI 121 (rg 0 60))) (hA_from : rd Γ (y + 5) (tI cI 7260 (rg 0 15))) (hA_to : rd Γ (y + 6) (tI cI 7260 (rg 0 15))) (hA_weight : rd Γ (y + 7) (tI cI 7260 (rg (-1000) 1000))) (hA_cost : rd Γ (y + 8) (tI cI 7260 (rg (-1000) 1000))) (hA_image : rd Γ (y + 42) (tI cI 16 (rg (-1) 15))) (ht : Tw Γ hp) (hx1 : 0 ≤ x1 ∧ x1 ≤ 120) (hx2 : 0 ≤ x2 ∧ x2 ≤ 120) (hx3 : 0 ≤ x3 ∧ x3 ≤ 15) : Mt (gG D cI cJ cZ cT lo b L xs) mX12_fits d 0 0 [.ref y, .int (iv x1), .int (iv x2), .int (iv x3)] hp n (pR Γ n 0 1) := by
  refine Mt.of rfl (Nat.le_of_ble_eq_true rfl) ?_
  refine Rn.pick (lv' := [(0, .ref y), (1, .int (iv x1)), (2, .int (iv x2)), (3, .int (iv x3))]) [0, 1, 2, 3] rfl ?_
  refine r_aload_n (pc := 0) dX12_fits_0 (i := 0) rfl rfl ?_
  refine r_iload_n (pc := 1) dX12_fits_1 (i := 1) rfl rfl ?_
  refine r_iload_n (pc := 2) dX12_fits_2 (i := 3) rfl rfl ?_
  refine t_callVR (pc := 3) (as := [.int (iv x1), .int (iv x3)]) (st := []) ht hO kX12_394 rfl dX12_fits_3 (t_X12_ends (d := d - 1) (x1 := x1) (x2 := x3) (by omega) hO hA_directs hA_many hA_from hA_to ht (by omega) (by omega)) rfl (by omega) (Nat.le_of_ble_eq_true rfl) rfl (fun hp1 y3 ht2 by3 => ?_)
  refine r_aload_n (pc := 6) dX12_fits_6 (i := 0) rfl rfl ?_
  refine r_iload_n (pc := 7) dX12_fits_7 (i := 2) rfl rfl ?_
  refine r_aload_n (pc := 8) dX12_fits_8 (i := 0) rfl rfl ?_
  refine t_getE (pc := 9) (.ref (y + 42)) ht2 hO fX12_136 dX12_fits_9 rfl ?_
  refine r_iload_n (pc := 12) dX12_fits_12 (i := 3) rfl rfl ?_
  refine t_ialdR (pc := 13) (t0 := 0) ht2 hA_image dX12_fits_13 rfl (by decide) (by omega) (fun y4 by4 => ?_)
  refine t_callVR (pc := 14) (as := [.int (iv x2), .int (iv y4)]) (st := [.int (iv y3)]) ht2 hO kX12_394 rfl dX12_fits_14 (t_X12_ends (d := d - 1) (x1 := x2) (x2 := y4) (by omega) hO hA_directs hA_many hA_from hA_to ht2 (by omega) (by omega)) rfl (by omega) (Nat.le_of_ble_eq_true rfl) rfl (fun hp5 y7 ht6 by7 => ?_)
  refine t_icmp_eq (pc := 17) (tgt := 22) dX12_fits_17 (by decide) (by omega) (by omega) (fun c17 => ?_) (fun c17 => ?_)
  · refine r_iconst (pc := 22) (v := iv 0) dX12_fits_22 (by decide) ?_
    refine r_istore (pc := 23) (lv' := [(4, .int (iv 0)), (0, .ref y), (1, .int (iv x1)), (2, .int (iv x2)), (3, .int (iv x3))]) dX12_fits_23 (by decide) rfl ?_
    have B25 : ∀ k : Nat, ∀ hp25 : MH, Tw Γ hp25 → ∀  (v25_4 : Int), 0 ≤ v25_4 ∧ v25_4 ≤ 16 → 16 - v25_4 ≤ (k : Int) → Rn (gG D cI cJ cZ cT lo b L xs) mX12_fits d 25 [(0, .ref y), (1, .int (iv x1)), (2, .int (iv x2)), (3, .int (iv x3)), (4, .int (iv v25_4))] [] hp25 n 0 0 (pR Γ n 0 1) := by
      refine lpS _ ?_
      intro k25 ih25 hp25 ht25 v25_4 hf25 hm25
      refine r_iload (pc := 25) dX12_fits_25 rfl ?_
      refine r_iload_n (pc := 27) dX12_fits_27 (i := 3) rfl rfl ?_
      refine t_icmp_gt (pc := 28) (tgt := 387) dX12_fits_28 (by decide) (by omega) (by omega) (fun c28 => ?_) (fun c28 => ?_)
      · refine r_iconst (pc := 387) (v := iv 1) dX12_fits_387 (by decide) ?_
        exact r_zret (pc := 388) dX12_fits_388 rfl (iv_nar (by omega)) ⟨rfl, ht25, _, rfl, by omega, by omega⟩
      · refine r_iconst (pc := 31) (v := iv 0) dX12_fits_31 (by decide) ?_
        refine r_istore (pc := 32) (lv' := [(5, .int (iv 0)), (0, .ref y), (1, .int (iv x1)), (2, .int (iv x2)), (3, .int (iv x3)), (4, .int (iv v25_4))]) dX12_fits_32 (by decide) rfl ?_
        have B34 : ∀ k : Nat, ∀ hp34 : MH, Tw Γ hp34 → ∀  (v34_5 : Int), 0 ≤ v34_5 ∧ v34_5 ≤ 60 → 60 - v34_5 ≤ (k : Int) → Rn (gG D cI cJ cZ cT lo b L xs) mX12_fits d 34 [(0, .ref y), (1, .int (iv x1)), (2, .int (iv x2)), (3, .int (iv x3)), (4, .int (iv v25_4)), (5, .int (iv v34_5))] [] hp34 n 0 0 (pR Γ n 0 1) := by
          refine lpS _ ?_
          intro k34 ih34 hp34 ht34 v34_5 hf34 hm34
          refine r_iload (pc := 34) dX12_fits_34 rfl ?_
          refine r_aload_n (pc := 36) dX12_fits_36 (i := 0) rfl rfl ?_
          refine t_getE (pc := 37) (.ref (y + 4)) ht34 hO fX12_20 dX12_fits_37 rfl ?_
          refine r_iload_n (pc := 40) dX12_fits_40 (i := 1) rfl rfl ?_
          refine t_ialdR (pc := 41) (t0 := 0) ht34 hA_many dX12_fits_41 rfl (by decide) (by omega) (fun y8 by8 => ?_)
          refine t_icmp_ge (pc := 42) (tgt := 198) dX12_fits_42 (by decide) (by omega) (by omega) (fun c42 => ?_) (fun c42 => ?_)
          · refine r_iconst (pc := 198) (v := iv 0) dX12_fits_198 (by decide) ?_
            refine r_istore (pc := 199) (lv' := [(5, .int (iv 0)), (0, .ref y), (1, .int (iv x1)), (2, .int (iv x2)), (3, .int (iv x3)), (4, .int (iv v25_4))]) dX12_fits_199 (by decide) rfl ?_
            refine r_iconst (pc := 201) (v := iv 0) dX12_fits_201 (by decide) ?_
            refine r_istore (pc := 202) (lv' := [(6, .int (iv 0)), (5, .int (iv 0)), (0, .ref y), (1, .int (iv x1)), (2, .int (iv x2)), (3, .int (iv x3)), (4, .int (iv v25_4))]) dX12_fits_202 (by decide) rfl ?_
            refine r_iconst (pc := 204) (v := iv 0) dX12_fits_204 (by decide) ?_
            refine r_istore (pc := 205) (lv' := [(7, .int (iv 0)), (6, .int (iv 0)), (5, .int (iv 0)), (0, .ref y), (1, .int (iv x1)), (2, .int (iv x2)), (3, .int (iv x3)), (4, .int (iv v25_4))]) dX12_fits_205 (by decide) rfl ?_
            have B207 : ∀ k : Nat, ∀ hp207 : MH, Tw Γ hp207 → ∀  (v207_5 : Int) (v207_6 : Int) (v207_7 : Int), (-2147483648) ≤ v207_5 ∧ v207_5 ≤ 2147483647 ∧ (-2147483648) ≤ v207_6 ∧ v207_6 ≤ 2147483647 ∧ 0 ≤ v207_7 ∧ v207_7 ≤ 60 → 60 - v207_7 ≤ (k : Int) → Rn (gG D cI cJ cZ cT lo b L xs) mX12_fits d 207 [(0, .ref y), (1, .int (iv x1)), (2, .int (iv x2)), (3, .int (iv x3)), (4, .int (iv v25_4)), (5, .int (iv v207_5)), (6, .int (iv v207_6)), (7, .int (iv v207_7))] [] hp207 n 0 0 (pR Γ n 0 1) := by
              refine lpS _ ?_
              intro k207 ih207 hp207 ht207 v207_5 v207_6 v207_7 hf207 hm207
              refine r_iload (pc := 207) dX12_fits_207 rfl ?_
              refine r_aload_n (pc := 209) dX12_fits_209 (i := 0) rfl rfl ?_
              refine t_getE (pc := 210) (.ref (y + 4)) ht207 hO fX12_20 dX12_fits_210 rfl ?_
              refine r_iload_n (pc := 213) dX12_fits_213 (i := 1) rfl rfl ?_
              refine t_ialdR (pc := 214) (t0 := 0) ht207 hA_many dX12_fits_214 rfl (by decide) (by omega) (fun y9 by9 => ?_)
              refine t_icmp_ge (pc := 215) (tgt := 372) dX12_fits_215 (by decide) (by omega) (by omega) (fun c215 => ?_) (fun c215 => ?_)
              · refine r_iload (pc := 372) dX12_fits_372 rfl ?_
                refine r_iload (pc := 374) dX12_fits_374 rfl ?_
                refine t_icmp_eq (pc := 376) (tgt := 381) dX12_fits_376 (by decide) (by omega) (by omega) (fun c376 => ?_) (fun c376 => ?_)
                · refine r_iinc (pc := 381) (v := iv (v25_4 + 1)) (lv' := [(4, .int (iv (v25_4 + 1))), (0, .ref y), (1, .int (iv x1)), (2, .int (iv x2)), (3, .int (iv x3)), (5, .int (iv v207_5)), (6, .int (iv v207_6)), (7, .int (iv v207_7))]) dX12_fits_381 rfl (iv_add _ _) (by decide) rfl ?_
                  refine r_goto (pc := 384) (tgt := 25) dX12_fits_384 (by decide) ?_
                  refine Rn.pick (lv' := [(0, .ref y), (1, .int (iv x1)), (2, .int (iv x2)), (3, .int (iv x3)), (4, .int (iv (v25_4 + 1)))]) [1, 2, 3, 4, 0] rfl ?_
                  exact ih25 (Int.toNat (16 - (v25_4 + 1))) (by omega) _ ht207 (v25_4 + 1) ⟨by omega, by omega⟩ (by omega)
                · refine r_iconst (pc := 379) (v := iv 0) dX12_fits_379 (by decide) ?_
                  exact r_zret (pc := 380) dX12_fits_380 rfl (iv_nar (by omega)) ⟨rfl, ht207, _, rfl, by omega, by omega⟩
              · refine r_iload_n (pc := 218) dX12_fits_218 (i := 1) rfl rfl ?_
                refine r_iload (pc := 219) dX12_fits_219 rfl ?_
                refine t_callSR (pc := 221) (as := [.int (iv x1), .int (iv v207_7)]) (st := []) kX12_157 dX12_fits_221 (t_X12_at1 (d := d - 1) (x1 := x1) (x2 := v207_7) (by omega)  ht207 (by omega) (by omega)) rfl (by omega) (Nat.le_of_ble_eq_true rfl) rfl (fun hp10 y12 ht11 by12 => ?_)
                refine r_istore (pc := 224) (lv' := [(8, .int (iv y12)), (0, .ref y), (1, .int (iv x1)), (2, .int (iv x2)), (3, .int (iv x3)), (4, .int (iv v25_4)), (5, .int (iv v207_5)), (6, .int (iv v207_6)), (7, .int (iv v207_7))]) dX12_fits_224 (by decide) rfl ?_
                refine r_iload (pc := 226) dX12_fits_226 rfl ?_
                refine r_aload_n (pc := 228) dX12_fits_228 (i := 0) rfl rfl ?_
                refine t_getE (pc := 229) (.ref (y + 5)) ht11 hO fX12_23 dX12_fits_229 rfl ?_
                refine r_iload (pc := 232) dX12_fits_232 rfl ?_
                refine t_ialdR (pc := 234) (t0 := 0) ht11 hA_from dX12_fits_234 rfl (by decide) (by omega) (fun y13 by13 => ?_)
                refine r_iload (pc := 235) dX12_fits_235 rfl ?_
                have B279 : ∀ hp279 : MH, Tw Γ hp279 → ∀  (u279_1 : Int), 0 ≤ u279_1 ∧ u279_1 ≤ 1 → Rn (gG D cI cJ cZ cT lo b L xs) mX12_fits d 279 [(0, .ref y), (1, .int (iv x1)), (2, .int (iv x2)), (3, .int (iv x3)), (4, .int (iv v25_4)), (6, .int (iv v207_6)), (7, .int (iv v207_7))] [.int (iv u279_1), .int (iv v207_5)] hp279 n 0 0 (pR Γ n 0 1) := by
                  intro hp279 ht279 u279_1 hf279
                  obtain ⟨z14, hz14, bz14⟩ := any_i (iv v207_5 + iv u279_1)
                  refine r_iadd (pc := 279) (v := iv z14) dX12_fits_279 hz14 ?_
                  refine r_istore (pc := 280) (lv' := [(5, .int (iv z14)), (0, .ref y), (1, .int (iv x1)), (2, .int (iv x2)), (3, .int (iv x3)), (4, .int (iv v25_4)), (6, .int (iv v207_6)), (7, .int (iv v207_7))]) dX12_fits_280 (by decide) rfl ?_
                  refine r_iload_n (pc := 282) dX12_fits_282 (i := 2) rfl rfl ?_
                  refine r_iload (pc := 283) dX12_fits_283 rfl ?_
                  refine t_callSR (pc := 285) (as := [.int (iv x2), .int (iv v207_7)]) (st := []) kX12_157 dX12_fits_285 (t_X12_at1 (d := d - 1) (x1 := x2) (x2 := v207_7) (by omega)  ht279 (by omega) (by omega)) rfl (by omega) (Nat.le_of_ble_eq_true rfl) rfl (fun hp15 y17 ht16 by17 => ?_)
                  refine r_istore (pc := 288) (lv' := [(9, .int (iv y17)), (5, .int (iv z14)), (0, .ref y), (1, .int (iv x1)), (2, .int (iv x2)), (3, .int (iv x3)), (4, .int (iv v25_4)), (6, .int (iv v207_6)), (7, .int (iv v207_7))]) dX12_fits_288 (by decide) rfl ?_
                  refine r_iload (pc := 290) dX12_fits_290 rfl ?_
                  refine r_aload_n (pc := 292) dX12_fits_292 (i := 0) rfl rfl ?_
                  refine t_getE (pc := 293) (.ref (y + 5)) ht16 hO fX12_23 dX12_fits_293 rfl ?_
                  refine r_iload (pc := 296) dX12_fits_296 rfl ?_
                  refine t_ialdR (pc := 298) (t0 := 0) ht16 hA_from dX12_fits_298 rfl (by decide) (by omega) (fun y18 by18 => ?_)
                  refine r_aload_n (pc := 299) dX12_fits_299 (i := 0) rfl rfl ?_
                  refine t_getE (pc := 300) (.ref (y + 42)) ht16 hO fX12_136 dX12_fits_300 rfl ?_
                  refine r_iload (pc := 303) dX12_fits_303 rfl ?_
                  refine t_ialdR (pc := 305) (t0 := 0) ht16 hA_image dX12_fits_305 rfl (by decide) (by omega) (fun y19 by19 => ?_)
                  have B363 : ∀ hp363 : MH, Tw Γ hp363 → ∀  (u363_1 : Int), 0 ≤ u363_1 ∧ u363_1 ≤ 1 → Rn (gG D cI cJ cZ cT lo b L xs) mX12_fits d 363 [(0, .ref y), (1, .int (iv x1)), (2, .int (iv x2)), (3, .int (iv x3)), (4, .int (iv v25_4)), (5, .int (iv z14)), (7, .int (iv v207_7))] [.int (iv u363_1), .int (iv v207_6)] hp363 n 0 0 (pR Γ n 0 1) := by
                    intro hp363 ht363 u363_1 hf363
                    obtain ⟨z20, hz20, bz20⟩ := any_i (iv v207_6 + iv u363_1)
                    refine r_iadd (pc := 363) (v := iv z20) dX12_fits_363 hz20 ?_
                    refine r_istore (pc := 364) (lv' := [(6, .int (iv z20)), (0, .ref y), (1, .int (iv x1)), (2, .int (iv x2)), (3, .int (iv x3)), (4, .int (iv v25_4)), (5, .int (iv z14)), (7, .int (iv v207_7))]) dX12_fits_364 (by decide) rfl ?_
                    refine r_iinc (pc := 366) (v := iv (v207_7 + 1)) (lv' := [(7, .int (iv (v207_7 + 1))), (6, .int (iv z20)), (0, .ref y), (1, .int (iv x1)), (2, .int (iv x2)), (3, .int (iv x3)), (4, .int (iv v25_4)), (5, .int (iv z14))]) dX12_fits_366 rfl (iv_add _ _) (by decide) rfl ?_
                    refine r_goto (pc := 369) (tgt := 207) dX12_fits_369 (by decide) ?_
                    refine Rn.pick (lv' := [(0, .ref y), (1, .int (iv x1)), (2, .int (iv x2)), (3, .int (iv x3)), (4, .int (iv v25_4)), (5, .int (iv z14)), (6, .int (iv z20)), (7, .int (iv (v207_7 + 1)))]) [2, 3, 4, 5, 6, 7, 1, 0] rfl ?_
                    exact ih207 (Int.toNat (60 - (v207_7 + 1))) (by omega) _ ht363 z14 z20 (v207_7 + 1) ⟨by omega, by omega, by omega, by omega, by omega, by omega⟩ (by omega)
                  have B358 : ∀ hp358 : MH, Tw Γ hp358 → True → Rn (gG D cI cJ cZ cT lo b L xs) mX12_fits d 358 [(0, .ref y), (1, .int (iv x1)), (2, .int (iv x2)), (3, .int (iv x3)), (4, .int (iv v25_4)), (5, .int (iv z14)), (7, .int (iv v207_7))] [.int (iv v207_6)] hp358 n 0 0 (pR Γ n 0 1) := by
                    intro hp358 ht358 hf358
                    refine r_iconst (pc := 358) (v := iv 1) dX12_fits_358 (by decide) ?_
                    refine r_goto (pc := 359) (tgt := 363) dX12_fits_359 (by decide) ?_
                    refine Rn.pick (lv' := [(0, .ref y), (1, .int (iv x1)), (2, .int (iv x2)), (3, .int (iv x3)), (4, .int (iv v25_4)), (5, .int (iv z14)), (7, .int (iv v207_7))]) [0, 1, 2, 3, 4, 5, 6] rfl ?_
                    exact B363 _ ht358 1 ⟨by omega, by omega⟩
                  have B325 : ∀ hp325 : MH, Tw Γ hp325 → True → Rn (gG D cI cJ cZ cT lo b L xs) mX12_fits d 325 [(0, .ref y), (1, .int (iv x1)), (2, .int (iv x2)), (3, .int (iv x3)), (4, .int (iv v25_4)), (5, .int (iv z14)), (7, .int (iv v207_7)), (9, .int (iv y17))] [.int (iv v207_6)] hp325 n 0 0 (pR Γ n 0 1) := by
                    intro hp325 ht325 hf325
                    refine r_aload_n (pc := 325) dX12_fits_325 (i := 0) rfl rfl ?_
                    refine t_getE (pc := 326) (.ref (y + 5)) ht325 hO fX12_23 dX12_fits_326 rfl ?_
                    refine r_iload (pc := 329) dX12_fits_329 rfl ?_
                    refine t_ialdR (pc := 331) (t0 := 0) ht325 hA_from dX12_fits_331 rfl (by decide) (by omega) (fun y21 by21 => ?_)
                    refine r_aload_n (pc := 332) dX12_fits_332 (i := 0) rfl rfl ?_
                    refine t_getE (pc := 333) (.ref (y + 42)) ht325 hO fX12_136 dX12_fits_333 rfl ?_
                    refine r_iload_n (pc := 336) dX12_fits_336 (i := 3) rfl rfl ?_
                    refine t_ialdR (pc := 337) (t0 := 0) ht325 hA_image dX12_fits_337 rfl (by decide) (by omega) (fun y22 by22 => ?_)
                    have B362 : ∀ hp362 : MH, Tw Γ hp362 → True → Rn (gG D cI cJ cZ cT lo b L xs) mX12_fits d 362 [(0, .ref y), (1, .int (iv x1)), (2, .int (iv x2)), (3, .int (iv x3)), (4, .int (iv v25_4)), (5, .int (iv z14)), (7, .int (iv v207_7))] [.int (iv v207_6)] hp362 n 0 0 (pR Γ n 0 1) := by
                      intro hp362 ht362 hf362
                      refine r_iconst (pc := 362) (v := iv 0) dX12_fits_362 (by decide) ?_
                      refine Rn.pick (lv' := [(0, .ref y), (1, .int (iv x1)), (2, .int (iv x2)), (3, .int (iv x3)), (4, .int (iv v25_4)), (5, .int (iv z14)), (7, .int (iv v207_7))]) [0, 1, 2, 3, 4, 5, 6] rfl ?_
                      exact B363 _ ht362 0 ⟨by omega, by omega⟩
                    refine t_icmp_ne (pc := 338) (tgt := 362) dX12_fits_338 (by decide) (by omega) (by omega) (fun c338 => ?_) (fun c338 => ?_)
                    · refine Rn.pick (lv' := [(0, .ref y), (1, .int (iv x1)), (2, .int (iv x2)), (3, .int (iv x3)), (4, .int (iv v25_4)), (5, .int (iv z14)), (7, .int (iv v207_7))]) [0, 1, 2, 3, 4, 5, 6] rfl ?_
                      exact B362 _ ht325 trivial
                    · refine r_aload_n (pc := 341) dX12_fits_341 (i := 0) rfl rfl ?_
                      refine t_getE (pc := 342) (.ref (y + 6)) ht325 hO fX12_26 dX12_fits_342 rfl ?_
                      refine r_iload (pc := 345) dX12_fits_345 rfl ?_
                      refine t_ialdR (pc := 347) (t0 := 0) ht325 hA_to dX12_fits_347 rfl (by decide) (by omega) (fun y23 by23 => ?_)
                      refine r_aload_n (pc := 348) dX12_fits_348 (i := 0) rfl rfl ?_
                      refine t_getE (pc := 349) (.ref (y + 42)) ht325 hO fX12_136 dX12_fits_349 rfl ?_
                      refine r_iload (pc := 352) dX12_fits_352 rfl ?_
                      refine t_ialdR (pc := 354) (t0 := 0) ht325 hA_image dX12_fits_354 rfl (by decide) (by omega) (fun y24 by24 => ?_)
                      refine t_icmp_ne (pc := 355) (tgt := 362) dX12_fits_355 (by decide) (by omega) (by omega) (fun c355 => ?_) (fun c355 => ?_)
                      · refine Rn.pick (lv' := [(0, .ref y), (1, .int (iv x1)), (2, .int (iv x2)), (3, .int (iv x3)), (4, .int (iv v25_4)), (5, .int (iv z14)), (7, .int (iv v207_7))]) [0, 1, 2, 3, 4, 5, 6] rfl ?_
                        exact B362 _ ht325 trivial
                      · refine Rn.pick (lv' := [(0, .ref y), (1, .int (iv x1)), (2, .int (iv x2)), (3, .int (iv x3)), (4, .int (iv v25_4)), (5, .int (iv z14)), (7, .int (iv v207_7))]) [0, 1, 2, 3, 4, 5, 6] rfl ?_
                        exact B358 _ ht325 trivial
                  refine t_icmp_ne (pc := 306) (tgt := 325) dX12_fits_306 (by decide) (by omega) (by omega) (fun c306 => ?_) (fun c306 => ?_)
                  · refine Rn.pick (lv' := [(0, .ref y), (1, .int (iv x1)), (2, .int (iv x2)), (3, .int (iv x3)), (4, .int (iv v25_4)), (5, .int (iv z14)), (7, .int (iv v207_7)), (9, .int (iv y17))]) [2, 3, 4, 5, 6, 1, 8, 0] rfl ?_
                    exact B325 _ ht16 trivial
                  · refine r_aload_n (pc := 309) dX12_fits_309 (i := 0) rfl rfl ?_
                    refine t_getE (pc := 310) (.ref (y + 6)) ht16 hO fX12_26 dX12_fits_310 rfl ?_
                    refine r_iload (pc := 313) dX12_fits_313 rfl ?_
                    refine t_ialdR (pc := 315) (t0 := 0) ht16 hA_to dX12_fits_315 rfl (by decide) (by omega) (fun y25 by25 => ?_)
                    refine r_aload_n (pc := 316) dX12_fits_316 (i := 0) rfl rfl ?_
                    refine t_getE (pc := 317) (.ref (y + 42)) ht16 hO fX12_136 dX12_fits_317 rfl ?_
                    refine r_iload_n (pc := 320) dX12_fits_320 (i := 3) rfl rfl ?_
                    refine t_ialdR (pc := 321) (t0 := 0) ht16 hA_image dX12_fits_321 rfl (by decide) (by omega) (fun y26 by26 => ?_)
                    refine t_icmp_eq (pc := 322) (tgt := 358) dX12_fits_322 (by decide) (by omega) (by omega) (fun c322 => ?_) (fun c322 => ?_)
                    · refine Rn.pick (lv' := [(0, .ref y), (1, .int (iv x1)), (2, .int (iv x2)), (3, .int (iv x3)), (4, .int (iv v25_4)), (5, .int (iv z14)), (7, .int (iv v207_7))]) [2, 3, 4, 5, 6, 1, 8] rfl ?_
                      exact B358 _ ht16 trivial
                    · refine Rn.pick (lv' := [(0, .ref y), (1, .int (iv x1)), (2, .int (iv x2)), (3, .int (iv x3)), (4, .int (iv v25_4)), (5, .int (iv z14)), (7, .int (iv v207_7)), (9, .int (iv y17))]) [2, 3, 4, 5, 6, 1, 8, 0] rfl ?_
                      exact B325 _ ht16 trivial
                have B274 : ∀ hp274 : MH, Tw Γ hp274 → True → Rn (gG D cI cJ cZ cT lo b L xs) mX12_fits d 274 [(0, .ref y), (1, .int (iv x1)), (2, .int (iv x2)), (3, .int (iv x3)), (4, .int (iv v25_4)), (6, .int (iv v207_6)), (7, .int (iv v207_7))] [.int (iv v207_5)] hp274 n 0 0 (pR Γ n 0 1) := by
                  intro hp274 ht274 hf274
                  refine r_iconst (pc := 274) (v := iv 1) dX12_fits_274 (by decide) ?_
                  refine r_goto (pc := 275) (tgt := 279) dX12_fits_275 (by decide) ?_
                  refine Rn.pick (lv' := [(0, .ref y), (1, .int (iv x1)), (2, .int (iv x2)), (3, .int (iv x3)), (4, .int (iv v25_4)), (6, .int (iv v207_6)), (7, .int (iv v207_7))]) [0, 1, 2, 3, 4, 5, 6] rfl ?_
                  exact B279 _ ht274 1 ⟨by omega, by omega⟩
                have B251 : ∀ hp251 : MH, Tw Γ hp251 → True → Rn (gG D cI cJ cZ cT lo b L xs) mX12_fits d 251 [(0, .ref y), (1, .int (iv x1)), (2, .int (iv x2)), (3, .int (iv x3)), (4, .int (iv v25_4)), (6, .int (iv v207_6)), (7, .int (iv v207_7)), (8, .int (iv y12))] [.int (iv v207_5)] hp251 n 0 0 (pR Γ n 0 1) := by
                  intro hp251 ht251 hf251
                  refine r_aload_n (pc := 251) dX12_fits_251 (i := 0) rfl rfl ?_
                  refine t_getE (pc := 252) (.ref (y + 5)) ht251 hO fX12_23 dX12_fits_252 rfl ?_
                  refine r_iload (pc := 255) dX12_fits_255 rfl ?_
                  refine t_ialdR (pc := 257) (t0 := 0) ht251 hA_from dX12_fits_257 rfl (by decide) (by omega) (fun y27 by27 => ?_)
                  refine r_iload_n (pc := 258) dX12_fits_258 (i := 3) rfl rfl ?_
                  have B278 : ∀ hp278 : MH, Tw Γ hp278 → True → Rn (gG D cI cJ cZ cT lo b L xs) mX12_fits d 278 [(0, .ref y), (1, .int (iv x1)), (2, .int (iv x2)), (3, .int (iv x3)), (4, .int (iv v25_4)), (6, .int (iv v207_6)), (7, .int (iv v207_7))] [.int (iv v207_5)] hp278 n 0 0 (pR Γ n 0 1) := by
                    intro hp278 ht278 hf278
                    refine r_iconst (pc := 278) (v := iv 0) dX12_fits_278 (by decide) ?_
                    refine Rn.pick (lv' := [(0, .ref y), (1, .int (iv x1)), (2, .int (iv x2)), (3, .int (iv x3)), (4, .int (iv v25_4)), (6, .int (iv v207_6)), (7, .int (iv v207_7))]) [0, 1, 2, 3, 4, 5, 6] rfl ?_
                    exact B279 _ ht278 0 ⟨by omega, by omega⟩
                  refine t_icmp_ne (pc := 259) (tgt := 278) dX12_fits_259 (by decide) (by omega) (by omega) (fun c259 => ?_) (fun c259 => ?_)
                  · refine Rn.pick (lv' := [(0, .ref y), (1, .int (iv x1)), (2, .int (iv x2)), (3, .int (iv x3)), (4, .int (iv v25_4)), (6, .int (iv v207_6)), (7, .int (iv v207_7))]) [0, 1, 2, 3, 4, 5, 6] rfl ?_
                    exact B278 _ ht251 trivial
                  · refine r_aload_n (pc := 262) dX12_fits_262 (i := 0) rfl rfl ?_
                    refine t_getE (pc := 263) (.ref (y + 6)) ht251 hO fX12_26 dX12_fits_263 rfl ?_
                    refine r_iload (pc := 266) dX12_fits_266 rfl ?_
                    refine t_ialdR (pc := 268) (t0 := 0) ht251 hA_to dX12_fits_268 rfl (by decide) (by omega) (fun y28 by28 => ?_)
                    refine r_iload (pc := 269) dX12_fits_269 rfl ?_
                    refine t_icmp_ne (pc := 271) (tgt := 278) dX12_fits_271 (by decide) (by omega) (by omega) (fun c271 => ?_) (fun c271 => ?_)
                    · refine Rn.pick (lv' := [(0, .ref y), (1, .int (iv x1)), (2, .int (iv x2)), (3, .int (iv x3)), (4, .int (iv v25_4)), (6, .int (iv v207_6)), (7, .int (iv v207_7))]) [0, 1, 2, 3, 4, 5, 6] rfl ?_
                      exact B278 _ ht251 trivial
                    · refine Rn.pick (lv' := [(0, .ref y), (1, .int (iv x1)), (2, .int (iv x2)), (3, .int (iv x3)), (4, .int (iv v25_4)), (6, .int (iv v207_6)), (7, .int (iv v207_7))]) [0, 1, 2, 3, 4, 5, 6] rfl ?_
                      exact B274 _ ht251 trivial
                refine t_icmp_ne (pc := 237) (tgt := 251) dX12_fits_237 (by decide) (by omega) (by omega) (fun c237 => ?_) (fun c237 => ?_)
                · refine Rn.pick (lv' := [(0, .ref y), (1, .int (iv x1)), (2, .int (iv x2)), (3, .int (iv x3)), (4, .int (iv v25_4)), (6, .int (iv v207_6)), (7, .int (iv v207_7)), (8, .int (iv y12))]) [1, 2, 3, 4, 5, 7, 8, 0] rfl ?_
                  exact B251 _ ht11 trivial
                · refine r_aload_n (pc := 240) dX12_fits_240 (i := 0) rfl rfl ?_
                  refine t_getE (pc := 241) (.ref (y + 6)) ht11 hO fX12_26 dX12_fits_241 rfl ?_
                  refine r_iload (pc := 244) dX12_fits_244 rfl ?_
                  refine t_ialdR (pc := 246) (t0 := 0) ht11 hA_to dX12_fits_246 rfl (by decide) (by omega) (fun y29 by29 => ?_)
                  refine r_iload_n (pc := 247) dX12_fits_247 (i := 3) rfl rfl ?_
                  refine t_icmp_eq (pc := 248) (tgt := 274) dX12_fits_248 (by decide) (by omega) (by omega) (fun c248 => ?_) (fun c248 => ?_)
                  · refine Rn.pick (lv' := [(0, .ref y), (1, .int (iv x1)), (2, .int (iv x2)), (3, .int (iv x3)), (4, .int (iv v25_4)), (6, .int (iv v207_6)), (7, .int (iv v207_7))]) [1, 2, 3, 4, 5, 7, 8] rfl ?_
                    exact B274 _ ht11 trivial
                  · refine Rn.pick (lv' := [(0, .ref y), (1, .int (iv x1)), (2, .int (iv x2)), (3, .int (iv x3)), (4, .int (iv v25_4)), (6, .int (iv v207_6)), (7, .int (iv v207_7)), (8, .int (iv y12))]) [1, 2, 3, 4, 5, 7, 8, 0] rfl ?_
                    exact B251 _ ht11 trivial
            refine Rn.pick (lv' := [(0, .ref y), (1, .int (iv x1)), (2, .int (iv x2)), (3, .int (iv x3)), (4, .int (iv v25_4)), (5, .int (iv 0)), (6, .int (iv 0)), (7, .int (iv 0))]) [3, 4, 5, 6, 7, 2, 1, 0] rfl ?_
            exact B207 (Int.toNat (60 - 0)) _ ht34 0 0 0 ⟨by omega, by omega, by omega, by omega, by omega, by omega⟩ (by omega)
          · refine r_iload_n (pc := 45) dX12_fits_45 (i := 1) rfl rfl ?_
            refine r_iload (pc := 46) dX12_fits_46 rfl ?_
            refine t_callSR (pc := 48) (as := [.int (iv x1), .int (iv v34_5)]) (st := []) kX12_157 dX12_fits_48 (t_X12_at1 (d := d - 1) (x1 := x1) (x2 := v34_5) (by omega)  ht34 (by omega) (by omega)) rfl (by omega) (Nat.le_of_ble_eq_true rfl) rfl (fun hp30 y32 ht31 by32 => ?_)
            refine r_istore (pc := 51) (lv' := [(6, .int (iv y32)), (0, .ref y), (1, .int (iv x1)), (2, .int (iv x2)), (3, .int (iv x3)), (4, .int (iv v25_4)), (5, .int (iv v34_5))]) dX12_fits_51 (by decide) rfl ?_
            refine r_aload_n (pc := 53) dX12_fits_53 (i := 0) rfl rfl ?_
            refine t_getE (pc := 54) (.ref (y + 5)) ht31 hO fX12_23 dX12_fits_54 rfl ?_
            refine r_iload (pc := 57) dX12_fits_57 rfl ?_
            refine t_ialdR (pc := 59) (t0 := 0) ht31 hA_from dX12_fits_59 rfl (by decide) (by omega) (fun y33 by33 => ?_)
            refine r_iload (pc := 60) dX12_fits_60 rfl ?_
            have B104 : ∀ hp104 : MH, Tw Γ hp104 → ∀  (u104_0 : Int), 0 ≤ u104_0 ∧ u104_0 ≤ 1 → Rn (gG D cI cJ cZ cT lo b L xs) mX12_fits d 104 [(0, .ref y), (1, .int (iv x1)), (2, .int (iv x2)), (3, .int (iv x3)), (4, .int (iv v25_4)), (5, .int (iv v34_5)), (6, .int (iv y32))] [.int (iv u104_0)] hp104 n 0 0 (pR Γ n 0 1) := by
              intro hp104 ht104 u104_0 hf104
              refine r_istore (pc := 104) (lv' := [(7, .int (iv u104_0)), (0, .ref y), (1, .int (iv x1)), (2, .int (iv x2)), (3, .int (iv x3)), (4, .int (iv v25_4)), (5, .int (iv v34_5)), (6, .int (iv y32))]) dX12_fits_104 (by decide) rfl ?_
              refine r_iload (pc := 106) dX12_fits_106 rfl ?_
              have B192 : ∀ hp192 : MH, Tw Γ hp192 → True → Rn (gG D cI cJ cZ cT lo b L xs) mX12_fits d 192 [(0, .ref y), (1, .int (iv x1)), (2, .int (iv x2)), (3, .int (iv x3)), (4, .int (iv v25_4)), (5, .int (iv v34_5))] [] hp192 n 0 0 (pR Γ n 0 1) := by
                intro hp192 ht192 hf192
                refine r_iinc (pc := 192) (v := iv (v34_5 + 1)) (lv' := [(5, .int (iv (v34_5 + 1))), (0, .ref y), (1, .int (iv x1)), (2, .int (iv x2)), (3, .int (iv x3)), (4, .int (iv v25_4))]) dX12_fits_192 rfl (iv_add _ _) (by decide) rfl ?_
                refine r_goto (pc := 195) (tgt := 34) dX12_fits_195 (by decide) ?_
                refine Rn.pick (lv' := [(0, .ref y), (1, .int (iv x1)), (2, .int (iv x2)), (3, .int (iv x3)), (4, .int (iv v25_4)), (5, .int (iv (v34_5 + 1)))]) [1, 2, 3, 4, 5, 0] rfl ?_
                exact ih34 (Int.toNat (60 - (v34_5 + 1))) (by omega) _ ht192 (v34_5 + 1) ⟨by omega, by omega⟩ (by omega)
              refine t_if_eq (pc := 108) (tgt := 192) dX12_fits_108 (by decide) (by omega) (fun c108 => ?_) (fun c108 => ?_)
              · refine Rn.pick (lv' := [(0, .ref y), (1, .int (iv x1)), (2, .int (iv x2)), (3, .int (iv x3)), (4, .int (iv v25_4)), (5, .int (iv v34_5))]) [1, 2, 3, 4, 5, 6] rfl ?_
                exact B192 _ ht104 trivial
              · refine r_aload_n (pc := 111) dX12_fits_111 (i := 0) rfl rfl ?_
                refine r_iload_n (pc := 112) dX12_fits_112 (i := 1) rfl rfl ?_
                refine r_aload_n (pc := 113) dX12_fits_113 (i := 0) rfl rfl ?_
                refine t_getE (pc := 114) (.ref (y + 5)) ht104 hO fX12_23 dX12_fits_114 rfl ?_
                refine r_iload (pc := 117) dX12_fits_117 rfl ?_
                refine t_ialdR (pc := 119) (t0 := 0) ht104 hA_from dX12_fits_119 rfl (by decide) (by omega) (fun y34 by34 => ?_)
                refine r_aload_n (pc := 120) dX12_fits_120 (i := 0) rfl rfl ?_
                refine t_getE (pc := 121) (.ref (y + 6)) ht104 hO fX12_26 dX12_fits_121 rfl ?_
                refine r_iload (pc := 124) dX12_fits_124 rfl ?_
                refine t_ialdR (pc := 126) (t0 := 0) ht104 hA_to dX12_fits_126 rfl (by decide) (by omega) (fun y35 by35 => ?_)
                refine r_aload_n (pc := 127) dX12_fits_127 (i := 0) rfl rfl ?_
                refine t_getE (pc := 128) (.ref (y + 7)) ht104 hO fX12_29 dX12_fits_128 rfl ?_
                refine r_iload (pc := 131) dX12_fits_131 rfl ?_
                refine t_ialdR (pc := 133) (t0 := 0) ht104 hA_weight dX12_fits_133 rfl (by decide) (by omega) (fun y36 by36 => ?_)
                refine r_aload_n (pc := 134) dX12_fits_134 (i := 0) rfl rfl ?_
                refine t_getE (pc := 135) (.ref (y + 8)) ht104 hO fX12_32 dX12_fits_135 rfl ?_
                refine r_iload (pc := 138) dX12_fits_138 rfl ?_
                refine t_ialdR (pc := 140) (t0 := 0) ht104 hA_cost dX12_fits_140 rfl (by decide) (by omega) (fun y37 by37 => ?_)
                refine t_callVR (pc := 141) (as := [.int (iv x1), .int (iv y34), .int (iv y35), .int (iv y36), .int (iv y37)]) (st := []) ht104 hO kX12_397 rfl dX12_fits_141 (t_X12_times (d := d - 1) (x1 := x1) (x2 := y34) (x3 := y35) (x4 := y36) (x5 := y37) (by omega) hO hA_directs hA_many hA_from hA_to hA_weight hA_cost ht104 (by omega) (by omega) (by omega) (by omega) (by omega)) rfl (by omega) (Nat.le_of_ble_eq_true rfl) rfl (fun hp38 y40 ht39 by40 => ?_)
                refine r_aload_n (pc := 144) dX12_fits_144 (i := 0) rfl rfl ?_
                refine r_iload_n (pc := 145) dX12_fits_145 (i := 2) rfl rfl ?_
                refine r_aload_n (pc := 146) dX12_fits_146 (i := 0) rfl rfl ?_
                refine t_getE (pc := 147) (.ref (y + 42)) ht39 hO fX12_136 dX12_fits_147 rfl ?_
                refine r_aload_n (pc := 150) dX12_fits_150 (i := 0) rfl rfl ?_
                refine t_getE (pc := 151) (.ref (y + 5)) ht39 hO fX12_23 dX12_fits_151 rfl ?_
                refine r_iload (pc := 154) dX12_fits_154 rfl ?_
                refine t_ialdR (pc := 156) (t0 := 0) ht39 hA_from dX12_fits_156 rfl (by decide) (by omega) (fun y41 by41 => ?_)
                refine t_ialdR (pc := 157) (t0 := 0) ht39 hA_image dX12_fits_157 rfl (by decide) (by omega) (fun y42 by42 => ?_)
                refine r_aload_n (pc := 158) dX12_fits_158 (i := 0) rfl rfl ?_
                refine t_getE (pc := 159) (.ref (y + 42)) ht39 hO fX12_136 dX12_fits_159 rfl ?_
                refine r_aload_n (pc := 162) dX12_fits_162 (i := 0) rfl rfl ?_
                refine t_getE (pc := 163) (.ref (y + 6)) ht39 hO fX12_26 dX12_fits_163 rfl ?_
                refine r_iload (pc := 166) dX12_fits_166 rfl ?_
                refine t_ialdR (pc := 168) (t0 := 0) ht39 hA_to dX12_fits_168 rfl (by decide) (by omega) (fun y43 by43 => ?_)
                refine t_ialdR (pc := 169) (t0 := 0) ht39 hA_image dX12_fits_169 rfl (by decide) (by omega) (fun y44 by44 => ?_)
                refine r_aload_n (pc := 170) dX12_fits_170 (i := 0) rfl rfl ?_
                refine t_getE (pc := 171) (.ref (y + 7)) ht39 hO fX12_29 dX12_fits_171 rfl ?_
                refine r_iload (pc := 174) dX12_fits_174 rfl ?_
                refine t_ialdR (pc := 176) (t0 := 0) ht39 hA_weight dX12_fits_176 rfl (by decide) (by omega) (fun y45 by45 => ?_)
                refine r_aload_n (pc := 177) dX12_fits_177 (i := 0) rfl rfl ?_
                refine t_getE (pc := 178) (.ref (y + 8)) ht39 hO fX12_32 dX12_fits_178 rfl ?_
                refine r_iload (pc := 181) dX12_fits_181 rfl ?_
                refine t_ialdR (pc := 183) (t0 := 0) ht39 hA_cost dX12_fits_183 rfl (by decide) (by omega) (fun y46 by46 => ?_)
                refine t_callVR (pc := 184) (as := [.int (iv x2), .int (iv y42), .int (iv y44), .int (iv y45), .int (iv y46)]) (st := [.int (iv y40)]) ht39 hO kX12_397 rfl dX12_fits_184 (t_X12_times (d := d - 1) (x1 := x2) (x2 := y42) (x3 := y44) (x4 := y45) (x5 := y46) (by omega) hO hA_directs hA_many hA_from hA_to hA_weight hA_cost ht39 (by omega) (by omega) (by omega) (by omega) (by omega)) rfl (by omega) (Nat.le_of_ble_eq_true rfl) rfl (fun hp47 y49 ht48 by49 => ?_)
                refine t_icmp_eq (pc := 187) (tgt := 192) dX12_fits_187 (by decide) (by omega) (by omega) (fun c187 => ?_) (fun c187 => ?_)
                · refine Rn.pick (lv' := [(0, .ref y), (1, .int (iv x1)), (2, .int (iv x2)), (3, .int (iv x3)), (4, .int (iv v25_4)), (5, .int (iv v34_5))]) [1, 2, 3, 4, 5, 6] rfl ?_
                  exact B192 _ ht48 trivial
                · refine r_iconst (pc := 190) (v := iv 0) dX12_fits_190 (by decide) ?_
                  exact r_zret (pc := 191) dX12_fits_191 rfl (iv_nar (by omega)) ⟨rfl, ht48, _, rfl, by omega, by omega⟩
            have B99 : ∀ hp99 : MH, Tw Γ hp99 → True → Rn (gG D cI cJ cZ cT lo b L xs) mX12_fits d 99 [(0, .ref y), (1, .int (iv x1)), (2, .int (iv x2)), (3, .int (iv x3)), (4, .int (iv v25_4)), (5, .int (iv v34_5)), (6, .int (iv y32))] [] hp99 n 0 0 (pR Γ n 0 1) := by
              intro hp99 ht99 hf99
              refine r_iconst (pc := 99) (v := iv 1) dX12_fits_99 (by decide) ?_
              refine r_goto (pc := 100) (tgt := 104) dX12_fits_100 (by decide) ?_
              refine Rn.pick (lv' := [(0, .ref y), (1, .int (iv x1)), (2, .int (iv x2)), (3, .int (iv x3)), (4, .int (iv v25_4)), (5, .int (iv v34_5)), (6, .int (iv y32))]) [0, 1, 2, 3, 4, 5, 6] rfl ?_
              exact B104 _ ht99 1 ⟨by omega, by omega⟩
            have B76 : ∀ hp76 : MH, Tw Γ hp76 → True → Rn (gG D cI cJ cZ cT lo b L xs) mX12_fits d 76 [(0, .ref y), (1, .int (iv x1)), (2, .int (iv x2)), (3, .int (iv x3)), (4, .int (iv v25_4)), (5, .int (iv v34_5)), (6, .int (iv y32))] [] hp76 n 0 0 (pR Γ n 0 1) := by
              intro hp76 ht76 hf76
              refine r_aload_n (pc := 76) dX12_fits_76 (i := 0) rfl rfl ?_
              refine t_getE (pc := 77) (.ref (y + 5)) ht76 hO fX12_23 dX12_fits_77 rfl ?_
              refine r_iload (pc := 80) dX12_fits_80 rfl ?_
              refine t_ialdR (pc := 82) (t0 := 0) ht76 hA_from dX12_fits_82 rfl (by decide) (by omega) (fun y50 by50 => ?_)
              refine r_iload_n (pc := 83) dX12_fits_83 (i := 3) rfl rfl ?_
              have B103 : ∀ hp103 : MH, Tw Γ hp103 → True → Rn (gG D cI cJ cZ cT lo b L xs) mX12_fits d 103 [(0, .ref y), (1, .int (iv x1)), (2, .int (iv x2)), (3, .int (iv x3)), (4, .int (iv v25_4)), (5, .int (iv v34_5)), (6, .int (iv y32))] [] hp103 n 0 0 (pR Γ n 0 1) := by
                intro hp103 ht103 hf103
                refine r_iconst (pc := 103) (v := iv 0) dX12_fits_103 (by decide) ?_
                refine Rn.pick (lv' := [(0, .ref y), (1, .int (iv x1)), (2, .int (iv x2)), (3, .int (iv x3)), (4, .int (iv v25_4)), (5, .int (iv v34_5)), (6, .int (iv y32))]) [0, 1, 2, 3, 4, 5, 6] rfl ?_
                exact B104 _ ht103 0 ⟨by omega, by omega⟩
              refine t_icmp_ne (pc := 84) (tgt := 103) dX12_fits_84 (by decide) (by omega) (by omega) (fun c84 => ?_) (fun c84 => ?_)
              · refine Rn.pick (lv' := [(0, .ref y), (1, .int (iv x1)), (2, .int (iv x2)), (3, .int (iv x3)), (4, .int (iv v25_4)), (5, .int (iv v34_5)), (6, .int (iv y32))]) [0, 1, 2, 3, 4, 5, 6] rfl ?_
                exact B103 _ ht76 trivial
              · refine r_aload_n (pc := 87) dX12_fits_87 (i := 0) rfl rfl ?_
                refine t_getE (pc := 88) (.ref (y + 6)) ht76 hO fX12_26 dX12_fits_88 rfl ?_
                refine r_iload (pc := 91) dX12_fits_91 rfl ?_
                refine t_ialdR (pc := 93) (t0 := 0) ht76 hA_to dX12_fits_93 rfl (by decide) (by omega) (fun y51 by51 => ?_)
                refine r_iload (pc := 94) dX12_fits_94 rfl ?_
                refine t_icmp_ne (pc := 96) (tgt := 103) dX12_fits_96 (by decide) (by omega) (by omega) (fun c96 => ?_) (fun c96 => ?_)
                · refine Rn.pick (lv' := [(0, .ref y), (1, .int (iv x1)), (2, .int (iv x2)), (3, .int (iv x3)), (4, .int (iv v25_4)), (5, .int (iv v34_5)), (6, .int (iv y32))]) [0, 1, 2, 3, 4, 5, 6] rfl ?_
                  exact B103 _ ht76 trivial
                · refine Rn.pick (lv' := [(0, .ref y), (1, .int (iv x1)), (2, .int (iv x2)), (3, .int (iv x3)), (4, .int (iv v25_4)), (5, .int (iv v34_5)), (6, .int (iv y32))]) [0, 1, 2, 3, 4, 5, 6] rfl ?_
                  exact B99 _ ht76 trivial
            refine t_icmp_ne (pc := 62) (tgt := 76) dX12_fits_62 (by decide) (by omega) (by omega) (fun c62 => ?_) (fun c62 => ?_)
            · refine Rn.pick (lv' := [(0, .ref y), (1, .int (iv x1)), (2, .int (iv x2)), (3, .int (iv x3)), (4, .int (iv v25_4)), (5, .int (iv v34_5)), (6, .int (iv y32))]) [1, 2, 3, 4, 5, 6, 0] rfl ?_
              exact B76 _ ht31 trivial
            · refine r_aload_n (pc := 65) dX12_fits_65 (i := 0) rfl rfl ?_
              refine t_getE (pc := 66) (.ref (y + 6)) ht31 hO fX12_26 dX12_fits_66 rfl ?_
              refine r_iload (pc := 69) dX12_fits_69 rfl ?_
              refine t_ialdR (pc := 71) (t0 := 0) ht31 hA_to dX12_fits_71 rfl (by decide) (by omega) (fun y52 by52 => ?_)
              refine r_iload_n (pc := 72) dX12_fits_72 (i := 3) rfl rfl ?_
              refine t_icmp_eq (pc := 73) (tgt := 99) dX12_fits_73 (by decide) (by omega) (by omega) (fun c73 => ?_) (fun c73 => ?_)
              · refine Rn.pick (lv' := [(0, .ref y), (1, .int (iv x1)), (2, .int (iv x2)), (3, .int (iv x3)), (4, .int (iv v25_4)), (5, .int (iv v34_5)), (6, .int (iv y32))]) [1, 2, 3, 4, 5, 6, 0] rfl ?_
                exact B99 _ ht31 trivial
              · refine Rn.pick (lv' := [(0, .ref y), (1, .int (iv x1)), (2, .int (iv x2)), (3, .int (iv x3)), (4, .int (iv v25_4)), (5, .int (iv v34_5)), (6, .int (iv y32))]) [1, 2, 3, 4, 5, 6, 0] rfl ?_
                exact B76 _ ht31 trivial
        refine Rn.pick (lv' := [(0, .ref y), (1, .int (iv x1)), (2, .int (iv x2)), (3, .int (iv x3)), (4, .int (iv v25_4)), (5, .int (iv 0))]) [1, 2, 3, 4, 5, 0] rfl ?_
        exact B34 (Int.toNat (60 - 0)) _ ht25 0 ⟨by omega, by omega⟩ (by omega)
    refine Rn.pick (lv' := [(0, .ref y), (1, .int (iv x1)), (2, .int (iv x2)), (3, .int (iv x3)), (4, .int (iv 0))]) [1, 2, 3, 4, 0] rfl ?_
    exact B25 (Int.toNat (16 - 0)) _ ht6 0 ⟨by omega, by omega⟩ (by omega)
  · refine r_iconst (pc := 20) (v := iv 0) dX12_fits_20 (by decide) ?_
    exact r_zret (pc := 21) dX12_fits_21 rfl (iv_nar (by omega)) ⟨rfl, ht6, _, rfl, by omega, by omega⟩
