set_option maxHeartbeats 4000000 in
set_option maxRecDepth 100000 in
theorem c_X6_firstLikex {D : va_G} {cI cJ cZ cT : ClassId} {lo b L : Nat} {xs : Nat → Int32} {hp : MH} {n d : Nat} {Γ : TG} {s : Nat} {Co : Nat → Int64} {j2 : Int64} {x1 x4 x5 : Int} (hd0 : 0 ≤ d) (hO : rd Γ s (tO 6 (smnR s))) (hC : rd Γ (s + 2) (xJ cJ 544 Co)) (ht : Tw Γ hp) (hx1 : 0 ≤ x1 ∧ x1 ≤ 512) (hx4 : 0 ≤ x4 ∧ x4 ≤ 65535) (hx5 : 1 ≤ x5 ∧ x5 ≤ 16) : Mt (gG D cI cJ cZ cT lo b L xs) mX6_firstLike d 0 0 [.ref s, .int (iv x1), .long j2, .int (iv x4), .int (iv x5)] hp n (pI Γ n (fun r => (-1 ≤ r ∧ r < x5) ∧ flQ Co (Int.toNat x1) (Int.toNat x5) j2 x4 r)) := by
  refine Mt.of rfl (Nat.le_of_ble_eq_true rfl) ?_
  refine Rn.pick (lv' := [(0, .ref s), (1, .int (iv x1)), (2, .long j2), (4, .int (iv x4)), (5, .int (iv x5))]) [0, 1, 2, 3, 4] rfl ?_
  refine r_iconst (pc := 0) (v := iv 0) dX6_firstLike_0 (by decide) ?_
  refine r_istore (pc := 1) (lv' := [(6, .int (iv 0)), (0, .ref s), (1, .int (iv x1)), (2, .long j2), (4, .int (iv x4)), (5, .int (iv x5))]) dX6_firstLike_1 (by decide) rfl ?_
  have B3 : ∀ k : Nat, ∀ hp3 : MH, Tw Γ hp3 → ∀  (v3_6 : Int), 0 ≤ v3_6 ∧ v3_6 ≤ 16 ∧ (v3_6 ≤ x5) ∧ (flJ Co (Int.toNat x1) j2 x4 v3_6) → 16 - v3_6 ≤ (k : Int) → Rn (gG D cI cJ cZ cT lo b L xs) mX6_firstLike d 3 [(0, .ref s), (1, .int (iv x1)), (2, .long j2), (4, .int (iv x4)), (5, .int (iv x5)), (6, .int (iv v3_6))] [] hp3 n 0 0 (pI Γ n (fun r => (-1 ≤ r ∧ r < x5) ∧ flQ Co (Int.toNat x1) (Int.toNat x5) j2 x4 r)) := by
    refine lpS _ ?_
    intro k3 ih3 hp3 ht3 v3_6 hf3 hm3
    obtain ⟨hf3_0, hf3_1, hf3_2, ha3_3⟩ := hf3
    refine r_iload (pc := 3) dX6_firstLike_3 rfl ?_
    refine r_iload (pc := 5) dX6_firstLike_5 rfl ?_
    refine t_icmp_ge (pc := 7) (tgt := 46) dX6_firstLike_7 (by decide) (by omega) (by omega) (fun c7 => ?_) (fun c7 => ?_)
    · refine r_iconst (pc := 46) (v := iv (-1)) dX6_firstLike_46 (by decide) ?_
      exact r_iret (pc := 47) dX6_firstLike_47 rfl ⟨rfl, ht3, _, rfl, by omega, fun _ u9 hu9 hm9 => (by assumption : flJ Co (Int.toNat x1) j2 x4 v3_6) u9 (by omega) hm9, fun h9 => absurd h9 (by omega)⟩
    · refine r_iload (pc := 10) dX6_firstLike_10 rfl ?_
      refine r_iload (pc := 12) dX6_firstLike_12 rfl ?_
      have hq14_1 := shr_le (Int.toNat x4) (Int.toNat v3_6)
      refine r_ishr (pc := 14) (v := iv ((Int.toNat x4 >>> Int.toNat v3_6 : Nat) : Int)) dX6_firstLike_14 (shr_e (by omega) (by omega)) ?_
      refine r_iconst (pc := 15) (v := iv 1) dX6_firstLike_15 (by decide) ?_
      refine r_iand (pc := 16) (v := iv (((Int.toNat x4 >>> Int.toNat v3_6 : Nat) : Int) % 2)) dX6_firstLike_16 (and1_e _ (by omega)) ?_
      have mb16 := @Me_bit x4 v3_6
      refine t_if_ne (pc := 17) (tgt := 40) dX6_firstLike_17 (by decide) (by omega) (fun c17 => ?_) (fun c17 => ?_)
      · have pm17 : Me x4 (Int.toNat v3_6) := Me_bit.mp (by omega)
        have hfl := flj_up (by assumption : flJ Co (Int.toNat x1) j2 x4 v3_6) (by omega) (fun h9 => absurd pm17 h9)
        refine r_iinc (pc := 40) (v := iv (v3_6 + 1)) (lv' := [(6, .int (iv (v3_6 + 1))), (0, .ref s), (1, .int (iv x1)), (2, .long j2), (4, .int (iv x4)), (5, .int (iv x5))]) dX6_firstLike_40 rfl (iv_add _ _) (by decide) rfl ?_
        refine r_goto (pc := 43) (tgt := 3) dX6_firstLike_43 (by decide) ?_
        refine Rn.pick (lv' := [(0, .ref s), (1, .int (iv x1)), (2, .long j2), (4, .int (iv x4)), (5, .int (iv x5)), (6, .int (iv (v3_6 + 1)))]) [1, 2, 3, 4, 5, 0] rfl ?_
        exact ih3 (Int.toNat (16 - (v3_6 + 1))) (by omega) _ ht3 (v3_6 + 1) ⟨by omega, by omega, by omega, by (first | exact hfl | exact flj_0)⟩ (by omega)
      · have nm17 : ¬ Me x4 (Int.toNat v3_6) := fun h9 => absurd (Me_bit.mpr h9) (by omega)
        refine r_aload_n (pc := 20) dX6_firstLike_20 (i := 0) rfl rfl ?_
        refine t_getE (pc := 21) (.ref (s + 2)) ht3 hO fX6_15 dX6_firstLike_21 rfl ?_
        refine r_iload_n (pc := 24) dX6_firstLike_24 (i := 1) rfl rfl ?_
        refine r_bipush (pc := 25) (v := iv 16) dX6_firstLike_25 (by decide) ?_
        refine r_iadd (pc := 27) (v := iv (x1 + 16)) dX6_firstLike_27 (iv_add _ _) ?_
        refine r_iload (pc := 28) dX6_firstLike_28 rfl ?_
        refine r_iadd (pc := 30) (v := iv ((x1 + 16) + v3_6)) dX6_firstLike_30 (iv_add _ _) ?_
        refine t_laldX (pc := 31) (t0 := 1) ht3 hC dX6_firstLike_31 rfl (by decide) (by omega) ?_
        have e31 : Co (Int.toNat ((x1 + 16) + v3_6)) = Co ((Int.toNat x1) + 16 + Int.toNat v3_6) := congrArg Co (by omega)
        refine r_lload_n (pc := 32) dX6_firstLike_32 (i := 2) rfl rfl ?_
        refine r_lcmp (pc := 33) dX6_firstLike_33 ?_
        refine t_lif_ne (pc := 34) (tgt := 40) dX6_firstLike_34 (by decide) (fun c34 => ?_) (fun c34 => ?_)
        · have hfl := flj_up (by assumption : flJ Co (Int.toNat x1) j2 x4 v3_6) (by omega) (fun _ h9 => c34 (congrArg Int64.toInt (e31.trans h9)))
          refine r_iinc (pc := 40) (v := iv (v3_6 + 1)) (lv' := [(6, .int (iv (v3_6 + 1))), (0, .ref s), (1, .int (iv x1)), (2, .long j2), (4, .int (iv x4)), (5, .int (iv x5))]) dX6_firstLike_40 rfl (iv_add _ _) (by decide) rfl ?_
          refine r_goto (pc := 43) (tgt := 3) dX6_firstLike_43 (by decide) ?_
          refine Rn.pick (lv' := [(0, .ref s), (1, .int (iv x1)), (2, .long j2), (4, .int (iv x4)), (5, .int (iv x5)), (6, .int (iv (v3_6 + 1)))]) [1, 2, 3, 4, 5, 0] rfl ?_
          exact ih3 (Int.toNat (16 - (v3_6 + 1))) (by omega) _ ht3 (v3_6 + 1) ⟨by omega, by omega, by omega, by (first | exact hfl | exact flj_0)⟩ (by omega)
        · have hfy : Co ((Int.toNat x1) + 16 + Int.toNat v3_6) = j2 := e31.symm.trans (Int64.toInt_inj.mp (Classical.byContradiction c34))
          refine r_iload (pc := 37) dX6_firstLike_37 rfl ?_
          exact r_iret (pc := 39) dX6_firstLike_39 rfl ⟨rfl, ht3, _, rfl, by omega, fun h9 => absurd h9 (by omega), fun _ => ⟨nm17, hfy, (by assumption : flJ Co (Int.toNat x1) j2 x4 v3_6)⟩⟩
  refine Rn.pick (lv' := [(0, .ref s), (1, .int (iv x1)), (2, .long j2), (4, .int (iv x4)), (5, .int (iv x5)), (6, .int (iv 0))]) [1, 2, 3, 4, 5, 0] rfl ?_
  exact B3 (Int.toNat (16 - 0)) _ ht 0 ⟨by omega, by omega, by omega, by (first | exact hfl | exact flj_0)⟩ (by omega)
set_option maxHeartbeats 4000000 in
set_option maxRecDepth 100000 in
theorem c_X6_haveSameColoursx {D : va_G} {cI cJ cZ cT : ClassId} {lo b L : Nat} {xs : Nat → Int32} {hp : MH} {n d : Nat} {Γ : TG} {s : Nat} {Co : Nat → Int64} {x1 x2 : Int} (hd0 : 1 ≤ d) (hO : rd Γ s (tO 6 (smnR s))) (hC : rd Γ (s + 2) (xJ cJ 544 Co)) (ht : Tw Γ hp) (hx1 : 0 ≤ x1 ∧ x1 ≤ 512) (hx2 : 1 ≤ x2 ∧ x2 ≤ 16) : Mt (gG D cI cJ cZ cT lo b L xs) mX6_haveSameColours d 0 0 [.ref s, .int (iv x1), .int (iv x2)] hp n (pI Γ n (fun r => (0 ≤ r ∧ r ≤ 1) ∧ (r = 0 → ∀ p : Nat → Nat, (∀ v, v < Int.toNat x2 → p v < Int.toNat x2) → (∀ i j, i < Int.toNat x2 → j < Int.toNat x2 → p i = p j → i = j) → ¬ cvP Co (Int.toNat x1) (Int.toNat x2) p))) := by
  refine Mt.of rfl (Nat.le_of_ble_eq_true rfl) ?_
  refine Rn.pick (lv' := [(0, .ref s), (1, .int (iv x1)), (2, .int (iv x2))]) [0, 1, 2] rfl ?_
  refine r_iconst (pc := 0) (v := iv 0) dX6_haveSameColours_0 (by decide) ?_
  refine r_istore_n (pc := 1) (lv' := [(3, .int (iv 0)), (0, .ref s), (1, .int (iv x1)), (2, .int (iv x2))]) dX6_haveSameColours_1 (i := 3) rfl (by decide) rfl ?_
  refine r_iconst (pc := 2) (v := iv 0) dX6_haveSameColours_2 (by decide) ?_
  refine r_istore (pc := 3) (lv' := [(4, .int (iv 0)), (3, .int (iv 0)), (0, .ref s), (1, .int (iv x1)), (2, .int (iv x2))]) dX6_haveSameColours_3 (by decide) rfl ?_
  have B5 : ∀ k : Nat, ∀ hp5 : MH, Tw Γ hp5 → ∀  (v5_3 : Int) (v5_4 : Int), 0 ≤ v5_3 ∧ v5_3 ≤ 65535 ∧ 0 ≤ v5_4 ∧ v5_4 ≤ 16 ∧ (v5_4 ≤ x2) ∧ (hsI Co (Int.toNat x1) v5_3 v5_4) → 16 - v5_4 ≤ (k : Int) → Rn (gG D cI cJ cZ cT lo b L xs) mX6_haveSameColours d 5 [(0, .ref s), (1, .int (iv x1)), (2, .int (iv x2)), (3, .int (iv v5_3)), (4, .int (iv v5_4))] [] hp5 n 0 0 (pI Γ n (fun r => (0 ≤ r ∧ r ≤ 1) ∧ (r = 0 → ∀ p : Nat → Nat, (∀ v, v < Int.toNat x2 → p v < Int.toNat x2) → (∀ i j, i < Int.toNat x2 → j < Int.toNat x2 → p i = p j → i = j) → ¬ cvP Co (Int.toNat x1) (Int.toNat x2) p))) := by
    refine lpS _ ?_
    intro k5 ih5 hp5 ht5 v5_3 v5_4 hf5 hm5
    obtain ⟨hf5_0, hf5_1, hf5_2, hf5_3, hf5_4, ha5_5⟩ := hf5
    refine r_iload (pc := 5) dX6_haveSameColours_5 rfl ?_
    refine r_iload_n (pc := 7) dX6_haveSameColours_7 (i := 2) rfl rfl ?_
    refine t_icmp_ge (pc := 8) (tgt := 49) dX6_haveSameColours_8 (by decide) (by omega) (by omega) (fun c8 => ?_) (fun c8 => ?_)
    · refine r_iconst (pc := 49) (v := iv 1) dX6_haveSameColours_49 (by decide) ?_
      exact r_zret (pc := 50) dX6_haveSameColours_50 rfl (iv_nar (by omega)) ⟨rfl, ht5, _, rfl, by omega, fun h9 => absurd h9 (by omega)⟩
    · refine r_aload_n (pc := 11) dX6_haveSameColours_11 (i := 0) rfl rfl ?_
      refine r_iload_n (pc := 12) dX6_haveSameColours_12 (i := 1) rfl rfl ?_
      refine r_aload_n (pc := 13) dX6_haveSameColours_13 (i := 0) rfl rfl ?_
      refine t_getE (pc := 14) (.ref (s + 2)) ht5 hO fX6_15 dX6_haveSameColours_14 rfl ?_
      refine r_iload_n (pc := 17) dX6_haveSameColours_17 (i := 1) rfl rfl ?_
      refine r_iload (pc := 18) dX6_haveSameColours_18 rfl ?_
      refine r_iadd (pc := 20) (v := iv (x1 + v5_4)) dX6_haveSameColours_20 (iv_add _ _) ?_
      refine t_laldX (pc := 21) (t0 := 1) ht5 hC dX6_haveSameColours_21 rfl (by decide) (by omega) ?_
      have e21 : Co (Int.toNat (x1 + v5_4)) = Co ((Int.toNat x1) + Int.toNat v5_4) := congrArg Co (by omega)
      refine r_iload_n (pc := 22) dX6_haveSameColours_22 (i := 3) rfl rfl ?_
      refine r_iload_n (pc := 23) dX6_haveSameColours_23 (i := 2) rfl rfl ?_
      refine t_callVI (pc := 24) (as := [.int (iv x1), .long (Co (Int.toNat (x1 + v5_4))), .int (iv v5_3), .int (iv x2)]) (st := []) ht5 hO kX6_99 rfl dX6_haveSameColours_24 (c_X6_firstLikex (d := d - 1) (Co := Co) (x1 := x1) (j2 := Co (Int.toNat (x1 + v5_4))) (x4 := v5_3) (x5 := x2) (by omega) hO hC ht5 (by omega) (by omega) (by omega)) rfl (by omega) (Nat.le_of_ble_eq_true rfl) rfl (fun hp2 y1 ht3 by1 => ?_)
      obtain ⟨by11, hfk24⟩ := by1
      refine r_istore (pc := 27) (lv' := [(5, .int (iv y1)), (0, .ref s), (1, .int (iv x1)), (2, .int (iv x2)), (3, .int (iv v5_3)), (4, .int (iv v5_4))]) dX6_haveSameColours_27 (by decide) rfl ?_
      refine r_iload (pc := 29) dX6_haveSameColours_29 rfl ?_
      refine t_if_ge (pc := 31) (tgt := 36) dX6_haveSameColours_31 (by decide) (by omega) (fun c31 => ?_) (fun c31 => ?_)
      · obtain ⟨hk1, hk2, -⟩ := hfk24.2 (by omega)
        refine r_iload_n (pc := 36) dX6_haveSameColours_36 (i := 3) rfl rfl ?_
        refine r_iconst (pc := 37) (v := iv 1) dX6_haveSameColours_37 (by decide) ?_
        refine r_iload (pc := 38) dX6_haveSameColours_38 rfl ?_
        refine r_ishl (pc := 40) (v := iv ((2 ^ Int.toNat y1 : Nat) : Int)) dX6_haveSameColours_40 (shl_e (by omega)) ?_
        have mp40_4 : 1 ≤ 2 ^ Int.toNat y1 := Nat.one_le_two_pow
        have mq40_5 : 2 ^ Int.toNat y1 ≤ 2 ^ 15 := Nat.pow_le_pow_right (by omega) (by omega)
        have ms40 := Me_shl (Int.toNat y1)
        obtain ⟨z6, hz6, bz6⟩ := or_2 16 v5_3 ((2 ^ Int.toNat y1 : Nat) : Int) (by omega) (by omega) (by decide)
        refine r_ior (pc := 41) (v := iv z6) dX6_haveSameColours_41 hz6 ?_
        have mez6 := Me_or hz6 (by omega) (by omega) (by omega)
        have hhs : hsI Co (Int.toNat x1) z6 (v5_4 + 1) := hs_up (u := Int.toNat y1) (by assumption : hsI Co (Int.toNat x1) v5_3 v5_4) (by omega) (hk2.trans e21) (fun i9 => by rw [mez6 i9, ms40 i9])
        refine r_istore_n (pc := 42) (lv' := [(3, .int (iv z6)), (5, .int (iv y1)), (0, .ref s), (1, .int (iv x1)), (2, .int (iv x2)), (4, .int (iv v5_4))]) dX6_haveSameColours_42 (i := 3) rfl (by decide) rfl ?_
        refine r_iinc (pc := 43) (v := iv (v5_4 + 1)) (lv' := [(4, .int (iv (v5_4 + 1))), (3, .int (iv z6)), (5, .int (iv y1)), (0, .ref s), (1, .int (iv x1)), (2, .int (iv x2))]) dX6_haveSameColours_43 rfl (iv_add _ _) (by decide) rfl ?_
        refine r_goto (pc := 46) (tgt := 5) dX6_haveSameColours_46 (by decide) ?_
        refine Rn.pick (lv' := [(0, .ref s), (1, .int (iv x1)), (2, .int (iv x2)), (3, .int (iv z6)), (4, .int (iv (v5_4 + 1)))]) [3, 4, 5, 1, 0] rfl ?_
        exact ih5 (Int.toNat (16 - (v5_4 + 1))) (by omega) _ ht3 z6 (v5_4 + 1) ⟨by omega, by omega, by omega, by omega, by omega, by (first | exact hhs | exact hs_0)⟩ (by omega)
      · have hno := fun (p9 : Nat → Nat) => hs_no (p := p9) (n := Int.toNat x2) (by assumption : hsI Co (Int.toNat x1) v5_3 v5_4) (by omega) (by
          intro u9 hu9 hm9
          rw [← e21]
          exact hfk24.1 (by omega) u9 hu9 hm9)
        refine r_iconst (pc := 34) (v := iv 0) dX6_haveSameColours_34 (by decide) ?_
        exact r_zret (pc := 35) dX6_haveSameColours_35 rfl (iv_nar (by omega)) ⟨rfl, ht3, _, rfl, by omega, fun _ p9 h9 g9 => hno p9 h9 g9⟩
  refine Rn.pick (lv' := [(0, .ref s), (1, .int (iv x1)), (2, .int (iv x2)), (3, .int (iv 0)), (4, .int (iv 0))]) [2, 3, 4, 1, 0] rfl ?_
  exact B5 (Int.toNat (16 - 0)) _ ht 0 0 ⟨by omega, by omega, by omega, by omega, by omega, by (first | exact hhs | exact hs_0)⟩ (by omega)
