set_option maxHeartbeats 4000000 in
set_option maxRecDepth 100000 in
theorem c_X7_leastDegreex {D : va_G} {cI cJ cZ cT : ClassId} {lo b L : Nat} {xs : Nat → Int32} {hp : MH} {n d : Nat} {Γ : TG} {s : Nat} {Ml : Nat → Int} {x1 : Int} (hd0 : 1 ≤ d) (hO : rd Γ s (tO 7 [fE (.ref (s + 1)), fE (.ref (s + 2)), fE (.ref (s + 3)), fE (.ref (s + 4)), fE (.ref (s + 5))])) (hm : rd Γ (s + 4) (xI cI 16 Ml)) (hmR : Rfx 16 0 65535 Ml) (ht : Tw Γ hp) (hx1 : 0 ≤ x1 ∧ x1 ≤ 65535) (hdg : ∀ u, Me x1 u → bcI (Ml u) 16 ≤ 15) : Mt (gG D cI cJ cZ cT lo b L xs) mX7_leastDegree d 0 0 [.ref s, .int (iv x1)] hp n (pI Γ n (fun r => (0 ≤ r ∧ r ≤ 15) ∧ ∀ u0, Me x1 u0 → Me x1 (Int.toNat r) ∧ ∀ u, Me x1 u → bcI (Ml (Int.toNat r)) 16 ≤ bcI (Ml u) 16)) := by
  refine Mt.of rfl (Nat.le_of_ble_eq_true rfl) ?_
  refine Rn.pick (lv' := [(0, .ref s), (1, .int (iv x1))]) [0, 1] rfl ?_
  refine r_iconst (pc := 0) (v := iv 0) dX7_leastDegree_0 (by decide) ?_
  refine r_istore_n (pc := 1) (lv' := [(2, .int (iv 0)), (0, .ref s), (1, .int (iv x1))]) dX7_leastDegree_1 (i := 2) rfl (by decide) rfl ?_
  refine r_bipush (pc := 2) (v := iv 16) dX7_leastDegree_2 (by decide) ?_
  refine r_istore_n (pc := 4) (lv' := [(3, .int (iv 16)), (2, .int (iv 0)), (0, .ref s), (1, .int (iv x1))]) dX7_leastDegree_4 (i := 3) rfl (by decide) rfl ?_
  refine r_iconst (pc := 5) (v := iv 0) dX7_leastDegree_5 (by decide) ?_
  refine r_istore (pc := 6) (lv' := [(4, .int (iv 0)), (3, .int (iv 16)), (2, .int (iv 0)), (0, .ref s), (1, .int (iv x1))]) dX7_leastDegree_6 (by decide) rfl ?_
  have B8 : ∀ k : Nat, ∀ hp8 : MH, Tw Γ hp8 → ∀  (v8_2 : Int) (v8_3 : Int) (v8_4 : Int), 0 ≤ v8_2 ∧ v8_2 ≤ 15 ∧ 0 ≤ v8_3 ∧ v8_3 ≤ 16 ∧ 0 ≤ v8_4 ∧ v8_4 ≤ 16 ∧ (ldgI Ml x1 v8_4 v8_2 v8_3) → 16 - v8_4 ≤ (k : Int) → Rn (gG D cI cJ cZ cT lo b L xs) mX7_leastDegree d 8 [(0, .ref s), (1, .int (iv x1)), (2, .int (iv v8_2)), (3, .int (iv v8_3)), (4, .int (iv v8_4))] [] hp8 n 0 0 (pI Γ n (fun r => (0 ≤ r ∧ r ≤ 15) ∧ ∀ u0, Me x1 u0 → Me x1 (Int.toNat r) ∧ ∀ u, Me x1 u → bcI (Ml (Int.toNat r)) 16 ≤ bcI (Ml u) 16)) := by
    refine lpS _ ?_
    intro k8 ih8 hp8 ht8 v8_2 v8_3 v8_4 hf8 hm8
    obtain ⟨hf8_0, hf8_1, hf8_2, hf8_3, hf8_4, hf8_5, ha8_6⟩ := hf8
    refine r_iload (pc := 8) dX7_leastDegree_8 rfl ?_
    refine r_bipush (pc := 10) (v := iv 16) dX7_leastDegree_10 (by decide) ?_
    refine t_icmp_ge (pc := 12) (tgt := 62) dX7_leastDegree_12 (by decide) (by omega) (by omega) (fun c12 => ?_) (fun c12 => ?_)
    · refine r_iload_n (pc := 62) dX7_leastDegree_62 (i := 2) rfl rfl ?_
      exact r_iret (pc := 63) dX7_leastDegree_63 rfl ⟨rfl, ht8, _, rfl, by omega, fun u9 hu9 => ldg_e (show ldgI Ml x1 16 v8_2 v8_3 from (show v8_4 = 16 by omega) ▸ (by assumption : ldgI Ml x1 v8_4 v8_2 v8_3)) (by omega) hu9⟩
    · refine r_iload_n (pc := 15) dX7_leastDegree_15 (i := 1) rfl rfl ?_
      refine r_iload (pc := 16) dX7_leastDegree_16 rfl ?_
      have hq18_1 := shr_le (Int.toNat x1) (Int.toNat v8_4)
      refine r_ishr (pc := 18) (v := iv ((Int.toNat x1 >>> Int.toNat v8_4 : Nat) : Int)) dX7_leastDegree_18 (shr_e (by omega) (by omega)) ?_
      refine r_iconst (pc := 19) (v := iv 1) dX7_leastDegree_19 (by decide) ?_
      refine r_iand (pc := 20) (v := iv (((Int.toNat x1 >>> Int.toNat v8_4 : Nat) : Int) % 2)) dX7_leastDegree_20 (and1_e _ (by omega)) ?_
      have mb20 := @Me_bit x1 v8_4
      refine t_if_eq (pc := 21) (tgt := 56) dX7_leastDegree_21 (by decide) (by omega) (fun c21 => ?_) (fun c21 => ?_)
      · have nm21 : ¬ Me x1 (Int.toNat v8_4) := fun h9 => absurd (Me_bit.mpr h9) (by omega)
        have hld := ldg_sk (by assumption : ldgI Ml x1 v8_4 v8_2 v8_3) (by omega) nm21
        refine r_iinc (pc := 56) (v := iv (v8_4 + 1)) (lv' := [(4, .int (iv (v8_4 + 1))), (0, .ref s), (1, .int (iv x1)), (2, .int (iv v8_2)), (3, .int (iv v8_3))]) dX7_leastDegree_56 rfl (iv_add _ _) (by decide) rfl ?_
        refine r_goto (pc := 59) (tgt := 8) dX7_leastDegree_59 (by decide) ?_
        refine Rn.pick (lv' := [(0, .ref s), (1, .int (iv x1)), (2, .int (iv v8_2)), (3, .int (iv v8_3)), (4, .int (iv (v8_4 + 1)))]) [1, 2, 3, 4, 0] rfl ?_
        exact ih8 (Int.toNat (16 - (v8_4 + 1))) (by omega) _ ht8 v8_2 v8_3 (v8_4 + 1) ⟨by omega, by omega, by omega, by omega, by omega, by omega, by (first | exact hld | exact ldg_0)⟩ (by omega)
      · have pm21 : Me x1 (Int.toNat v8_4) := Me_bit.mp (by omega)
        have h15 := hdg _ pm21
        refine r_aload_n (pc := 24) dX7_leastDegree_24 (i := 0) rfl rfl ?_
        refine t_getE (pc := 25) (.ref (s + 4)) ht8 hO fX7_21 dX7_leastDegree_25 rfl ?_
        refine r_iload (pc := 28) dX7_leastDegree_28 rfl ?_
        refine t_ialdX (pc := 30) (t0 := 0) ht8 hm dX7_leastDegree_30 rfl (by decide) (by omega) (fun b2 => ?_)
        have rb2 := (show Rfx 16 0 65535 Ml by assumption) (Int.toNat v8_4) (by omega)
        refine t_callSI (pc := 31) (as := [.int (iv (Ml (Int.toNat v8_4)))]) (st := []) kX7_52 dX7_leastDegree_31 (t_bitCountx (d := d - 1) (x := Ml (Int.toNat v8_4)) (by omega) ht8 (by omega)) rfl (by omega) (Nat.le_of_ble_eq_true rfl) rfl (fun hp4 y3 ht5 by3 => ?_)
        have ey3 : y3 = bcI (Ml (Int.toNat v8_4)) 16 := by3
        subst ey3
        have ry3 := bc_le (Ml (Int.toNat v8_4)) 16
        refine r_istore (pc := 34) (lv' := [(5, .int (iv (bcI (Ml (Int.toNat v8_4)) 16))), (0, .ref s), (1, .int (iv x1)), (2, .int (iv v8_2)), (3, .int (iv v8_3)), (4, .int (iv v8_4))]) dX7_leastDegree_34 (by decide) rfl ?_
        refine r_iload (pc := 36) dX7_leastDegree_36 rfl ?_
        refine r_iload_n (pc := 38) dX7_leastDegree_38 (i := 3) rfl rfl ?_
        refine t_icmp_ge (pc := 39) (tgt := 47) dX7_leastDegree_39 (by decide) (by omega) (by omega) (fun c39 => ?_) (fun c39 => ?_)
        · refine r_iload_n (pc := 47) dX7_leastDegree_47 (i := 2) rfl rfl ?_
          refine r_istore_n (pc := 48) (lv' := [(2, .int (iv v8_2)), (5, .int (iv (bcI (Ml (Int.toNat v8_4)) 16))), (0, .ref s), (1, .int (iv x1)), (3, .int (iv v8_3)), (4, .int (iv v8_4))]) dX7_leastDegree_48 (i := 2) rfl (by decide) rfl ?_
          refine r_iload_n (pc := 49) dX7_leastDegree_49 (i := 3) rfl rfl ?_
          refine r_iload (pc := 50) dX7_leastDegree_50 rfl ?_
          obtain ⟨z6, hz6, bz6⟩ := min_b v8_3 (bcI (Ml (Int.toNat v8_4)) 16) (by omega) (by omega)
          refine r_mmin (pc := 52) (v := iv z6) qX7_113 dX7_leastDegree_52 (Nat.le_of_ble_eq_true rfl) hz6 ?_
          refine r_istore_n (pc := 55) (lv' := [(3, .int (iv z6)), (2, .int (iv v8_2)), (5, .int (iv (bcI (Ml (Int.toNat v8_4)) 16))), (0, .ref s), (1, .int (iv x1)), (4, .int (iv v8_4))]) dX7_leastDegree_55 (i := 3) rfl (by decide) rfl ?_
          have hld : ldgI Ml x1 (v8_4 + 1) v8_2 z6 := ldg_st (by assumption : ldgI Ml x1 v8_4 v8_2 v8_3) (by omega) pm21 h15 (by omega)
          refine r_iinc (pc := 56) (v := iv (v8_4 + 1)) (lv' := [(4, .int (iv (v8_4 + 1))), (3, .int (iv z6)), (2, .int (iv v8_2)), (5, .int (iv (bcI (Ml (Int.toNat v8_4)) 16))), (0, .ref s), (1, .int (iv x1))]) dX7_leastDegree_56 rfl (iv_add _ _) (by decide) rfl ?_
          refine r_goto (pc := 59) (tgt := 8) dX7_leastDegree_59 (by decide) ?_
          refine Rn.pick (lv' := [(0, .ref s), (1, .int (iv x1)), (2, .int (iv v8_2)), (3, .int (iv z6)), (4, .int (iv (v8_4 + 1)))]) [4, 5, 2, 1, 0] rfl ?_
          exact ih8 (Int.toNat (16 - (v8_4 + 1))) (by omega) _ ht5 v8_2 z6 (v8_4 + 1) ⟨by omega, by omega, by omega, by omega, by omega, by omega, by (first | exact hld | exact ldg_0)⟩ (by omega)
        · refine r_iload (pc := 42) dX7_leastDegree_42 rfl ?_
          refine r_goto (pc := 44) (tgt := 48) dX7_leastDegree_44 (by decide) ?_
          refine r_istore_n (pc := 48) (lv' := [(2, .int (iv v8_4)), (5, .int (iv (bcI (Ml (Int.toNat v8_4)) 16))), (0, .ref s), (1, .int (iv x1)), (3, .int (iv v8_3)), (4, .int (iv v8_4))]) dX7_leastDegree_48 (i := 2) rfl (by decide) rfl ?_
          refine r_iload_n (pc := 49) dX7_leastDegree_49 (i := 3) rfl rfl ?_
          refine r_iload (pc := 50) dX7_leastDegree_50 rfl ?_
          obtain ⟨z7, hz7, bz7⟩ := min_b v8_3 (bcI (Ml (Int.toNat v8_4)) 16) (by omega) (by omega)
          refine r_mmin (pc := 52) (v := iv z7) qX7_113 dX7_leastDegree_52 (Nat.le_of_ble_eq_true rfl) hz7 ?_
          refine r_istore_n (pc := 55) (lv' := [(3, .int (iv z7)), (2, .int (iv v8_4)), (5, .int (iv (bcI (Ml (Int.toNat v8_4)) 16))), (0, .ref s), (1, .int (iv x1)), (4, .int (iv v8_4))]) dX7_leastDegree_55 (i := 3) rfl (by decide) rfl ?_
          have hld : ldgI Ml x1 (v8_4 + 1) v8_4 z7 := ldg_st (by assumption : ldgI Ml x1 v8_4 v8_2 v8_3) (by omega) pm21 h15 (by omega)
          refine r_iinc (pc := 56) (v := iv (v8_4 + 1)) (lv' := [(4, .int (iv (v8_4 + 1))), (3, .int (iv z7)), (2, .int (iv v8_4)), (5, .int (iv (bcI (Ml (Int.toNat v8_4)) 16))), (0, .ref s), (1, .int (iv x1))]) dX7_leastDegree_56 rfl (iv_add _ _) (by decide) rfl ?_
          refine r_goto (pc := 59) (tgt := 8) dX7_leastDegree_59 (by decide) ?_
          refine Rn.pick (lv' := [(0, .ref s), (1, .int (iv x1)), (2, .int (iv v8_4)), (3, .int (iv z7)), (4, .int (iv (v8_4 + 1)))]) [4, 5, 2, 1, 0] rfl ?_
          exact ih8 (Int.toNat (16 - (v8_4 + 1))) (by omega) _ ht5 v8_4 z7 (v8_4 + 1) ⟨by omega, by omega, by omega, by omega, by omega, by omega, by (first | exact hld | exact ldg_0)⟩ (by omega)
  refine Rn.pick (lv' := [(0, .ref s), (1, .int (iv x1)), (2, .int (iv 0)), (3, .int (iv 16)), (4, .int (iv 0))]) [3, 4, 2, 1, 0] rfl ?_
  exact B8 (Int.toNat (16 - 0)) _ ht 0 16 0 ⟨by omega, by omega, by omega, by omega, by omega, by omega, by (first | exact hld | exact ldg_0)⟩ (by omega)
