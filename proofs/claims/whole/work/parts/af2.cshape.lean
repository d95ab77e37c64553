set_option maxHeartbeats 4000000 in
set_option maxRecDepth 100000 in
theorem c_X8_distancex {D : va_G} {cI cJ cZ cT : ClassId} {lo b L : Nat} {xs : Nat → Int32} {hp : MH} {n d : Nat} {Γ : TG} {rA rL av : Nat} {Nx : Nat → Int} {R : Nat → Nat → Prop} {x1 x2 : Int} (hd0 : 1 ≤ d) (hrA : rd Γ rA (xI cI rL Nx)) (hrR : Rfx rL 0 65535 Nx) (hrL : rL ≤ 16) (hrw : rwP Nx rL R) (ht : Tw Γ hp) (hx1 : 0 ≤ x1 ∧ x1 ≤ 65535) (hx2 : 0 ≤ x2 ∧ x2 ≤ 15) (hav : av < 16) (hst1 : ∀ i, Me x1 i ↔ i = av) : Mt (gG D cI cJ cZ cT lo b L xs) mX8_distance d 0 0 [.ref rA, .int (iv x1), .int (iv x2)] hp n (pI Γ n (fun r => (-1 ≤ r ∧ r ≤ 16) ∧ (0 ≤ r ↔ RC R (fun x => x = av) (Int.toNat x2)))) := by
  refine Mt.of rfl (Nat.le_of_ble_eq_true rfl) ?_
  refine Rn.pick (lv' := [(0, .ref rA), (1, .int (iv x1)), (2, .int (iv x2))]) [0, 1, 2] rfl ?_
  refine r_iload_n (pc := 0) dX8_distance_0 (i := 1) rfl rfl ?_
  refine r_istore_n (pc := 1) (lv' := [(3, .int (iv x1)), (0, .ref rA), (1, .int (iv x1)), (2, .int (iv x2))]) dX8_distance_1 (i := 3) rfl (by decide) rfl ?_
  refine r_iload_n (pc := 2) dX8_distance_2 (i := 1) rfl rfl ?_
  refine r_istore (pc := 3) (lv' := [(4, .int (iv x1)), (3, .int (iv x1)), (0, .ref rA), (1, .int (iv x1)), (2, .int (iv x2))]) dX8_distance_3 (by decide) rfl ?_
  refine r_iconst (pc := 5) (v := iv 0) dX8_distance_5 (by decide) ?_
  refine r_istore (pc := 6) (lv' := [(5, .int (iv 0)), (4, .int (iv x1)), (3, .int (iv x1)), (0, .ref rA), (1, .int (iv x1)), (2, .int (iv x2))]) dX8_distance_6 (by decide) rfl ?_
  have B8 : ∀ k : Nat, ∀ hp8 : MH, Tw Γ hp8 → ∀  (v8_3 : Int) (v8_4 : Int) (v8_5 : Int), 0 ≤ v8_3 ∧ v8_3 ≤ 65535 ∧ x1 ≤ v8_3 ∧ 0 ≤ v8_4 ∧ v8_4 ≤ 65535 ∧ 0 ≤ v8_5 ∧ v8_5 ≤ 17 ∧ (dqP R av (Int.toNat x2) v8_3 v8_4 v8_5) → 17 - v8_5 ≤ (k : Int) → Rn (gG D cI cJ cZ cT lo b L xs) mX8_distance d 8 [(0, .ref rA), (2, .int (iv x2)), (3, .int (iv v8_3)), (4, .int (iv v8_4)), (5, .int (iv v8_5))] [] hp8 n 0 0 (pI Γ n (fun r => (-1 ≤ r ∧ r ≤ 16) ∧ (0 ≤ r ↔ RC R (fun x => x = av) (Int.toNat x2)))) := by
    refine lpS _ ?_
    intro k8 ih8 hp8 ht8 v8_3 v8_4 v8_5 hf8 hm8
    obtain ⟨hf8_0, hf8_1, hf8_2, hf8_3, hf8_4, hf8_5, hf8_6, ha8_7⟩ := hf8
    refine r_iload (pc := 8) dX8_distance_8 rfl ?_
    refine r_bipush (pc := 10) (v := iv 16) dX8_distance_10 (by decide) ?_
    refine t_icmp_gt (pc := 12) (tgt := 54) dX8_distance_12 (by decide) (by omega) (by omega) (fun c12 => ?_) (fun c12 => ?_)
    · refine r_iconst (pc := 54) (v := iv (-1)) dX8_distance_54 (by decide) ?_
      exact r_iret (pc := 55) dX8_distance_55 rfl ⟨rfl, ht8, _, rfl, by omega, fun h9 => by omega, fun h9 => absurd h9 (dq_no (by assumption : dqP R av (Int.toNat x2) v8_3 v8_4 v8_5) (by omega) (by omega))⟩
    · refine r_iload (pc := 15) dX8_distance_15 rfl ?_
      refine t_if_eq (pc := 17) (tgt := 54) dX8_distance_17 (by decide) (by omega) (fun c17 => ?_) (fun c17 => ?_)
      · refine r_iconst (pc := 54) (v := iv (-1)) dX8_distance_54 (by decide) ?_
        exact r_iret (pc := 55) dX8_distance_55 rfl ⟨rfl, ht8, _, rfl, by omega, fun h9 => by omega, fun h9 => absurd h9 (dq_no (by assumption : dqP R av (Int.toNat x2) v8_3 v8_4 v8_5) (by omega) (by omega))⟩
      · refine r_iload_n (pc := 20) dX8_distance_20 (i := 3) rfl rfl ?_
        refine r_iload_n (pc := 21) dX8_distance_21 (i := 2) rfl rfl ?_
        have hq22_1 := shr_le (Int.toNat v8_3) (Int.toNat x2)
        refine r_ishr (pc := 22) (v := iv ((Int.toNat v8_3 >>> Int.toNat x2 : Nat) : Int)) dX8_distance_22 (shr_e (by omega) (by omega)) ?_
        refine r_iconst (pc := 23) (v := iv 1) dX8_distance_23 (by decide) ?_
        refine r_iand (pc := 24) (v := iv (((Int.toNat v8_3 >>> Int.toNat x2 : Nat) : Int) % 2)) dX8_distance_24 (and1_e _ (by omega)) ?_
        have mb24 := @Me_bit v8_3 x2
        refine t_if_eq (pc := 25) (tgt := 31) dX8_distance_25 (by decide) (by omega) (fun c25 => ?_) (fun c25 => ?_)
        · have nm25 : ¬ Me v8_3 (Int.toNat x2) := fun h9 => absurd (Me_bit.mpr h9) (by omega)
          refine r_aload_n (pc := 31) dX8_distance_31 (i := 0) rfl rfl ?_
          refine r_iload (pc := 32) dX8_distance_32 rfl ?_
          refine t_callSI (pc := 34) (as := [.ref rA, .int (iv v8_4)]) (st := []) kX8_21 dX8_distance_34 (t_X8_spreadx (d := d - 1) (Nx := Nx) (x1 := v8_4) (by omega) hrA hrR hrL ht8 (by omega)) rfl (by omega) (Nat.le_of_ble_eq_true rfl) rfl (fun hp3 y2 ht4 by2 => ?_)
          obtain ⟨by21, hsp34⟩ := by2
          refine r_iload_n (pc := 37) dX8_distance_37 (i := 3) rfl rfl ?_
          refine r_iconst (pc := 38) (v := iv (-1)) dX8_distance_38 (by decide) ?_
          refine r_ixor (pc := 39) (v := iv (-v8_3 - 1)) dX8_distance_39 (iv_not _) ?_
          obtain ⟨z5, hz5, bz5⟩ := and_l y2 (-v8_3 - 1) (by omega) (by omega)
          refine r_iand (pc := 40) (v := iv z5) dX8_distance_40 hz5 ?_
          have mez5 := Me_not (y := v8_3) hz5 (by omega) (by omega) (by omega)
          have hE40 := mez5
          refine r_istore (pc := 41) (lv' := [(4, .int (iv z5)), (0, .ref rA), (2, .int (iv x2)), (3, .int (iv v8_3)), (5, .int (iv v8_5))]) dX8_distance_41 (by decide) rfl ?_
          refine r_iload_n (pc := 43) dX8_distance_43 (i := 3) rfl rfl ?_
          refine r_iload (pc := 44) dX8_distance_44 rfl ?_
          obtain ⟨z6, hz6, bz6⟩ := or_2 16 v8_3 z5 (by omega) (by omega) (by decide)
          refine r_ior (pc := 46) (v := iv z6) dX8_distance_46 hz6 ?_
          have mez6 := Me_or hz6 (by omega) (by omega) (by omega)
          have hS46 := mez6
          refine r_istore_n (pc := 47) (lv' := [(3, .int (iv z6)), (4, .int (iv z5)), (0, .ref rA), (2, .int (iv x2)), (5, .int (iv v8_5))]) dX8_distance_47 (i := 3) rfl (by decide) rfl ?_
          refine r_iinc (pc := 48) (v := iv (v8_5 + 1)) (lv' := [(5, .int (iv (v8_5 + 1))), (3, .int (iv z6)), (4, .int (iv z5)), (0, .ref rA), (2, .int (iv x2))]) dX8_distance_48 rfl (iv_add _ _) (by decide) rfl ?_
          refine r_goto (pc := 51) (tgt := 8) dX8_distance_51 (by decide) ?_
          refine Rn.pick (lv' := [(0, .ref rA), (2, .int (iv x2)), (3, .int (iv z6)), (4, .int (iv z5)), (5, .int (iv (v8_5 + 1)))]) [3, 4, 1, 2, 0] rfl ?_
          exact ih8 (Int.toNat (17 - (v8_5 + 1))) (by omega) _ ht4 z6 z5 (v8_5 + 1) ⟨by omega, by omega, by omega, by omega, by omega, by omega, by omega, by (first | exact dq_0 hst1 hav | exact dq_st (by assumption) nm25 (by omega) (by omega) hrw hsp34 hE40 hS46)⟩ (by omega)
        · have pm25 : Me v8_3 (Int.toNat x2) := Me_bit.mp (by omega)
          refine r_iload (pc := 28) dX8_distance_28 rfl ?_
          exact r_iret (pc := 30) dX8_distance_30 rfl ⟨rfl, ht8, _, rfl, by omega, fun _ => (by assumption : dqP R av (Int.toNat x2) v8_3 v8_4 v8_5).1 _ pm25, fun _ => by omega⟩
  refine Rn.pick (lv' := [(0, .ref rA), (2, .int (iv x2)), (3, .int (iv x1)), (4, .int (iv x1)), (5, .int (iv 0))]) [3, 5, 2, 1, 0] rfl ?_
  exact B8 (Int.toNat (17 - 0)) _ ht x1 x1 0 ⟨by omega, by omega, by omega, by omega, by omega, by omega, by omega, by (first | exact dq_0 hst1 hav | exact dq_st (by assumption) nm25 (by omega) (by omega) hrw hsp34 hE40 hS46)⟩ (by omega)
