set_option maxHeartbeats 4000000 in
set_option maxRecDepth 100000 in
theorem c_X8_farx {D : va_G} {cI cJ cZ cT : ClassId} {lo b L : Nat} {xs : Nat → Int32} {hp : MH} {n d : Nat} {Γ : TG} {rA rL : Nat} {Nx : Nat → Int} {R : Nat → Nat → Prop} {x1 : Int} (hd0 : 1 ≤ d) (hrA : rd Γ rA (xI cI rL Nx)) (hrR : Rfx rL 0 65535 Nx) (hrL : rL ≤ 16) (hrw : rwP Nx rL R) (ht : Tw Γ hp) (hx1 : 0 ≤ x1 ∧ x1 ≤ 15) : Mt (gG D cI cJ cZ cT lo b L xs) mX8_far d 0 0 [.ref rA, .int (iv x1)] hp n (pI Γ n (fun r => (0 ≤ r ∧ r ≤ 16) ∧ frP R (Int.toNat x1) (Int.toNat r))) := by
  refine Mt.of rfl (Nat.le_of_ble_eq_true rfl) ?_
  refine Rn.pick (lv' := [(0, .ref rA), (1, .int (iv x1))]) [0, 1] rfl ?_
  refine r_iconst (pc := 0) (v := iv 1) dX8_far_0 (by decide) ?_
  refine r_iload_n (pc := 1) dX8_far_1 (i := 1) rfl rfl ?_
  refine r_ishl (pc := 2) (v := iv ((2 ^ Int.toNat x1 : Nat) : Int)) dX8_far_2 (shl_e (by omega)) ?_
  have mp2_1 : 1 ≤ 2 ^ Int.toNat x1 := Nat.one_le_two_pow
  have mq2_2 : 2 ^ Int.toNat x1 ≤ 2 ^ 15 := Nat.pow_le_pow_right (by omega) (by omega)
  have ms2 := Me_shl (Int.toNat x1)
  refine r_istore_n (pc := 3) (lv' := [(2, .int (iv ((2 ^ Int.toNat x1 : Nat) : Int))), (0, .ref rA), (1, .int (iv x1))]) dX8_far_3 (i := 2) rfl (by decide) rfl ?_
  refine r_iload_n (pc := 4) dX8_far_4 (i := 2) rfl rfl ?_
  refine r_istore_n (pc := 5) (lv' := [(3, .int (iv ((2 ^ Int.toNat x1 : Nat) : Int))), (2, .int (iv ((2 ^ Int.toNat x1 : Nat) : Int))), (0, .ref rA), (1, .int (iv x1))]) dX8_far_5 (i := 3) rfl (by decide) rfl ?_
  refine r_iconst (pc := 6) (v := iv 0) dX8_far_6 (by decide) ?_
  refine r_istore (pc := 7) (lv' := [(4, .int (iv 0)), (3, .int (iv ((2 ^ Int.toNat x1 : Nat) : Int))), (2, .int (iv ((2 ^ Int.toNat x1 : Nat) : Int))), (0, .ref rA), (1, .int (iv x1))]) dX8_far_7 (by decide) rfl ?_
  refine r_iconst (pc := 9) (v := iv 0) dX8_far_9 (by decide) ?_
  refine r_istore (pc := 10) (lv' := [(5, .int (iv 0)), (4, .int (iv 0)), (3, .int (iv ((2 ^ Int.toNat x1 : Nat) : Int))), (2, .int (iv ((2 ^ Int.toNat x1 : Nat) : Int))), (0, .ref rA), (1, .int (iv x1))]) dX8_far_10 (by decide) rfl ?_
  have B12 : ∀ k : Nat, ∀ hp12 : MH, Tw Γ hp12 → ∀  (v12_2 : Int) (v12_3 : Int) (v12_4 : Int) (v12_5 : Int), 1 ≤ v12_2 ∧ v12_2 ≤ 65535 ∧ ((2 ^ Int.toNat x1 : Nat) : Int) ≤ v12_2 ∧ 0 ≤ v12_3 ∧ v12_3 ≤ 65535 ∧ 0 ≤ v12_4 ∧ v12_4 ≤ 16 ∧ 0 ≤ v12_5 ∧ v12_5 ≤ 16 ∧ (v12_4 ≤ v12_5) ∧ (fwP R (Int.toNat x1) v12_2 v12_3 v12_4 v12_5) → 16 - v12_5 ≤ (k : Int) → Rn (gG D cI cJ cZ cT lo b L xs) mX8_far d 12 [(0, .ref rA), (2, .int (iv v12_2)), (3, .int (iv v12_3)), (4, .int (iv v12_4)), (5, .int (iv v12_5))] [] hp12 n 0 0 (pI Γ n (fun r => (0 ≤ r ∧ r ≤ 16) ∧ frP R (Int.toNat x1) (Int.toNat r))) := by
    refine lpS _ ?_
    intro k12 ih12 hp12 ht12 v12_2 v12_3 v12_4 v12_5 hf12 hm12
    obtain ⟨hf12_0, hf12_1, hf12_2, hf12_3, hf12_4, hf12_5, hf12_6, hf12_7, hf12_8, hf12_9, ha12_10⟩ := hf12
    refine r_iload (pc := 12) dX8_far_12 rfl ?_
    refine r_bipush (pc := 14) (v := iv 16) dX8_far_14 (by decide) ?_
    refine t_icmp_ge (pc := 16) (tgt := 57) dX8_far_16 (by decide) (by omega) (by omega) (fun c16 => ?_) (fun c16 => ?_)
    · refine r_iload (pc := 57) dX8_far_57 rfl ?_
      exact r_iret (pc := 59) dX8_far_59 rfl ⟨rfl, ht12, _, rfl, by omega, fw_end (by assumption) (by omega) (by omega)⟩
    · refine r_iload_n (pc := 19) dX8_far_19 (i := 3) rfl rfl ?_
      refine t_if_eq (pc := 20) (tgt := 57) dX8_far_20 (by decide) (by omega) (fun c20 => ?_) (fun c20 => ?_)
      · refine r_iload (pc := 57) dX8_far_57 rfl ?_
        exact r_iret (pc := 59) dX8_far_59 rfl ⟨rfl, ht12, _, rfl, by omega, fw_end (by assumption) (by omega) (by omega)⟩
      · refine r_aload_n (pc := 23) dX8_far_23 (i := 0) rfl rfl ?_
        refine r_iload_n (pc := 24) dX8_far_24 (i := 3) rfl rfl ?_
        refine t_callSI (pc := 25) (as := [.ref rA, .int (iv v12_3)]) (st := []) kX8_21 dX8_far_25 (t_X8_spreadx (d := d - 1) (Nx := Nx) (x1 := v12_3) (by omega) hrA hrR hrL ht12 (by omega)) rfl (by omega) (Nat.le_of_ble_eq_true rfl) rfl (fun hp4 y3 ht5 by3 => ?_)
        obtain ⟨by31, hsp25⟩ := by3
        refine r_iload_n (pc := 28) dX8_far_28 (i := 2) rfl rfl ?_
        refine r_iconst (pc := 29) (v := iv (-1)) dX8_far_29 (by decide) ?_
        refine r_ixor (pc := 30) (v := iv (-v12_2 - 1)) dX8_far_30 (iv_not _) ?_
        obtain ⟨z6, hz6, bz6⟩ := and_l y3 (-v12_2 - 1) (by omega) (by omega)
        refine r_iand (pc := 31) (v := iv z6) dX8_far_31 hz6 ?_
        have mez6 := Me_not (y := v12_2) hz6 (by omega) (by omega) (by omega)
        have hE31 := mez6
        refine r_istore_n (pc := 32) (lv' := [(3, .int (iv z6)), (0, .ref rA), (2, .int (iv v12_2)), (4, .int (iv v12_4)), (5, .int (iv v12_5))]) dX8_far_32 (i := 3) rfl (by decide) rfl ?_
        refine r_iload_n (pc := 33) dX8_far_33 (i := 2) rfl rfl ?_
        refine r_iload_n (pc := 34) dX8_far_34 (i := 3) rfl rfl ?_
        obtain ⟨z7, hz7, bz7⟩ := or_2 16 v12_2 z6 (by omega) (by omega) (by decide)
        refine r_ior (pc := 35) (v := iv z7) dX8_far_35 hz7 ?_
        have mez7 := Me_or hz7 (by omega) (by omega) (by omega)
        have hS35 := mez7
        refine r_istore_n (pc := 36) (lv' := [(2, .int (iv z7)), (3, .int (iv z6)), (0, .ref rA), (4, .int (iv v12_4)), (5, .int (iv v12_5))]) dX8_far_36 (i := 2) rfl (by decide) rfl ?_
        refine r_iload (pc := 37) dX8_far_37 rfl ?_
        refine r_iload_n (pc := 39) dX8_far_39 (i := 3) rfl rfl ?_
        refine t_if_ne (pc := 40) (tgt := 47) dX8_far_40 (by decide) (by omega) (fun c40 => ?_) (fun c40 => ?_)
        · refine r_iconst (pc := 47) (v := iv 1) dX8_far_47 (by decide) ?_
          refine r_iadd (pc := 48) (v := iv (v12_4 + 1)) dX8_far_48 (iv_add _ _) ?_
          refine r_istore (pc := 49) (lv' := [(4, .int (iv (v12_4 + 1))), (2, .int (iv z7)), (3, .int (iv z6)), (0, .ref rA), (5, .int (iv v12_5))]) dX8_far_49 (by decide) rfl ?_
          refine r_iinc (pc := 51) (v := iv (v12_5 + 1)) (lv' := [(5, .int (iv (v12_5 + 1))), (4, .int (iv (v12_4 + 1))), (2, .int (iv z7)), (3, .int (iv z6)), (0, .ref rA)]) dX8_far_51 rfl (iv_add _ _) (by decide) rfl ?_
          refine r_goto (pc := 54) (tgt := 12) dX8_far_54 (by decide) ?_
          refine Rn.pick (lv' := [(0, .ref rA), (2, .int (iv z7)), (3, .int (iv z6)), (4, .int (iv (v12_4 + 1))), (5, .int (iv (v12_5 + 1)))]) [4, 2, 3, 1, 0] rfl ?_
          exact ih12 (Int.toNat (16 - (v12_5 + 1))) (by omega) _ ht5 z7 z6 (v12_4 + 1) (v12_5 + 1) ⟨by omega, by omega, by omega, by omega, by omega, by omega, by omega, by omega, by omega, by omega, by (first | exact fw_0 ms2 (by omega) (by omega) | exact fw_st (by assumption) (by omega) (by omega) (by omega) hrw hsp25 hE31 hS35 (Or.inl ⟨by omega, by omega⟩) | exact fw_st (by assumption) (by omega) (by omega) (by omega) hrw hsp25 hE31 hS35 (Or.inr ⟨by omega, by omega⟩))⟩ (by omega)
        · refine r_iconst (pc := 43) (v := iv 0) dX8_far_43 (by decide) ?_
          refine r_goto (pc := 44) (tgt := 48) dX8_far_44 (by decide) ?_
          refine r_iadd (pc := 48) (v := iv (v12_4 + 0)) dX8_far_48 (iv_add _ _) ?_
          refine r_istore (pc := 49) (lv' := [(4, .int (iv (v12_4 + 0))), (2, .int (iv z7)), (3, .int (iv z6)), (0, .ref rA), (5, .int (iv v12_5))]) dX8_far_49 (by decide) rfl ?_
          refine r_iinc (pc := 51) (v := iv (v12_5 + 1)) (lv' := [(5, .int (iv (v12_5 + 1))), (4, .int (iv (v12_4 + 0))), (2, .int (iv z7)), (3, .int (iv z6)), (0, .ref rA)]) dX8_far_51 rfl (iv_add _ _) (by decide) rfl ?_
          refine r_goto (pc := 54) (tgt := 12) dX8_far_54 (by decide) ?_
          refine Rn.pick (lv' := [(0, .ref rA), (2, .int (iv z7)), (3, .int (iv z6)), (4, .int (iv (v12_4 + 0))), (5, .int (iv (v12_5 + 1)))]) [4, 2, 3, 1, 0] rfl ?_
          exact ih12 (Int.toNat (16 - (v12_5 + 1))) (by omega) _ ht5 z7 z6 (v12_4 + 0) (v12_5 + 1) ⟨by omega, by omega, by omega, by omega, by omega, by omega, by omega, by omega, by omega, by omega, by (first | exact fw_0 ms2 (by omega) (by omega) | exact fw_st (by assumption) (by omega) (by omega) (by omega) hrw hsp25 hE31 hS35 (Or.inl ⟨by omega, by omega⟩) | exact fw_st (by assumption) (by omega) (by omega) (by omega) hrw hsp25 hE31 hS35 (Or.inr ⟨by omega, by omega⟩))⟩ (by omega)
  refine Rn.pick (lv' := [(0, .ref rA), (2, .int (iv ((2 ^ Int.toNat x1 : Nat) : Int))), (3, .int (iv ((2 ^ Int.toNat x1 : Nat) : Int))), (4, .int (iv 0)), (5, .int (iv 0))]) [4, 3, 2, 1, 0] rfl ?_
  exact B12 (Int.toNat (16 - 0)) _ ht ((2 ^ Int.toNat x1 : Nat) : Int) ((2 ^ Int.toNat x1 : Nat) : Int) 0 0 ⟨by omega, by omega, by omega, by omega, by omega, by omega, by omega, by omega, by omega, by omega, by (first | exact fw_0 ms2 (by omega) (by omega) | exact fw_st (by assumption) (by omega) (by omega) (by omega) hrw hsp25 hE31 hS35 (Or.inl ⟨by omega, by omega⟩) | exact fw_st (by assumption) (by omega) (by omega) (by omega) hrw hsp25 hE31 hS35 (Or.inr ⟨by omega, by omega⟩))⟩ (by omega)
