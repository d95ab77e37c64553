set_option maxHeartbeats 4000000 in
set_option maxRecDepth 100000 in
theorem c_X8_exchangex {D : va_G} {cI cJ cZ cT : ClassId} {lo b L : Nat} {xs : Nat → Int32} {hp : MH} {n d : Nat} {Γ : TG} {s : Nat} {tb : Nat → Int64} {x1 x2 x3 : Int} (hd0 : 0 ≤ d) (hO : rd Γ s (tO 8 [fE (.ref (s + 1))])) (ht : Tw (ov Γ (s + 1) (xJ cJ 256 tb)) hp) (hx1 : 0 ≤ x1 ∧ x1 ≤ 15) (hx2 : 0 ≤ x2 ∧ x2 < x1) (hx3 : 0 ≤ x3 ∧ x3 < x1) (hxx : x2 ≠ x3) : Mt (gG D cI cJ cZ cT lo b L xs) mX8_exchange d 0 0 [.ref s, .int (iv x1), .int (iv x2), .int (iv x3)] hp n (fun r9 hp1 n1 => n1 = n ∧ r9 = none ∧ ∃ tb1 : Nat → Int64, Tw (ov Γ (s + 1) (xJ cJ 256 tb1)) hp1 ∧ xcI tb tb1 (Int.toNat x1) (Int.toNat x2) (Int.toNat x3) (Int.toNat x1)) := by
  refine Mt.of rfl (Nat.le_of_ble_eq_true rfl) ?_
  refine Rn.pick (lv' := [(0, .ref s), (1, .int (iv x1)), (2, .int (iv x2)), (3, .int (iv x3))]) [0, 1, 2, 3] rfl ?_
  refine r_iconst (pc := 0) (v := iv 0) dX8_exchange_0 (by decide) ?_
  refine r_istore (pc := 1) (lv' := [(4, .int (iv 0)), (0, .ref s), (1, .int (iv x1)), (2, .int (iv x2)), (3, .int (iv x3))]) dX8_exchange_1 (by decide) rfl ?_
  have B3 : ∀ k : Nat, ∀ tb3 : Nat → Int64, ∀ hp3 : MH, Tw (ov Γ (s + 1) (xJ cJ 256 tb3)) hp3 → ∀  (v3_4 : Int), 0 ≤ v3_4 ∧ v3_4 ≤ 15 ∧ (v3_4 ≤ x1) ∧ (xcI tb tb3 (Int.toNat x1) (Int.toNat x2) (Int.toNat x3) (Int.toNat v3_4)) → 15 - v3_4 ≤ (k : Int) → Rn (gG D cI cJ cZ cT lo b L xs) mX8_exchange d 3 [(0, .ref s), (1, .int (iv x1)), (2, .int (iv x2)), (3, .int (iv x3)), (4, .int (iv v3_4))] [] hp3 n 0 0 (fun r9 hp1 n1 => n1 = n ∧ r9 = none ∧ ∃ tb1 : Nat → Int64, Tw (ov Γ (s + 1) (xJ cJ 256 tb1)) hp1 ∧ xcI tb tb1 (Int.toNat x1) (Int.toNat x2) (Int.toNat x3) (Int.toNat x1)) := by
    refine lpS _ ?_
    intro k3 ih3 tb3 hp3 ht3 v3_4 hf3 hm3
    obtain ⟨hf3_0, hf3_1, hf3_2, ha3_3⟩ := hf3
    refine r_iload (pc := 3) dX8_exchange_3 rfl ?_
    refine r_iload_n (pc := 5) dX8_exchange_5 (i := 1) rfl rfl ?_
    refine t_icmp_ge (pc := 6) (tgt := 67) dX8_exchange_6 (by decide) (by omega) (by omega) (fun c6 => ?_) (fun c6 => ?_)
    · exact r_vret (pc := 67) dX8_exchange_67 rfl ⟨rfl, rfl, tb3, ht3, by have h9 := (by assumption : xcI tb tb3 (Int.toNat x1) (Int.toNat x2) (Int.toNat x3) (Int.toNat v3_4)); rw [show Int.toNat v3_4 = (Int.toNat x1) by omega] at h9; exact h9⟩
    · refine r_aload_n (pc := 9) dX8_exchange_9 (i := 0) rfl rfl ?_
      refine t_getE (pc := 10) (.ref (s + 1)) ht3 (rd_ov (by omega) hO) fX8_9 dX8_exchange_10 rfl ?_
      refine r_iload_n (pc := 13) dX8_exchange_13 (i := 2) rfl rfl ?_
      refine r_bipush (pc := 14) (v := iv 16) dX8_exchange_14 (by decide) ?_
      refine r_imul (pc := 16) (v := iv (x2 * 16)) dX8_exchange_16 (iv_mul _ _) ?_
      refine r_iload (pc := 17) dX8_exchange_17 rfl ?_
      refine r_iadd (pc := 19) (v := iv ((x2 * 16) + v3_4)) dX8_exchange_19 (iv_add _ _) ?_
      refine t_laldX (pc := 20) (t0 := 1) ht3 (rd_of (ov_s _ _ _)) dX8_exchange_20 rfl (by decide) (by omega) ?_
      refine r_lstore (pc := 21) (lv' := [(5, .long (tb3 (Int.toNat ((x2 * 16) + v3_4)))), (0, .ref s), (1, .int (iv x1)), (2, .int (iv x2)), (3, .int (iv x3)), (4, .int (iv v3_4))]) dX8_exchange_21 (by decide) rfl ?_
      refine r_aload_n (pc := 23) dX8_exchange_23 (i := 0) rfl rfl ?_
      refine t_getE (pc := 24) (.ref (s + 1)) ht3 (rd_ov (by omega) hO) fX8_9 dX8_exchange_24 rfl ?_
      refine r_iload_n (pc := 27) dX8_exchange_27 (i := 2) rfl rfl ?_
      refine r_bipush (pc := 28) (v := iv 16) dX8_exchange_28 (by decide) ?_
      refine r_imul (pc := 30) (v := iv (x2 * 16)) dX8_exchange_30 (iv_mul _ _) ?_
      refine r_iload (pc := 31) dX8_exchange_31 rfl ?_
      refine r_iadd (pc := 33) (v := iv ((x2 * 16) + v3_4)) dX8_exchange_33 (iv_add _ _) ?_
      refine r_aload_n (pc := 34) dX8_exchange_34 (i := 0) rfl rfl ?_
      refine t_getE (pc := 35) (.ref (s + 1)) ht3 (rd_ov (by omega) hO) fX8_9 dX8_exchange_35 rfl ?_
      refine r_iload_n (pc := 38) dX8_exchange_38 (i := 3) rfl rfl ?_
      refine r_bipush (pc := 39) (v := iv 16) dX8_exchange_39 (by decide) ?_
      refine r_imul (pc := 41) (v := iv (x3 * 16)) dX8_exchange_41 (iv_mul _ _) ?_
      refine r_iload (pc := 42) dX8_exchange_42 rfl ?_
      refine r_iadd (pc := 44) (v := iv ((x3 * 16) + v3_4)) dX8_exchange_44 (iv_add _ _) ?_
      refine t_laldX (pc := 45) (t0 := 1) ht3 (rd_of (ov_s _ _ _)) dX8_exchange_45 rfl (by decide) (by omega) ?_
      refine t_lastX (pc := 46) (t0 := 1) ht3 (ov_s _ _ _) dX8_exchange_46 rfl (by decide) (by omega) (fun hp1 ht2 => ?_)
      rw [ov_ov] at ht2
      refine r_aload_n (pc := 47) dX8_exchange_47 (i := 0) rfl rfl ?_
      refine t_getE (pc := 48) (.ref (s + 1)) ht2 (rd_ov (by omega) hO) fX8_9 dX8_exchange_48 rfl ?_
      refine r_iload_n (pc := 51) dX8_exchange_51 (i := 3) rfl rfl ?_
      refine r_bipush (pc := 52) (v := iv 16) dX8_exchange_52 (by decide) ?_
      refine r_imul (pc := 54) (v := iv (x3 * 16)) dX8_exchange_54 (iv_mul _ _) ?_
      refine r_iload (pc := 55) dX8_exchange_55 rfl ?_
      refine r_iadd (pc := 57) (v := iv ((x3 * 16) + v3_4)) dX8_exchange_57 (iv_add _ _) ?_
      refine r_lload (pc := 58) dX8_exchange_58 rfl ?_
      refine t_lastX (pc := 60) (t0 := 1) ht2 (ov_s _ _ _) dX8_exchange_60 rfl (by decide) (by omega) (fun hp3 ht4 => ?_)
      rw [ov_ov] at ht4
      have hex : xcI tb (fuj (fuj tb3 (Int.toNat ((x2 * 16) + v3_4)) (tb3 (Int.toNat ((x3 * 16) + v3_4)))) (Int.toNat ((x3 * 16) + v3_4)) (tb3 (Int.toNat ((x2 * 16) + v3_4)))) (Int.toNat x1) (Int.toNat x2) (Int.toNat x3) (Int.toNat (v3_4 + 1)) := by
        rw [show Int.toNat (v3_4 + 1) = Int.toNat v3_4 + 1 by omega]
        exact exi_up (by assumption : xcI tb tb3 (Int.toNat x1) (Int.toNat x2) (Int.toNat x3) (Int.toNat v3_4)) (by omega) (by omega) (by omega) (by omega) (by omega) (by omega) (by omega)
      refine r_iinc (pc := 61) (v := iv (v3_4 + 1)) (lv' := [(4, .int (iv (v3_4 + 1))), (5, .long (tb3 (Int.toNat ((x2 * 16) + v3_4)))), (0, .ref s), (1, .int (iv x1)), (2, .int (iv x2)), (3, .int (iv x3))]) dX8_exchange_61 rfl (iv_add _ _) (by decide) rfl ?_
      refine r_goto (pc := 64) (tgt := 3) dX8_exchange_64 (by decide) ?_
      refine Rn.pick (lv' := [(0, .ref s), (1, .int (iv x1)), (2, .int (iv x2)), (3, .int (iv x3)), (4, .int (iv (v3_4 + 1)))]) [2, 3, 4, 5, 0] rfl ?_
      exact ih3 (Int.toNat (15 - (v3_4 + 1))) (by omega) (fuj (fuj tb3 (Int.toNat ((x2 * 16) + v3_4)) (tb3 (Int.toNat ((x3 * 16) + v3_4)))) (Int.toNat ((x3 * 16) + v3_4)) (tb3 (Int.toNat ((x2 * 16) + v3_4)))) _ ht4 (v3_4 + 1) ⟨by omega, by omega, by omega, by (first | exact hex | exact ex_0)⟩ (by omega)
  refine Rn.pick (lv' := [(0, .ref s), (1, .int (iv x1)), (2, .int (iv x2)), (3, .int (iv x3)), (4, .int (iv 0))]) [1, 2, 3, 4, 0] rfl ?_
  exact B3 (Int.toNat (15 - 0)) tb _ ht 0 ⟨by omega, by omega, by omega, by (first | exact hex | exact ex_0)⟩ (by omega)
set_option maxHeartbeats 4000000 in
set_option maxRecDepth 100000 in
theorem c_X8_addTox {D : va_G} {cI cJ cZ cT : ClassId} {lo b L : Nat} {xs : Nat → Int32} {hp : MH} {n d : Nat} {Γ : TG} {s : Nat} {tb : Nat → Int64} {x1 x2 x3 : Int} {j4 : Int64} (hd0 : 0 ≤ d) (hO : rd Γ s (tO 8 [fE (.ref (s + 1))])) (ht : Tw (ov Γ (s + 1) (xJ cJ 256 tb)) hp) (hx1 : 0 ≤ x1 ∧ x1 ≤ 15) (hx2 : 0 ≤ x2 ∧ x2 ≤ 15) (hx3 : 0 ≤ x3 ∧ x3 ≤ 15) (hj4 : 0 ≤ j4.toInt ∧ j4.toInt ≤ 1000000006) (hR : tbR tb (Int.toNat x3)) : Mt (gG D cI cJ cZ cT lo b L xs) mX8_addTo d 0 0 [.ref s, .int (iv x1), .int (iv x2), .int (iv x3), .long j4] hp n (fun r9 hp1 n1 => n1 = n ∧ r9 = none ∧ ∃ tb1 : Nat → Int64, Tw (ov Γ (s + 1) (xJ cJ 256 tb1)) hp1 ∧ adQ tb tb1 (Int.toNat x3) x1 x2 j4.toInt) := by
  refine Mt.of rfl (Nat.le_of_ble_eq_true rfl) ?_
  refine Rn.pick (lv' := [(0, .ref s), (1, .int (iv x1)), (2, .int (iv x2)), (3, .int (iv x3)), (4, .long j4)]) [0, 1, 2, 3, 4] rfl ?_
  refine r_iload_n (pc := 0) dX8_addTo_0 (i := 1) rfl rfl ?_
  refine r_iload_n (pc := 1) dX8_addTo_1 (i := 3) rfl rfl ?_
  refine t_icmp_ge (pc := 2) (tgt := 39) dX8_addTo_2 (by decide) (by omega) (by omega) (fun c2 => ?_) (fun c2 => ?_)
  · exact r_vret (pc := 39) dX8_addTo_39 rfl ⟨rfl, rfl, tb, ht, fun i9 j9 hi9 hj9 => ⟨fun h9 => absurd h9 (by omega), fun _ => rfl⟩⟩
  · refine r_iload_n (pc := 5) dX8_addTo_5 (i := 2) rfl rfl ?_
    refine r_iload_n (pc := 6) dX8_addTo_6 (i := 3) rfl rfl ?_
    refine t_icmp_ge (pc := 7) (tgt := 39) dX8_addTo_7 (by decide) (by omega) (by omega) (fun c7 => ?_) (fun c7 => ?_)
    · exact r_vret (pc := 39) dX8_addTo_39 rfl ⟨rfl, rfl, tb, ht, fun i9 j9 hi9 hj9 => ⟨fun h9 => absurd h9 (by omega), fun _ => rfl⟩⟩
    · refine r_iload_n (pc := 10) dX8_addTo_10 (i := 1) rfl rfl ?_
      refine r_bipush (pc := 11) (v := iv 16) dX8_addTo_11 (by decide) ?_
      refine r_imul (pc := 13) (v := iv (x1 * 16)) dX8_addTo_13 (iv_mul _ _) ?_
      refine r_iload_n (pc := 14) dX8_addTo_14 (i := 2) rfl rfl ?_
      refine r_iadd (pc := 15) (v := iv ((x1 * 16) + x2)) dX8_addTo_15 (iv_add _ _) ?_
      refine r_istore (pc := 16) (lv' := [(6, .int (iv ((x1 * 16) + x2))), (0, .ref s), (1, .int (iv x1)), (2, .int (iv x2)), (3, .int (iv x3)), (4, .long j4)]) dX8_addTo_16 (by decide) rfl ?_
      refine r_aload_n (pc := 18) dX8_addTo_18 (i := 0) rfl rfl ?_
      refine t_getE (pc := 19) (.ref (s + 1)) ht (rd_ov (by omega) hO) fX8_9 dX8_addTo_19 rfl ?_
      refine r_iload (pc := 22) dX8_addTo_22 rfl ?_
      refine r_aload_n (pc := 24) dX8_addTo_24 (i := 0) rfl rfl ?_
      refine t_getE (pc := 25) (.ref (s + 1)) ht (rd_ov (by omega) hO) fX8_9 dX8_addTo_25 rfl ?_
      refine r_iload (pc := 28) dX8_addTo_28 rfl ?_
      refine t_laldX (pc := 30) (t0 := 1) ht (rd_of (ov_s _ _ _)) dX8_addTo_30 rfl (by decide) (by omega) ?_
      have hR30 := hR (Int.toNat x1) (Int.toNat x2) (by omega) (by omega)
      rw [show 16 * Int.toNat x1 + Int.toNat x2 = Int.toNat (x1 * 16 + x2) by omega] at hR30
      refine r_lload (pc := 31) dX8_addTo_31 rfl ?_
      refine r_ladd (pc := 33) (v := (tb (Int.toNat ((x1 * 16) + x2))) + j4) dX8_addTo_33 rfl ?_
      refine r_ldc2 (pc := 34) (v := 1000000007) dX8_addTo_34 kX8_116 ?_
      have hk34 : (1000000007 : Int64).toInt = 1000000007 := by decide
      have hla := l_add (x := (tb (Int.toNat ((x1 * 16) + x2)))) (y := j4) (by omega)
      refine r_lrem (pc := 37) (v := ((tb (Int.toNat ((x1 * 16) + x2))) + j4) - ((tb (Int.toNat ((x1 * 16) + x2))) + j4) / (1000000007 : Int64) * (1000000007 : Int64)) dX8_addTo_37 (by decide) rfl ?_
      have hrm37 : (((tb (Int.toNat ((x1 * 16) + x2))) + j4) - ((tb (Int.toNat ((x1 * 16) + x2))) + j4) / (1000000007 : Int64) * (1000000007 : Int64)).toInt = ((tb (Int.toNat ((x1 * 16) + x2))).toInt + j4.toInt) % 1000000007 := by rw [l_rem (by rw [hla]; exact (by omega)) (by omega), hla, hk34]
      have hrb37 : 0 ≤ (((tb (Int.toNat ((x1 * 16) + x2))) + j4) - ((tb (Int.toNat ((x1 * 16) + x2))) + j4) / (1000000007 : Int64) * (1000000007 : Int64)).toInt ∧ (((tb (Int.toNat ((x1 * 16) + x2))) + j4) - ((tb (Int.toNat ((x1 * 16) + x2))) + j4) / (1000000007 : Int64) * (1000000007 : Int64)).toInt < 1000000007 := by rw [hrm37]; exact ⟨Int.emod_nonneg _ (by decide), Int.emod_lt_of_pos _ (by decide)⟩
      generalize ((tb (Int.toNat ((x1 * 16) + x2))) + j4) - ((tb (Int.toNat ((x1 * 16) + x2))) + j4) / (1000000007 : Int64) * (1000000007 : Int64) = w37 at hrm37 hrb37 ⊢
      refine t_lastX (pc := 38) (t0 := 1) ht (ov_s _ _ _) dX8_addTo_38 rfl (by decide) (by omega) (fun hp1 ht2 => ?_)
      rw [ov_ov] at ht2
      exact r_vret (pc := 39) dX8_addTo_39 rfl ⟨rfl, rfl, _, ht2, ad_mk (by omega) (by omega) (by omega) (by omega) hrm37⟩
