set_option maxHeartbeats 4000000 in
set_option maxRecDepth 100000 in
theorem c_X6_refinex {D : va_G} {cI cJ cZ cT : ClassId} {lo b L : Nat} {xs : Nat → Int32} {hp : MH} {n d : Nat} {Γ : TG} {s gn rw9 : Nat} {Ti Co Fr : Nat → Int64} {Nu : Nat → Int} {x1 : Int} (hd0 : 2 ≤ d) (hgb : 1 ≤ gn ∧ gn ≤ 16) (ht : Tw (SmS Γ cI cJ s Ti Co Fr Nu) hp) (hx1 : 0 ≤ x1 ∧ x1 ≤ 16) (hrw : (rw9 : Int) = x1 * 32) : Mt (gG D cI cJ cZ cT lo b L xs) mX6_refine d 0 0 [.ref s, .int (iv (gn : Int)), .int (iv x1)] hp n (fun r9 hp1 n1 => n1 = n ∧ ∃ (Co1 Fr1 : Nat → Int64) (v : Int), Tw (SmS Γ cI cJ s Ti Co1 Fr1 Nu) hp1 ∧ r9 = some (.int (iv v)) ∧ (0 ≤ v ∧ v ≤ 1) ∧ (∀ i, (i < rw9 ∨ rw9 + 32 ≤ i) → Co1 i = Co i) ∧ ∀ p, tpP Ti gn p → cvP Co rw9 gn p → v = 1 ∧ cvP Co1 rw9 gn p) := by
  refine Mt.of rfl (Nat.le_of_ble_eq_true rfl) ?_
  refine Rn.pick (lv' := [(0, .ref s), (1, .int (iv (gn : Int))), (2, .int (iv x1))]) [0, 1, 2] rfl ?_
  have t0 : Tw (ov (ov (ov (ov (ov Γ s (tO 6 (smnR s))) (s + 1) (xJ cJ 512 Ti)) (s + 2) (xJ cJ 544 Co)) (s + 3) (xJ cJ 32 Fr)) (s + 4) (xI cI 16 Nu)) hp := ht
  refine r_iload_n (pc := 0) dX6_refine_0 (i := 2) rfl rfl ?_
  refine r_bipush (pc := 1) (v := iv 32) dX6_refine_1 (by decide) ?_
  refine r_imul (pc := 3) (v := iv (x1 * 32)) dX6_refine_3 (iv_mul _ _) ?_
  refine r_istore_n (pc := 4) (lv' := [(3, .int (iv (x1 * 32))), (0, .ref s), (1, .int (iv (gn : Int))), (2, .int (iv x1))]) dX6_refine_4 (i := 3) rfl (by decide) rfl ?_
  refine r_iconst (pc := 5) (v := iv 0) dX6_refine_5 (by decide) ?_
  refine r_istore (pc := 6) (lv' := [(4, .int (iv 0)), (3, .int (iv (x1 * 32))), (0, .ref s), (1, .int (iv (gn : Int))), (2, .int (iv x1))]) dX6_refine_6 (by decide) rfl ?_
  refine r_aload_n (pc := 8) dX6_refine_8 (i := 0) rfl rfl ?_
  refine r_iload_n (pc := 9) dX6_refine_9 (i := 3) rfl rfl ?_
  refine r_iload_n (pc := 10) dX6_refine_10 (i := 1) rfl rfl ?_
  refine t_callVR (pc := 11) (as := [.int (iv (x1 * 32)), .int (iv (gn : Int))]) (st := []) t0 (rd_ov (by omega) (rd_ov (by omega) (rd_ov (by omega) (rd_ov (by omega) (rd_of (ov_s _ _ _)))))) kX6_80 rfl dX6_refine_11 (c_X6_countColoursx (d := d - 1) (Co := Co) (x1 := x1 * 32) (x2 := (gn : Int)) (by omega) (rd_ov (by omega) (rd_ov (by omega) (rd_ov (by omega) (rd_ov (by omega) (rd_of (ov_s _ _ _)))))) (rd_ov (by omega) (rd_ov (by omega) (rd_of (ov_s _ _ _)))) t0 (by omega) (by omega)) rfl (by omega) (Nat.le_of_ble_eq_true rfl) rfl (fun hp2 y1 ht3 by1 => ?_)
  refine r_istore (pc := 14) (lv' := [(5, .int (iv y1)), (4, .int (iv 0)), (3, .int (iv (x1 * 32))), (0, .ref s), (1, .int (iv (gn : Int))), (2, .int (iv x1))]) dX6_refine_14 (by decide) rfl ?_
  refine r_iconst (pc := 16) (v := iv 0) dX6_refine_16 (by decide) ?_
  refine r_istore (pc := 17) (lv' := [(6, .int (iv 0)), (5, .int (iv y1)), (4, .int (iv 0)), (3, .int (iv (x1 * 32))), (0, .ref s), (1, .int (iv (gn : Int))), (2, .int (iv x1))]) dX6_refine_17 (by decide) rfl ?_
  have B19 : ∀ k : Nat, ∀ Co19 : Nat → Int64, ∀ Fr19 : Nat → Int64, ∀ hp19 : MH, Tw (ov (ov (ov (ov (ov Γ s (tO 6 (smnR s))) (s + 1) (xJ cJ 512 Ti)) (s + 2) (xJ cJ 544 Co19)) (s + 3) (xJ cJ 32 Fr19)) (s + 4) (xI cI 16 Nu)) hp19 → ∀  (v19_4 : Int) (v19_5 : Int) (v19_6 : Int), 0 ≤ v19_4 ∧ v19_4 ≤ 15 ∧ (-2147483648) ≤ v19_5 ∧ v19_5 ≤ 2147483647 ∧ 0 ≤ v19_6 ∧ v19_6 ≤ 16 ∧ (v19_6 ≤ (gn : Int)) ∧ (rfI Ti Co Co19 rw9 gn) → 16 - v19_6 ≤ (k : Int) → Rn (gG D cI cJ cZ cT lo b L xs) mX6_refine d 19 [(0, .ref s), (1, .int (iv (gn : Int))), (3, .int (iv (x1 * 32))), (4, .int (iv v19_4)), (5, .int (iv v19_5)), (6, .int (iv v19_6))] [] hp19 n 0 0 (fun r9 hp1 n1 => n1 = n ∧ ∃ (Co1 Fr1 : Nat → Int64) (v : Int), Tw (SmS Γ cI cJ s Ti Co1 Fr1 Nu) hp1 ∧ r9 = some (.int (iv v)) ∧ (0 ≤ v ∧ v ≤ 1) ∧ (∀ i, (i < rw9 ∨ rw9 + 32 ≤ i) → Co1 i = Co i) ∧ ∀ p, tpP Ti gn p → cvP Co rw9 gn p → v = 1 ∧ cvP Co1 rw9 gn p) := by
    refine lpS _ ?_
    intro k19 ih19 Co19 Fr19 hp19 ht19 v19_4 v19_5 v19_6 hf19 hm19
    obtain ⟨hf19_0, hf19_1, hf19_2, hf19_3, hf19_4, hf19_5, hf19_6, ha19_7⟩ := hf19
    refine r_iload (pc := 19) dX6_refine_19 rfl ?_
    refine r_iload_n (pc := 21) dX6_refine_21 (i := 1) rfl rfl ?_
    refine t_icmp_ge (pc := 22) (tgt := 86) dX6_refine_22 (by decide) (by omega) (by omega) (fun c22 => ?_) (fun c22 => ?_)
    · refine r_aload_n (pc := 86) dX6_refine_86 (i := 0) rfl rfl ?_
      refine r_iload_n (pc := 87) dX6_refine_87 (i := 3) rfl rfl ?_
      refine r_iload_n (pc := 88) dX6_refine_88 (i := 1) rfl rfl ?_
      refine t_callVI (pc := 89) (as := [.int (iv (x1 * 32)), .int (iv (gn : Int))]) (st := []) ht19 (rd_ov (by omega) (rd_ov (by omega) (rd_ov (by omega) (rd_ov (by omega) (rd_of (ov_s _ _ _)))))) kX6_94 rfl dX6_refine_89 (c_X6_haveSameColoursx (d := d - 1) (Co := Co19) (x1 := x1 * 32) (x2 := (gn : Int)) (by omega) (rd_ov (by omega) (rd_ov (by omega) (rd_ov (by omega) (rd_ov (by omega) (rd_of (ov_s _ _ _)))))) (rd_ov (by omega) (rd_ov (by omega) (rd_of (ov_s _ _ _)))) ht19 (by omega) (by omega)) rfl (by omega) (Nat.le_of_ble_eq_true rfl) rfl (fun hp5 y4 ht6 by4 => ?_)
      obtain ⟨by41, hsc9⟩ := by4
      rw [Int.toNat_natCast, show Int.toNat (x1 * 32) = rw9 by omega] at hsc9
      exact r_zret (pc := 92) dX6_refine_92 rfl (iv_nar (by omega)) ⟨rfl, Co19, Fr19, _, ht6, rfl, by omega, (by assumption : rfI Ti Co Co19 rw9 gn).1, fun p9 h9 g9 => by
            have h8 := (by assumption : rfI Ti Co Co19 rw9 gn).2 p9 h9 g9
            exact ⟨Classical.byContradiction (fun q9 => hsc9 (by omega) p9 h9.1 h9.2.1 h8), h8⟩⟩
    · refine r_iload (pc := 25) dX6_refine_25 rfl ?_
      refine r_iload (pc := 27) dX6_refine_27 rfl ?_
      refine t_icmp_le (pc := 29) (tgt := 86) dX6_refine_29 (by decide) (by omega) (by omega) (fun c29 => ?_) (fun c29 => ?_)
      · refine r_aload_n (pc := 86) dX6_refine_86 (i := 0) rfl rfl ?_
        refine r_iload_n (pc := 87) dX6_refine_87 (i := 3) rfl rfl ?_
        refine r_iload_n (pc := 88) dX6_refine_88 (i := 1) rfl rfl ?_
        refine t_callVI (pc := 89) (as := [.int (iv (x1 * 32)), .int (iv (gn : Int))]) (st := []) ht19 (rd_ov (by omega) (rd_ov (by omega) (rd_ov (by omega) (rd_ov (by omega) (rd_of (ov_s _ _ _)))))) kX6_94 rfl dX6_refine_89 (c_X6_haveSameColoursx (d := d - 1) (Co := Co19) (x1 := x1 * 32) (x2 := (gn : Int)) (by omega) (rd_ov (by omega) (rd_ov (by omega) (rd_ov (by omega) (rd_ov (by omega) (rd_of (ov_s _ _ _)))))) (rd_ov (by omega) (rd_ov (by omega) (rd_of (ov_s _ _ _)))) ht19 (by omega) (by omega)) rfl (by omega) (Nat.le_of_ble_eq_true rfl) rfl (fun hp8 y7 ht9 by7 => ?_)
        obtain ⟨by71, hsc9⟩ := by7
        rw [Int.toNat_natCast, show Int.toNat (x1 * 32) = rw9 by omega] at hsc9
        exact r_zret (pc := 92) dX6_refine_92 rfl (iv_nar (by omega)) ⟨rfl, Co19, Fr19, _, ht9, rfl, by omega, (by assumption : rfI Ti Co Co19 rw9 gn).1, fun p9 h9 g9 => by
              have h8 := (by assumption : rfI Ti Co Co19 rw9 gn).2 p9 h9 g9
              exact ⟨Classical.byContradiction (fun q9 => hsc9 (by omega) p9 h9.1 h9.2.1 h8), h8⟩⟩
      · refine r_iload (pc := 32) dX6_refine_32 rfl ?_
        refine r_iload_n (pc := 34) dX6_refine_34 (i := 1) rfl rfl ?_
        refine t_icmp_ge (pc := 35) (tgt := 86) dX6_refine_35 (by decide) (by omega) (by omega) (fun c35 => ?_) (fun c35 => ?_)
        · refine r_aload_n (pc := 86) dX6_refine_86 (i := 0) rfl rfl ?_
          refine r_iload_n (pc := 87) dX6_refine_87 (i := 3) rfl rfl ?_
          refine r_iload_n (pc := 88) dX6_refine_88 (i := 1) rfl rfl ?_
          refine t_callVI (pc := 89) (as := [.int (iv (x1 * 32)), .int (iv (gn : Int))]) (st := []) ht19 (rd_ov (by omega) (rd_ov (by omega) (rd_ov (by omega) (rd_ov (by omega) (rd_of (ov_s _ _ _)))))) kX6_94 rfl dX6_refine_89 (c_X6_haveSameColoursx (d := d - 1) (Co := Co19) (x1 := x1 * 32) (x2 := (gn : Int)) (by omega) (rd_ov (by omega) (rd_ov (by omega) (rd_ov (by omega) (rd_ov (by omega) (rd_of (ov_s _ _ _)))))) (rd_ov (by omega) (rd_ov (by omega) (rd_of (ov_s _ _ _)))) ht19 (by omega) (by omega)) rfl (by omega) (Nat.le_of_ble_eq_true rfl) rfl (fun hp11 y10 ht12 by10 => ?_)
          obtain ⟨by101, hsc9⟩ := by10
          rw [Int.toNat_natCast, show Int.toNat (x1 * 32) = rw9 by omega] at hsc9
          exact r_zret (pc := 92) dX6_refine_92 rfl (iv_nar (by omega)) ⟨rfl, Co19, Fr19, _, ht12, rfl, by omega, (by assumption : rfI Ti Co Co19 rw9 gn).1, fun p9 h9 g9 => by
                have h8 := (by assumption : rfI Ti Co Co19 rw9 gn).2 p9 h9 g9
                exact ⟨Classical.byContradiction (fun q9 => hsc9 (by omega) p9 h9.1 h9.2.1 h8), h8⟩⟩
        · refine r_aload_n (pc := 38) dX6_refine_38 (i := 0) rfl rfl ?_
          refine r_iload_n (pc := 39) dX6_refine_39 (i := 3) rfl rfl ?_
          refine r_iconst (pc := 40) (v := iv 0) dX6_refine_40 (by decide) ?_
          refine r_iload_n (pc := 41) dX6_refine_41 (i := 1) rfl rfl ?_
          obtain ⟨fs18, hfs18⟩ := t_obj ht19 (rd_ov (by omega) (rd_ov (by omega) (rd_ov (by omega) (rd_ov (by omega) (rd_of (ov_s _ _ _))))))
          refine r_callV (pc := 42) (as := [.int (iv (x1 * 32)), .int (iv 0), .int (iv (gn : Int))]) (st := []) kX6_84 rfl dX6_refine_42 hfs18 (c_X6_recolourx (d := d - 1) (x1 := x1 * 32) (x2 := 0) (x3 := (gn : Int)) (by omega) ht19 (by omega) (by omega) (by omega)) rfl (by omega) (Nat.le_of_ble_eq_true rfl) (Nat.zero_le _) (Nat.zero_le _) rfl (fun r13 hp14 n15 q16 => ?_)
          obtain ⟨hnn15, hrr13, Fr42, ht17, hrc42⟩ := q16
          subst n15 r13
          change Rn _ _ _ 45 _ [] _ _ _ _ _
          refine r_aload_n (pc := 45) dX6_refine_45 (i := 0) rfl rfl ?_
          refine r_iload_n (pc := 46) dX6_refine_46 (i := 3) rfl rfl ?_
          refine r_bipush (pc := 47) (v := iv 16) dX6_refine_47 (by decide) ?_
          refine r_iload_n (pc := 49) dX6_refine_49 (i := 1) rfl rfl ?_
          obtain ⟨fs24, hfs24⟩ := t_obj ht17 (rd_ov (by omega) (rd_ov (by omega) (rd_ov (by omega) (rd_ov (by omega) (rd_of (ov_s _ _ _))))))
          refine r_callV (pc := 50) (as := [.int (iv (x1 * 32)), .int (iv 16), .int (iv (gn : Int))]) (st := []) kX6_84 rfl dX6_refine_50 hfs24 (c_X6_recolourx (d := d - 1) (x1 := x1 * 32) (x2 := 16) (x3 := (gn : Int)) (by omega) ht17 (by omega) (by omega) (by omega)) rfl (by omega) (Nat.le_of_ble_eq_true rfl) (Nat.zero_le _) (Nat.zero_le _) rfl (fun r19 hp20 n21 q22 => ?_)
          obtain ⟨hnn21, hrr19, Fr50, ht23, hrc50⟩ := q22
          subst n21 r19
          change Rn _ _ _ 53 _ [] _ _ _ _ _
          refine r_aload_n (pc := 53) dX6_refine_53 (i := 0) rfl rfl ?_
          refine t_getE (pc := 54) (.ref (s + 3)) ht23 (rd_ov (by omega) (rd_ov (by omega) (rd_ov (by omega) (rd_ov (by omega) (rd_of (ov_s _ _ _)))))) fX6_18 dX6_refine_54 rfl ?_
          refine r_iconst (pc := 57) (v := iv 0) dX6_refine_57 (by decide) ?_
          refine r_aload_n (pc := 58) dX6_refine_58 (i := 0) rfl rfl ?_
          refine t_getE (pc := 59) (.ref (s + 2)) ht23 (rd_ov (by omega) (rd_ov (by omega) (rd_ov (by omega) (rd_ov (by omega) (rd_of (ov_s _ _ _)))))) fX6_15 dX6_refine_59 rfl ?_
          refine r_iload_n (pc := 62) dX6_refine_62 (i := 3) rfl rfl ?_
          refine r_bipush (pc := 63) (v := iv 32) dX6_refine_63 (by decide) ?_
          refine t_copyJX (pc := 65) (t0 := 1) ht23 (rd_ov (by omega) (rd_of (ov_s _ _ _))) (rd_ov (by omega) (rd_ov (by omega) (rd_of (ov_s _ _ _)))) aX6_88 dX6_refine_65 rfl (by decide) (by omega) (Nat.le_of_ble_eq_true rfl) (fun hp25 ht26 => ?_)
          rw [ov_in3 (by omega) (by omega)] at ht26
          have hrf : rfI Ti Co (cpJ Fr50 Co19 (Int.toNat 0) (Int.toNat (x1 * 32)) (Int.toNat 32)) rw9 gn := rf_up (row := rw9) (n := gn) (Fr0 := Fr19) (by omega) (by assumption : rfI Ti Co Co19 rw9 gn) (by
            have h9 := hrc42
            rw [show Int.toNat (x1 * 32) = rw9 by omega, Int.toNat_natCast] at h9
            exact h9) (by
            have h9 := hrc50
            rw [show Int.toNat (x1 * 32) = rw9 by omega, Int.toNat_natCast] at h9
            exact h9) (by omega)
          refine r_iload (pc := 68) dX6_refine_68 rfl ?_
          refine r_istore (pc := 70) (lv' := [(4, .int (iv v19_5)), (0, .ref s), (1, .int (iv (gn : Int))), (3, .int (iv (x1 * 32))), (5, .int (iv v19_5)), (6, .int (iv v19_6))]) dX6_refine_70 (by decide) rfl ?_
          refine r_aload_n (pc := 72) dX6_refine_72 (i := 0) rfl rfl ?_
          refine r_iload_n (pc := 73) dX6_refine_73 (i := 3) rfl rfl ?_
          refine r_iload_n (pc := 74) dX6_refine_74 (i := 1) rfl rfl ?_
          refine t_callVR (pc := 75) (as := [.int (iv (x1 * 32)), .int (iv (gn : Int))]) (st := []) ht26 (rd_ov (by omega) (rd_ov (by omega) (rd_ov (by omega) (rd_ov (by omega) (rd_of (ov_s _ _ _)))))) kX6_80 rfl dX6_refine_75 (c_X6_countColoursx (d := d - 1) (Co := (cpJ Fr50 Co19 (Int.toNat 0) (Int.toNat (x1 * 32)) (Int.toNat 32))) (x1 := x1 * 32) (x2 := (gn : Int)) (by omega) (rd_ov (by omega) (rd_ov (by omega) (rd_ov (by omega) (rd_ov (by omega) (rd_of (ov_s _ _ _)))))) (rd_ov (by omega) (rd_ov (by omega) (rd_of (ov_s _ _ _)))) ht26 (by omega) (by omega)) rfl (by omega) (Nat.le_of_ble_eq_true rfl) rfl (fun hp28 y27 ht29 by27 => ?_)
          refine r_istore (pc := 78) (lv' := [(5, .int (iv y27)), (4, .int (iv v19_5)), (0, .ref s), (1, .int (iv (gn : Int))), (3, .int (iv (x1 * 32))), (6, .int (iv v19_6))]) dX6_refine_78 (by decide) rfl ?_
          refine r_iinc (pc := 80) (v := iv (v19_6 + 1)) (lv' := [(6, .int (iv (v19_6 + 1))), (5, .int (iv y27)), (4, .int (iv v19_5)), (0, .ref s), (1, .int (iv (gn : Int))), (3, .int (iv (x1 * 32)))]) dX6_refine_80 rfl (iv_add _ _) (by decide) rfl ?_
          refine r_goto (pc := 83) (tgt := 19) dX6_refine_83 (by decide) ?_
          refine Rn.pick (lv' := [(0, .ref s), (1, .int (iv (gn : Int))), (3, .int (iv (x1 * 32))), (4, .int (iv v19_5)), (5, .int (iv y27)), (6, .int (iv (v19_6 + 1)))]) [3, 4, 5, 2, 1, 0] rfl ?_
          exact ih19 (Int.toNat (16 - (v19_6 + 1))) (by omega) (cpJ Fr50 Co19 (Int.toNat 0) (Int.toNat (x1 * 32)) (Int.toNat 32)) Fr50 _ ht29 v19_5 y27 (v19_6 + 1) ⟨by omega, by omega, by omega, by omega, by omega, by omega, by omega, by (first | exact hrf | exact rf_0)⟩ (by omega)
  refine Rn.pick (lv' := [(0, .ref s), (1, .int (iv (gn : Int))), (3, .int (iv (x1 * 32))), (4, .int (iv 0)), (5, .int (iv y1)), (6, .int (iv 0))]) [4, 5, 3, 2, 1, 0] rfl ?_
  exact B19 (Int.toNat (16 - 0)) Co Fr _ ht3 0 y1 0 ⟨by omega, by omega, by omega, by omega, by omega, by omega, by omega, by (first | exact hrf | exact rf_0)⟩ (by omega)
