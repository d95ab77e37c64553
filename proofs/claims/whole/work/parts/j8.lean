theorem ha_fin {A : Int} {r : Nat → Int} {sum most : Int} (h : haI A r 16 sum most) (hA : 0 ≤ A ∧ A ≤ 65535) (hs : sum = 2 * most) (hn : ∀ u, Me A u → ¬ Me (r u) u) (hy : ∀ a b, Me A a → Me A b → Me (r a) b → Me (r b) a) : haQ A r := by
  by_cases q : ∃ u, Me A u
  · obtain ⟨u, hu⟩ := q
    exact Or.inr (hai_e h hA hs hn hy hu)
  · exact Or.inl (fun u hu => q ⟨u, hu⟩)
set_option maxHeartbeats 4000000 in
set_option maxRecDepth 100000 in
theorem c_X7_isHarmlessx {D : va_G} {cI cJ cZ cT : ClassId} {lo b L : Nat} {xs : Nat → Int32} {hp : MH} {n d : Nat} {Γ : TG} {s : Nat} {Lv : Nat → Int} {x1 x2 : Int} (hd0 : 1 ≤ d) (hO : rd Γ s (tO 7 [fE (.ref (s + 1)), fE (.ref (s + 2)), fE (.ref (s + 3)), fE (.ref (s + 4)), fE (.ref (s + 5))])) (hl : rd Γ (s + 3) (xI cI 272 Lv)) (hlR : Rfx 272 0 65535 Lv) (ht : Tw Γ hp) (hx1 : 0 ≤ x1 ∧ x1 ≤ 15) (hx2 : 0 ≤ x2 ∧ x2 ≤ 15) (hn : ∀ u, Me (lvW Lv x2 (Int.toNat x1)) u → ¬ Me ((lvW Lv x2) u) u) (hy : ∀ a b, Me (lvW Lv x2 (Int.toNat x1)) a → Me (lvW Lv x2 (Int.toNat x1)) b → Me ((lvW Lv x2) a) b → Me ((lvW Lv x2) b) a) : Mt (gG D cI cJ cZ cT lo b L xs) mX7_isHarmless d 0 0 [.ref s, .int (iv x1), .int (iv x2)] hp n (pI Γ n (fun r => (0 ≤ r ∧ r ≤ 1) ∧ (r = 1 → haQ (lvW Lv x2 (Int.toNat x1)) (lvW Lv x2)))) := by
  refine Mt.of rfl (Nat.le_of_ble_eq_true rfl) ?_
  refine Rn.pick (lv' := [(0, .ref s), (1, .int (iv x1)), (2, .int (iv x2))]) [0, 1, 2] rfl ?_
  refine r_iload_n (pc := 0) dX7_isHarmless_0 (i := 2) rfl rfl ?_
  refine r_bipush (pc := 1) (v := iv 16) dX7_isHarmless_1 (by decide) ?_
  refine r_imul (pc := 3) (v := iv (x2 * 16)) dX7_isHarmless_3 (iv_mul _ _) ?_
  refine r_istore_n (pc := 4) (lv' := [(3, .int (iv (x2 * 16))), (0, .ref s), (1, .int (iv x1)), (2, .int (iv x2))]) dX7_isHarmless_4 (i := 3) rfl (by decide) rfl ?_
  refine r_aload_n (pc := 5) dX7_isHarmless_5 (i := 0) rfl rfl ?_
  refine t_getE (pc := 6) (.ref (s + 3)) ht hO fX7_18 dX7_isHarmless_6 rfl ?_
  refine r_iload_n (pc := 9) dX7_isHarmless_9 (i := 3) rfl rfl ?_
  refine r_iload_n (pc := 10) dX7_isHarmless_10 (i := 1) rfl rfl ?_
  refine r_iadd (pc := 11) (v := iv ((x2 * 16) + x1)) dX7_isHarmless_11 (iv_add _ _) ?_
  refine t_ialdX (pc := 12) (t0 := 0) ht hl dX7_isHarmless_12 rfl (by decide) (by omega) (fun b1 => ?_)
  have rb1 := (show Rfx 272 0 65535 Lv by assumption) (Int.toNat ((x2 * 16) + x1)) (by omega)
  have eA : Lv (Int.toNat ((x2 * 16) + x1)) = (lvW Lv x2 (Int.toNat x1)) := lv_e (by omega) (by omega) (by omega)
  have bA : 0 ≤ (lvW Lv x2 (Int.toNat x1)) ∧ (lvW Lv x2 (Int.toNat x1)) ≤ 65535 := by rw [← eA]; omega
  refine r_istore (pc := 13) (lv' := [(4, .int (iv (Lv (Int.toNat ((x2 * 16) + x1))))), (3, .int (iv (x2 * 16))), (0, .ref s), (1, .int (iv x1)), (2, .int (iv x2))]) dX7_isHarmless_13 (by decide) rfl ?_
  refine r_iconst (pc := 15) (v := iv 0) dX7_isHarmless_15 (by decide) ?_
  refine r_istore (pc := 16) (lv' := [(5, .int (iv 0)), (4, .int (iv (Lv (Int.toNat ((x2 * 16) + x1))))), (3, .int (iv (x2 * 16))), (0, .ref s), (1, .int (iv x1)), (2, .int (iv x2))]) dX7_isHarmless_16 (by decide) rfl ?_
  refine r_iconst (pc := 18) (v := iv 0) dX7_isHarmless_18 (by decide) ?_
  refine r_istore (pc := 19) (lv' := [(6, .int (iv 0)), (5, .int (iv 0)), (4, .int (iv (Lv (Int.toNat ((x2 * 16) + x1))))), (3, .int (iv (x2 * 16))), (0, .ref s), (1, .int (iv x1)), (2, .int (iv x2))]) dX7_isHarmless_19 (by decide) rfl ?_
  refine r_iconst (pc := 21) (v := iv 0) dX7_isHarmless_21 (by decide) ?_
  refine r_istore (pc := 22) (lv' := [(7, .int (iv 0)), (6, .int (iv 0)), (5, .int (iv 0)), (4, .int (iv (Lv (Int.toNat ((x2 * 16) + x1))))), (3, .int (iv (x2 * 16))), (0, .ref s), (1, .int (iv x1)), (2, .int (iv x2))]) dX7_isHarmless_22 (by decide) rfl ?_
  have B24 : ∀ k : Nat, ∀ hp24 : MH, Tw Γ hp24 → ∀  (v24_5 : Int) (v24_6 : Int) (v24_7 : Int), 0 ≤ v24_5 ∧ v24_5 ≤ 240 ∧ 0 ≤ v24_6 ∧ v24_6 ≤ 15 ∧ 0 ≤ v24_7 ∧ v24_7 ≤ 16 ∧ (haI (lvW Lv x2 (Int.toNat x1)) (lvW Lv x2) v24_7 v24_5 v24_6) → 16 - v24_7 ≤ (k : Int) → Rn (gG D cI cJ cZ cT lo b L xs) mX7_isHarmless d 24 [(0, .ref s), (3, .int (iv (x2 * 16))), (4, .int (iv (Lv (Int.toNat ((x2 * 16) + x1))))), (5, .int (iv v24_5)), (6, .int (iv v24_6)), (7, .int (iv v24_7))] [] hp24 n 0 0 (pI Γ n (fun r => (0 ≤ r ∧ r ≤ 1) ∧ (r = 1 → haQ (lvW Lv x2 (Int.toNat x1)) (lvW Lv x2)))) := by
    refine lpS _ ?_
    intro k24 ih24 hp24 ht24 v24_5 v24_6 v24_7 hf24 hm24
    obtain ⟨hf24_0, hf24_1, hf24_2, hf24_3, hf24_4, hf24_5, ha24_6⟩ := hf24
    refine r_iload (pc := 24) dX7_isHarmless_24 rfl ?_
    refine r_bipush (pc := 26) (v := iv 16) dX7_isHarmless_26 (by decide) ?_
    refine t_icmp_ge (pc := 28) (tgt := 84) dX7_isHarmless_28 (by decide) (by omega) (by omega) (fun c28 => ?_) (fun c28 => ?_)
    · refine r_iload (pc := 84) dX7_isHarmless_84 rfl ?_
      refine r_iconst (pc := 86) (v := iv 2) dX7_isHarmless_86 (by decide) ?_
      refine r_iload (pc := 87) dX7_isHarmless_87 rfl ?_
      refine r_imul (pc := 89) (v := iv (2 * v24_6)) dX7_isHarmless_89 (iv_mul _ _) ?_
      refine t_icmp_ne (pc := 90) (tgt := 97) dX7_isHarmless_90 (by decide) (by omega) (by omega) (fun c90 => ?_) (fun c90 => ?_)
      · refine r_iconst (pc := 97) (v := iv 0) dX7_isHarmless_97 (by decide) ?_
        exact r_zret (pc := 98) dX7_isHarmless_98 rfl (iv_nar (by omega)) ⟨rfl, ht24, _, rfl, by omega, fun g9 => by omega⟩
      · refine r_iconst (pc := 93) (v := iv 1) dX7_isHarmless_93 (by decide) ?_
        refine r_goto (pc := 94) (tgt := 98) dX7_isHarmless_94 (by decide) ?_
        exact r_zret (pc := 98) dX7_isHarmless_98 rfl (iv_nar (by omega)) ⟨rfl, ht24, _, rfl, by omega, fun _ => ha_fin (show haI (lvW Lv x2 (Int.toNat x1)) (lvW Lv x2) 16 v24_5 v24_6 from (show v24_7 = 16 by omega) ▸ (by assumption : haI (lvW Lv x2 (Int.toNat x1)) (lvW Lv x2) v24_7 v24_5 v24_6)) bA (by omega) hn hy⟩
    · refine r_iload (pc := 31) dX7_isHarmless_31 rfl ?_
      refine r_iload (pc := 33) dX7_isHarmless_33 rfl ?_
      have hq35_2 := shr_le (Int.toNat (Lv (Int.toNat ((x2 * 16) + x1)))) (Int.toNat v24_7)
      refine r_ishr (pc := 35) (v := iv ((Int.toNat (Lv (Int.toNat ((x2 * 16) + x1))) >>> Int.toNat v24_7 : Nat) : Int)) dX7_isHarmless_35 (shr_e (by omega) (by omega)) ?_
      refine r_iconst (pc := 36) (v := iv 1) dX7_isHarmless_36 (by decide) ?_
      refine r_iand (pc := 37) (v := iv (((Int.toNat (Lv (Int.toNat ((x2 * 16) + x1))) >>> Int.toNat v24_7 : Nat) : Int) % 2)) dX7_isHarmless_37 (and1_e _ (by omega)) ?_
      have mb37 := @Me_bit (Lv (Int.toNat ((x2 * 16) + x1))) v24_7
      refine t_if_eq (pc := 38) (tgt := 78) dX7_isHarmless_38 (by decide) (by omega) (fun c38 => ?_) (fun c38 => ?_)
      · have nm38 : ¬ Me (Lv (Int.toNat ((x2 * 16) + x1))) (Int.toNat v24_7) := fun h9 => absurd (Me_bit.mpr h9) (by omega)
        have hhi := hai_sk (by assumption : haI (lvW Lv x2 (Int.toNat x1)) (lvW Lv x2) v24_7 v24_5 v24_6) (by omega) (eA ▸ nm38)
        refine r_iinc (pc := 78) (v := iv (v24_7 + 1)) (lv' := [(7, .int (iv (v24_7 + 1))), (0, .ref s), (3, .int (iv (x2 * 16))), (4, .int (iv (Lv (Int.toNat ((x2 * 16) + x1))))), (5, .int (iv v24_5)), (6, .int (iv v24_6))]) dX7_isHarmless_78 rfl (iv_add _ _) (by decide) rfl ?_
        refine r_goto (pc := 81) (tgt := 24) dX7_isHarmless_81 (by decide) ?_
        refine Rn.pick (lv' := [(0, .ref s), (3, .int (iv (x2 * 16))), (4, .int (iv (Lv (Int.toNat ((x2 * 16) + x1))))), (5, .int (iv v24_5)), (6, .int (iv v24_6)), (7, .int (iv (v24_7 + 1)))]) [1, 2, 3, 4, 5, 0] rfl ?_
        exact ih24 (Int.toNat (16 - (v24_7 + 1))) (by omega) _ ht24 v24_5 v24_6 (v24_7 + 1) ⟨by omega, by omega, by omega, by omega, by omega, by omega, by (first | exact hhi | exact hai_0 bA.2)⟩ (by omega)
      · have pm38 : Me (Lv (Int.toNat ((x2 * 16) + x1))) (Int.toNat v24_7) := Me_bit.mp (by omega)
        have pmA : Me (lvW Lv x2 (Int.toNat x1)) (Int.toNat v24_7) := eA ▸ pm38
        refine r_iload (pc := 41) dX7_isHarmless_41 rfl ?_
        refine r_aload_n (pc := 43) dX7_isHarmless_43 (i := 0) rfl rfl ?_
        refine t_getE (pc := 44) (.ref (s + 3)) ht24 hO fX7_18 dX7_isHarmless_44 rfl ?_
        refine r_iload_n (pc := 47) dX7_isHarmless_47 (i := 3) rfl rfl ?_
        refine r_iload (pc := 48) dX7_isHarmless_48 rfl ?_
        refine r_iadd (pc := 50) (v := iv ((x2 * 16) + v24_7)) dX7_isHarmless_50 (iv_add _ _) ?_
        refine t_ialdX (pc := 51) (t0 := 0) ht24 hl dX7_isHarmless_51 rfl (by decide) (by omega) (fun b3 => ?_)
        have rb3 := (show Rfx 272 0 65535 Lv by assumption) (Int.toNat ((x2 * 16) + v24_7)) (by omega)
        have e51 : Lv (Int.toNat ((x2 * 16) + v24_7)) = lvW Lv x2 (Int.toNat v24_7) := lv_e (by omega) (by omega) (by omega)
        refine r_iconst (pc := 52) (v := iv (-1)) dX7_isHarmless_52 (by decide) ?_
        refine r_ixor (pc := 53) (v := iv (-(Lv (Int.toNat ((x2 * 16) + v24_7))) - 1)) dX7_isHarmless_53 (iv_not _) ?_
        obtain ⟨z4, hz4, bz4⟩ := and_l (Lv (Int.toNat ((x2 * 16) + x1))) (-(Lv (Int.toNat ((x2 * 16) + v24_7))) - 1) (by omega) (by omega)
        refine r_iand (pc := 54) (v := iv z4) dX7_isHarmless_54 hz4 ?_
        have mez4 := Me_not (y := (Lv (Int.toNat ((x2 * 16) + v24_7)))) hz4 (by omega) (by omega) (by omega)
        have hz54 : ∀ j, Me z4 j ↔ Me (lvW Lv x2 (Int.toNat x1)) j ∧ ¬ Me (lvW Lv x2 (Int.toNat v24_7)) j := fun j => by rw [mez4 j, eA, e51]
        refine t_callSI (pc := 55) (as := [.int (iv z4)]) (st := []) kX7_52 dX7_isHarmless_55 (t_bitCountx (d := d - 1) (x := z4) (by omega) ht24 (by omega)) rfl (by omega) (Nat.le_of_ble_eq_true rfl) rfl (fun hp6 y5 ht7 by5 => ?_)
        have ey5 : y5 = bcI z4 16 := by5
        subst ey5
        have ry5 := bc_le z4 16
        refine r_iconst (pc := 58) (v := iv 1) dX7_isHarmless_58 (by decide) ?_
        refine r_isub (pc := 59) (v := iv ((bcI z4 16) - 1)) dX7_isHarmless_59 (iv_sub _ _) ?_
        refine r_istore (pc := 60) (lv' := [(8, .int (iv ((bcI z4 16) - 1))), (0, .ref s), (3, .int (iv (x2 * 16))), (4, .int (iv (Lv (Int.toNat ((x2 * 16) + x1))))), (5, .int (iv v24_5)), (6, .int (iv v24_6)), (7, .int (iv v24_7))]) dX7_isHarmless_60 (by decide) rfl ?_
        refine r_iload (pc := 62) dX7_isHarmless_62 rfl ?_
        refine r_iload (pc := 64) dX7_isHarmless_64 rfl ?_
        refine r_iadd (pc := 66) (v := iv (v24_5 + ((bcI z4 16) - 1))) dX7_isHarmless_66 (iv_add _ _) ?_
        refine r_istore (pc := 67) (lv' := [(5, .int (iv (v24_5 + ((bcI z4 16) - 1)))), (8, .int (iv ((bcI z4 16) - 1))), (0, .ref s), (3, .int (iv (x2 * 16))), (4, .int (iv (Lv (Int.toNat ((x2 * 16) + x1))))), (6, .int (iv v24_6)), (7, .int (iv v24_7))]) dX7_isHarmless_67 (by decide) rfl ?_
        refine r_iload (pc := 69) dX7_isHarmless_69 rfl ?_
        refine r_iload (pc := 71) dX7_isHarmless_71 rfl ?_
        obtain ⟨z8, hz8, bz8⟩ := max_b v24_6 ((bcI z4 16) - 1) (by omega) (by omega)
        refine r_mmax (pc := 73) (v := iv z8) qX7_58 dX7_isHarmless_73 (Nat.le_of_ble_eq_true rfl) hz8 ?_
        refine r_istore (pc := 76) (lv' := [(6, .int (iv z8)), (5, .int (iv (v24_5 + ((bcI z4 16) - 1)))), (8, .int (iv ((bcI z4 16) - 1))), (0, .ref s), (3, .int (iv (x2 * 16))), (4, .int (iv (Lv (Int.toNat ((x2 * 16) + x1))))), (7, .int (iv v24_7))]) dX7_isHarmless_76 (by decide) rfl ?_
        have hhi : haI (lvW Lv x2 (Int.toNat x1)) (lvW Lv x2) (v24_7 + 1) (v24_5 + ((bcI z4 16) - 1)) z8 := hai_st (by assumption : haI (lvW Lv x2 (Int.toNat x1)) (lvW Lv x2) v24_7 v24_5 v24_6) (by omega) pmA (by omega) hz54 (by omega)
        have hbb := hai_b hhi (by omega) bA hn
        refine r_iinc (pc := 78) (v := iv (v24_7 + 1)) (lv' := [(7, .int (iv (v24_7 + 1))), (6, .int (iv z8)), (5, .int (iv (v24_5 + ((bcI z4 16) - 1)))), (8, .int (iv ((bcI z4 16) - 1))), (0, .ref s), (3, .int (iv (x2 * 16))), (4, .int (iv (Lv (Int.toNat ((x2 * 16) + x1)))))]) dX7_isHarmless_78 rfl (iv_add _ _) (by decide) rfl ?_
        refine r_goto (pc := 81) (tgt := 24) dX7_isHarmless_81 (by decide) ?_
        refine Rn.pick (lv' := [(0, .ref s), (3, .int (iv (x2 * 16))), (4, .int (iv (Lv (Int.toNat ((x2 * 16) + x1))))), (5, .int (iv (v24_5 + ((bcI z4 16) - 1)))), (6, .int (iv z8)), (7, .int (iv (v24_7 + 1)))]) [4, 5, 6, 2, 1, 0] rfl ?_
        exact ih24 (Int.toNat (16 - (v24_7 + 1))) (by omega) _ ht7 (v24_5 + ((bcI z4 16) - 1)) z8 (v24_7 + 1) ⟨by omega, by omega, by omega, by omega, by omega, by omega, by (first | exact hhi | exact hai_0 bA.2)⟩ (by omega)
  refine Rn.pick (lv' := [(0, .ref s), (3, .int (iv (x2 * 16))), (4, .int (iv (Lv (Int.toNat ((x2 * 16) + x1))))), (5, .int (iv 0)), (6, .int (iv 0)), (7, .int (iv 0))]) [5, 4, 3, 2, 1, 0] rfl ?_
  exact B24 (Int.toNat (16 - 0)) _ ht 0 0 0 ⟨by omega, by omega, by omega, by omega, by omega, by omega, by (first | exact hhi | exact hai_0 bA.2)⟩ (by omega)
