theorem rw_hn {H : Nat → Nat → Prop} {S : Int} {r : Nat → Int} {v : Nat} (h : rwE H S r) (hv : Me S v) : ∀ u, Me (r v) u → ¬ Me (r u) u := fun u hu g => by
  have h1 := ((h v hv).2 u).mp hu
  exact (((h u h1.1).2 u).mp g).2.1 rfl
theorem rw_hy {H : Nat → Nat → Prop} {S : Int} {r : Nat → Int} {v : Nat} (hH : ∀ a b, H a b → H b a) (h : rwE H S r) (hv : Me S v) : ∀ a b, Me (r v) a → Me (r v) b → Me (r a) b → Me (r b) a := fun a b ha hb g => by
  have h1 := ((h v hv).2 a).mp ha
  have h2 := ((h v hv).2 b).mp hb
  have h3 := ((h a h1.1).2 b).mp g
  exact ((h b h2.1).2 a).mpr ⟨h1.1, fun e => h3.2.1 e.symm, hH _ _ h3.2.2⟩
set_option maxHeartbeats 4000000 in
set_option maxRecDepth 100000 in
theorem c_X7_choicesx {D : va_G} {cI cJ cZ cT : ClassId} {lo b L : Nat} {xs : Nat → Int32} {hp : MH} {n d : Nat} {Γ : TG} {s : Nat} {Lv : Nat → Int} {x1 x2 x3 x4 : Int} {R : Nat → Nat → Prop} {P : Nat → Prop} (hd0 : 2 ≤ d) (hO : rd Γ s (tO 7 [fE (.ref (s + 1)), fE (.ref (s + 2)), fE (.ref (s + 3)), fE (.ref (s + 4)), fE (.ref (s + 5))])) (hl : rd Γ (s + 3) (xI cI 272 Lv)) (hlR : Rfx 272 0 65535 Lv) (ht : Tw Γ hp) (hx1 : 0 ≤ x1 ∧ x1 ≤ 65535) (hx2 : 0 ≤ x2 ∧ x2 ≤ 15) (hx3 : 0 ≤ x3 ∧ x3 ≤ 65535) (hx4 : 0 ≤ x4 ∧ x4 ≤ 15) (hR : ∀ i j, R i j → R j i) (hLP : ∀ j, Me x1 j → P j) (hr : rwE (hG R P (Me x1)) x1 (lvW Lv x4)) (hs9 : x2 + 1 < bcI x1 16) (hcl : ∀ i j, Me x3 i → Me x3 j → i ≠ j → R i j) : Mt (gG D cI cJ cZ cT lo b L xs) mX7_choices d 0 0 [.ref s, .int (iv x1), .int (iv x2), .int (iv x3), .int (iv x4)] hp n (pI Γ n (fun r => (0 ≤ r ∧ r ≤ 65535) ∧ chQ R P x2 x1 (lvW Lv x4) r)) := by
  refine Mt.of rfl (Nat.le_of_ble_eq_true rfl) ?_
  refine Rn.pick (lv' := [(0, .ref s), (1, .int (iv x1)), (2, .int (iv x2)), (3, .int (iv x3)), (4, .int (iv x4))]) [0, 1, 2, 3, 4] rfl ?_
  have hb1 := bc_le x1 16
  refine r_iconst (pc := 0) (v := iv 0) dX7_choices_0 (by decide) ?_
  refine r_istore (pc := 1) (lv' := [(5, .int (iv 0)), (0, .ref s), (1, .int (iv x1)), (2, .int (iv x2)), (3, .int (iv x3)), (4, .int (iv x4))]) dX7_choices_1 (by decide) rfl ?_
  refine r_iconst (pc := 3) (v := iv 0) dX7_choices_3 (by decide) ?_
  refine r_istore (pc := 4) (lv' := [(6, .int (iv 0)), (5, .int (iv 0)), (0, .ref s), (1, .int (iv x1)), (2, .int (iv x2)), (3, .int (iv x3)), (4, .int (iv x4))]) dX7_choices_4 (by decide) rfl ?_
  refine r_iconst (pc := 6) (v := iv 0) dX7_choices_6 (by decide) ?_
  refine r_istore (pc := 7) (lv' := [(7, .int (iv 0)), (6, .int (iv 0)), (5, .int (iv 0)), (0, .ref s), (1, .int (iv x1)), (2, .int (iv x2)), (3, .int (iv x3)), (4, .int (iv x4))]) dX7_choices_7 (by decide) rfl ?_
  have B9 : ∀ k : Nat, ∀ hp9 : MH, Tw Γ hp9 → ∀  (v9_5 : Int) (v9_6 : Int) (v9_7 : Int), 0 ≤ v9_5 ∧ v9_5 ≤ 65535 ∧ 0 ≤ v9_6 ∧ v9_6 ≤ 256 ∧ 0 ≤ v9_7 ∧ v9_7 ≤ 16 ∧ (chI x1 (lvW Lv x4) x2 v9_7 v9_5 v9_6) → 16 - v9_7 ≤ (k : Int) → Rn (gG D cI cJ cZ cT lo b L xs) mX7_choices d 9 [(0, .ref s), (1, .int (iv x1)), (2, .int (iv x2)), (3, .int (iv x3)), (4, .int (iv x4)), (5, .int (iv v9_5)), (6, .int (iv v9_6)), (7, .int (iv v9_7))] [] hp9 n 0 0 (pI Γ n (fun r => (0 ≤ r ∧ r ≤ 65535) ∧ chQ R P x2 x1 (lvW Lv x4) r)) := by
    refine lpS _ ?_
    intro k9 ih9 hp9 ht9 v9_5 v9_6 v9_7 hf9 hm9
    obtain ⟨hf9_0, hf9_1, hf9_2, hf9_3, hf9_4, hf9_5, ha9_6⟩ := hf9
    refine r_iload (pc := 9) dX7_choices_9 rfl ?_
    refine r_bipush (pc := 11) (v := iv 16) dX7_choices_11 (by decide) ?_
    refine t_icmp_ge (pc := 13) (tgt := 87) dX7_choices_13 (by decide) (by omega) (by omega) (fun c13 => ?_) (fun c13 => ?_)
    · refine r_iconst (pc := 87) (v := iv 2) dX7_choices_87 (by decide) ?_
      refine r_iload_n (pc := 88) dX7_choices_88 (i := 2) rfl rfl ?_
      refine r_imul (pc := 89) (v := iv (2 * x2)) dX7_choices_89 (iv_mul _ _) ?_
      refine r_iload_n (pc := 90) dX7_choices_90 (i := 1) rfl rfl ?_
      refine t_callSI (pc := 91) (as := [.int (iv x1)]) (st := [.int (iv (2 * x2))]) kX7_52 dX7_choices_91 (t_bitCountx (d := d - 1) (x := x1) (by omega) ht9 (by omega)) rfl (by omega) (Nat.le_of_ble_eq_true rfl) rfl (fun hp2 y1 ht3 by1 => ?_)
      have ey1 : y1 = bcI x1 16 := by1
      subst ey1
      have ry1 := bc_le x1 16
      obtain ⟨z4, hz4, bz4⟩ := any_i (iv (2 * x2) * iv (bcI x1 16))
      refine r_imul (pc := 94) (v := iv z4) dX7_choices_94 hz4 ?_
      refine r_iload_n (pc := 95) dX7_choices_95 (i := 2) rfl rfl ?_
      refine r_iload_n (pc := 96) dX7_choices_96 (i := 2) rfl rfl ?_
      refine r_iconst (pc := 97) (v := iv 1) dX7_choices_97 (by decide) ?_
      refine r_iadd (pc := 98) (v := iv (x2 + 1)) dX7_choices_98 (iv_add _ _) ?_
      obtain ⟨z5, hz5, bz5⟩ := any_i (iv x2 * iv (x2 + 1))
      refine r_imul (pc := 99) (v := iv z5) dX7_choices_99 hz5 ?_
      obtain ⟨z6, hz6, bz6⟩ := any_i (iv z4 - iv z5)
      refine r_isub (pc := 100) (v := iv z6) dX7_choices_100 hz6 ?_
      have hml := ch_ml (by omega) hb1 hz4 (by omega) hz5 (by omega) hz6 (by omega)
      have hce := chi_e (show chI x1 (lvW Lv x4) x2 16 v9_5 v9_6 from (show v9_7 = 16 by omega) ▸ (by assumption : chI x1 (lvW Lv x4) x2 v9_7 v9_5 v9_6)) (by omega)
      refine r_istore (pc := 101) (lv' := [(7, .int (iv z6)), (0, .ref s), (1, .int (iv x1)), (2, .int (iv x2)), (3, .int (iv x3)), (4, .int (iv x4)), (5, .int (iv v9_5)), (6, .int (iv v9_6))]) dX7_choices_101 (by decide) rfl ?_
      refine r_iload (pc := 103) dX7_choices_103 rfl ?_
      refine r_iload (pc := 105) dX7_choices_105 rfl ?_
      refine t_icmp_le (pc := 107) (tgt := 114) dX7_choices_107 (by decide) (by omega) (by omega) (fun c107 => ?_) (fun c107 => ?_)
      · refine r_iload (pc := 114) dX7_choices_114 rfl ?_
        refine r_iload_n (pc := 116) dX7_choices_116 (i := 3) rfl rfl ?_
        refine r_iconst (pc := 117) (v := iv (-1)) dX7_choices_117 (by decide) ?_
        refine r_ixor (pc := 118) (v := iv (-x3 - 1)) dX7_choices_118 (iv_not _) ?_
        obtain ⟨z7, hz7, bz7⟩ := and_l v9_5 (-x3 - 1) (by omega) (by omega)
        refine r_iand (pc := 119) (v := iv z7) dX7_choices_119 hz7 ?_
        have mez7 := Me_not (y := x3) hz7 (by omega) (by omega) (by omega)
        exact r_iret (pc := 120) dX7_choices_120 rfl ⟨rfl, ht3, _, rfl, by omega, ch_la hR hLP (by omega) hr (by omega) hs9 hcl hce.1 (fun i => mez7 i)⟩
      · refine r_iconst (pc := 110) (v := iv 0) dX7_choices_110 (by decide) ?_
        refine r_goto (pc := 111) (tgt := 120) dX7_choices_111 (by decide) ?_
        exact r_iret (pc := 120) dX7_choices_120 rfl ⟨rfl, ht3, _, rfl, by omega, ch_en hR (by omega) hr (by omega) (by omega) (by rw [← hce.2, ← hml]; omega)⟩
    · refine r_iload_n (pc := 16) dX7_choices_16 (i := 1) rfl rfl ?_
      refine r_iload (pc := 17) dX7_choices_17 rfl ?_
      have hq19_8 := shr_le (Int.toNat x1) (Int.toNat v9_7)
      refine r_ishr (pc := 19) (v := iv ((Int.toNat x1 >>> Int.toNat v9_7 : Nat) : Int)) dX7_choices_19 (shr_e (by omega) (by omega)) ?_
      refine r_iconst (pc := 20) (v := iv 1) dX7_choices_20 (by decide) ?_
      refine r_iand (pc := 21) (v := iv (((Int.toNat x1 >>> Int.toNat v9_7 : Nat) : Int) % 2)) dX7_choices_21 (and1_e _ (by omega)) ?_
      have mb21 := @Me_bit x1 v9_7
      refine t_if_eq (pc := 22) (tgt := 81) dX7_choices_22 (by decide) (by omega) (fun c22 => ?_) (fun c22 => ?_)
      · have nm22 : ¬ Me x1 (Int.toNat v9_7) := fun h9 => absurd (Me_bit.mpr h9) (by omega)
        have hch := chi_sk (by assumption : chI x1 (lvW Lv x4) x2 v9_7 v9_5 v9_6) (by omega) nm22
        refine r_iinc (pc := 81) (v := iv (v9_7 + 1)) (lv' := [(7, .int (iv (v9_7 + 1))), (0, .ref s), (1, .int (iv x1)), (2, .int (iv x2)), (3, .int (iv x3)), (4, .int (iv x4)), (5, .int (iv v9_5)), (6, .int (iv v9_6))]) dX7_choices_81 rfl (iv_add _ _) (by decide) rfl ?_
        refine r_goto (pc := 84) (tgt := 9) dX7_choices_84 (by decide) ?_
        refine Rn.pick (lv' := [(0, .ref s), (1, .int (iv x1)), (2, .int (iv x2)), (3, .int (iv x3)), (4, .int (iv x4)), (5, .int (iv v9_5)), (6, .int (iv v9_6)), (7, .int (iv (v9_7 + 1)))]) [1, 2, 3, 4, 5, 6, 7, 0] rfl ?_
        exact ih9 (Int.toNat (16 - (v9_7 + 1))) (by omega) _ ht9 v9_5 v9_6 (v9_7 + 1) ⟨by omega, by omega, by omega, by omega, by omega, by omega, by (first | exact hch | exact chi_0)⟩ (by omega)
      · have pm22 : Me x1 (Int.toNat v9_7) := Me_bit.mp (by omega)
        refine r_aload_n (pc := 25) dX7_choices_25 (i := 0) rfl rfl ?_
        refine t_getE (pc := 26) (.ref (s + 3)) ht9 hO fX7_18 dX7_choices_26 rfl ?_
        refine r_iload (pc := 29) dX7_choices_29 rfl ?_
        refine r_bipush (pc := 31) (v := iv 16) dX7_choices_31 (by decide) ?_
        refine r_imul (pc := 33) (v := iv (x4 * 16)) dX7_choices_33 (iv_mul _ _) ?_
        refine r_iload (pc := 34) dX7_choices_34 rfl ?_
        refine r_iadd (pc := 36) (v := iv ((x4 * 16) + v9_7)) dX7_choices_36 (iv_add _ _) ?_
        refine t_ialdX (pc := 37) (t0 := 0) ht9 hl dX7_choices_37 rfl (by decide) (by omega) (fun b9 => ?_)
        have rb9 := (show Rfx 272 0 65535 Lv by assumption) (Int.toNat ((x4 * 16) + v9_7)) (by omega)
        have e37 : Lv (Int.toNat ((x4 * 16) + v9_7)) = lvW Lv x4 (Int.toNat v9_7) := lv_e (by omega) (by omega) (by omega)
        refine t_callSI (pc := 38) (as := [.int (iv (Lv (Int.toNat ((x4 * 16) + v9_7))))]) (st := []) kX7_52 dX7_choices_38 (t_bitCountx (d := d - 1) (x := Lv (Int.toNat ((x4 * 16) + v9_7))) (by omega) ht9 (by omega)) rfl (by omega) (Nat.le_of_ble_eq_true rfl) rfl (fun hp11 y10 ht12 by10 => ?_)
        have ey10 : y10 = bcI (Lv (Int.toNat ((x4 * 16) + v9_7))) 16 := by10
        subst ey10
        have ry10 := bc_le (Lv (Int.toNat ((x4 * 16) + v9_7))) 16
        refine r_istore (pc := 41) (lv' := [(8, .int (iv (bcI (Lv (Int.toNat ((x4 * 16) + v9_7))) 16))), (0, .ref s), (1, .int (iv x1)), (2, .int (iv x2)), (3, .int (iv x3)), (4, .int (iv x4)), (5, .int (iv v9_5)), (6, .int (iv v9_6)), (7, .int (iv v9_7))]) dX7_choices_41 (by decide) rfl ?_
        have eD : bcI (Lv (Int.toNat ((x4 * 16) + v9_7))) 16 = bcI (lvW Lv x4 (Int.toNat v9_7)) 16 := by rw [e37]
        refine r_iload (pc := 43) dX7_choices_43 rfl ?_
        refine r_iload (pc := 45) dX7_choices_45 rfl ?_
        refine r_iadd (pc := 47) (v := iv (v9_6 + (bcI (Lv (Int.toNat ((x4 * 16) + v9_7))) 16))) dX7_choices_47 (iv_add _ _) ?_
        refine r_istore (pc := 48) (lv' := [(6, .int (iv (v9_6 + (bcI (Lv (Int.toNat ((x4 * 16) + v9_7))) 16)))), (8, .int (iv (bcI (Lv (Int.toNat ((x4 * 16) + v9_7))) 16))), (0, .ref s), (1, .int (iv x1)), (2, .int (iv x2)), (3, .int (iv x3)), (4, .int (iv x4)), (5, .int (iv v9_5)), (7, .int (iv v9_7))]) dX7_choices_48 (by decide) rfl ?_
        refine r_iload (pc := 50) dX7_choices_50 rfl ?_
        refine r_iload_n (pc := 52) dX7_choices_52 (i := 2) rfl rfl ?_
        refine t_icmp_gt (pc := 53) (tgt := 81) dX7_choices_53 (by decide) (by omega) (by omega) (fun c53 => ?_) (fun c53 => ?_)
        · have hch := chi_no (by assumption : chI x1 (lvW Lv x4) x2 v9_7 v9_5 v9_6) (by omega) pm22 (by rw [← eD]; omega)
          rw [← eD] at hch
          have hbb := chi_b hch (by omega)
          refine r_iinc (pc := 81) (v := iv (v9_7 + 1)) (lv' := [(7, .int (iv (v9_7 + 1))), (6, .int (iv (v9_6 + (bcI (Lv (Int.toNat ((x4 * 16) + v9_7))) 16)))), (8, .int (iv (bcI (Lv (Int.toNat ((x4 * 16) + v9_7))) 16))), (0, .ref s), (1, .int (iv x1)), (2, .int (iv x2)), (3, .int (iv x3)), (4, .int (iv x4)), (5, .int (iv v9_5))]) dX7_choices_81 rfl (iv_add _ _) (by decide) rfl ?_
          refine r_goto (pc := 84) (tgt := 9) dX7_choices_84 (by decide) ?_
          refine Rn.pick (lv' := [(0, .ref s), (1, .int (iv x1)), (2, .int (iv x2)), (3, .int (iv x3)), (4, .int (iv x4)), (5, .int (iv v9_5)), (6, .int (iv (v9_6 + (bcI (Lv (Int.toNat ((x4 * 16) + v9_7))) 16)))), (7, .int (iv (v9_7 + 1)))]) [3, 4, 5, 6, 7, 8, 1, 0] rfl ?_
          exact ih9 (Int.toNat (16 - (v9_7 + 1))) (by omega) _ ht12 v9_5 (v9_6 + (bcI (Lv (Int.toNat ((x4 * 16) + v9_7))) 16)) (v9_7 + 1) ⟨by omega, by omega, by omega, by omega, by omega, by omega, by (first | exact hch | exact chi_0)⟩ (by omega)
        · refine r_aload_n (pc := 56) dX7_choices_56 (i := 0) rfl rfl ?_
          refine r_iload (pc := 57) dX7_choices_57 rfl ?_
          refine r_iload (pc := 59) dX7_choices_59 rfl ?_
          refine t_callVI (pc := 61) (as := [.int (iv v9_7), .int (iv x4)]) (st := []) ht12 hO kX7_128 rfl dX7_choices_61 (c_X7_isHarmlessx (d := d - 1) (x1 := v9_7) (x2 := x4) (by omega) hO hl hlR ht12 (by omega) (by omega) (rw_hn hr pm22) (rw_hy (hg_sy hR) hr pm22)) rfl (by omega) (Nat.le_of_ble_eq_true rfl) rfl (fun hp13 yh ht14 hyh => ?_)
          obtain ⟨byh, hyq⟩ := hyh
          refine t_if_eq (pc := 64) (tgt := 72) dX7_choices_64 (by decide) (by omega) (fun c64 => ?_) (fun c64 => ?_)
          · refine r_iload (pc := 72) dX7_choices_72 rfl ?_
            refine r_iconst (pc := 74) (v := iv 1) dX7_choices_74 (by decide) ?_
            refine r_iload (pc := 75) dX7_choices_75 rfl ?_
            refine r_ishl (pc := 77) (v := iv ((2 ^ Int.toNat v9_7 : Nat) : Int)) dX7_choices_77 (shl_e (by omega)) ?_
            have mp77_15 : 1 ≤ 2 ^ Int.toNat v9_7 := Nat.one_le_two_pow
            have mq77_16 : 2 ^ Int.toNat v9_7 ≤ 2 ^ 15 := Nat.pow_le_pow_right (by omega) (by omega)
            have ms77 := Me_shl (Int.toNat v9_7)
            obtain ⟨z17, hz17, bz17⟩ := or_2 16 v9_5 ((2 ^ Int.toNat v9_7 : Nat) : Int) (by omega) (by omega) (by decide)
            refine r_ior (pc := 78) (v := iv z17) dX7_choices_78 hz17 ?_
            have mez17 := Me_or hz17 (by omega) (by omega) (by omega)
            have hz78 : ∀ i, Me z17 i ↔ Me v9_5 i ∨ i = (Int.toNat v9_7) := fun i => by rw [mez17 i, ms77 i]
            have hch := chi_ye (by assumption : chI x1 (lvW Lv x4) x2 v9_7 v9_5 v9_6) (by omega) pm22 (by rw [← eD]; omega) hz78
            rw [← eD] at hch
            have hbb := chi_b hch (by omega)
            refine r_istore (pc := 79) (lv' := [(5, .int (iv z17)), (6, .int (iv (v9_6 + (bcI (Lv (Int.toNat ((x4 * 16) + v9_7))) 16)))), (8, .int (iv (bcI (Lv (Int.toNat ((x4 * 16) + v9_7))) 16))), (0, .ref s), (1, .int (iv x1)), (2, .int (iv x2)), (3, .int (iv x3)), (4, .int (iv x4)), (7, .int (iv v9_7))]) dX7_choices_79 (by decide) rfl ?_
            refine r_iinc (pc := 81) (v := iv (v9_7 + 1)) (lv' := [(7, .int (iv (v9_7 + 1))), (5, .int (iv z17)), (6, .int (iv (v9_6 + (bcI (Lv (Int.toNat ((x4 * 16) + v9_7))) 16)))), (8, .int (iv (bcI (Lv (Int.toNat ((x4 * 16) + v9_7))) 16))), (0, .ref s), (1, .int (iv x1)), (2, .int (iv x2)), (3, .int (iv x3)), (4, .int (iv x4))]) dX7_choices_81 rfl (iv_add _ _) (by decide) rfl ?_
            refine r_goto (pc := 84) (tgt := 9) dX7_choices_84 (by decide) ?_
            refine Rn.pick (lv' := [(0, .ref s), (1, .int (iv x1)), (2, .int (iv x2)), (3, .int (iv x3)), (4, .int (iv x4)), (5, .int (iv z17)), (6, .int (iv (v9_6 + (bcI (Lv (Int.toNat ((x4 * 16) + v9_7))) 16)))), (7, .int (iv (v9_7 + 1)))]) [4, 5, 6, 7, 8, 1, 2, 0] rfl ?_
            exact ih9 (Int.toNat (16 - (v9_7 + 1))) (by omega) _ ht14 z17 (v9_6 + (bcI (Lv (Int.toNat ((x4 * 16) + v9_7))) 16)) (v9_7 + 1) ⟨by omega, by omega, by omega, by omega, by omega, by omega, by (first | exact hch | exact chi_0)⟩ (by omega)
          · have hha := hyq (by omega)
            refine r_iconst (pc := 67) (v := iv 1) dX7_choices_67 (by decide) ?_
            refine r_iload (pc := 68) dX7_choices_68 rfl ?_
            refine r_ishl (pc := 70) (v := iv ((2 ^ Int.toNat v9_7 : Nat) : Int)) dX7_choices_70 (shl_e (by omega)) ?_
            have mp70_18 : 1 ≤ 2 ^ Int.toNat v9_7 := Nat.one_le_two_pow
            have mq70_19 : 2 ^ Int.toNat v9_7 ≤ 2 ^ 15 := Nat.pow_le_pow_right (by omega) (by omega)
            have ms70 := Me_shl (Int.toNat v9_7)
            exact r_iret (pc := 71) dX7_choices_71 rfl ⟨rfl, ht14, _, rfl, by omega, ch_ha hR hLP hr pm22 (by rw [← eD]; omega) hha ms70⟩
  refine Rn.pick (lv' := [(0, .ref s), (1, .int (iv x1)), (2, .int (iv x2)), (3, .int (iv x3)), (4, .int (iv x4)), (5, .int (iv 0)), (6, .int (iv 0)), (7, .int (iv 0))]) [3, 4, 5, 6, 7, 2, 1, 0] rfl ?_
  exact B9 (Int.toNat (16 - 0)) _ ht 0 0 0 ⟨by omega, by omega, by omega, by omega, by omega, by omega, by (first | exact hch | exact chi_0)⟩ (by omega)
