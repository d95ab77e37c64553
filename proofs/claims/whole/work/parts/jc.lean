/-- what canGo answers -/
def cgQ (Γ : TG) (cI : ClassId) (s n : Nat) (R : Nat → Nat → Prop) (P : Nat → Prop) (k L d : Int) (Lv : Nat → Int) : Option Value → MH → Nat → Prop := fun r hp1 n1 => n1 = n ∧ ∃ (v : Int) (L1 H1 : Nat → Int), r = some (.int (iv v)) ∧ Tw (ov (ov Γ (s + 3) (xI cI 272 L1)) (s + 5) (xI cI 2048 H1)) hp1 ∧ Rfx 272 0 65535 L1 ∧ Rfx 2048 (-2147483648) 2147483647 H1 ∧ hoK R P k H1 ∧ (∀ j, j < 16 * (d.toNat + 1) → L1 j = Lv j) ∧ (0 ≤ v ∧ v ≤ 1) ∧ (v = 1 ↔ gW R P k L)
set_option maxHeartbeats 4000000 in
set_option maxRecDepth 100000 in
theorem c_X7_canGo_st {D : va_G} {cI cJ cZ cT : ClassId} {lo b L : Nat} {xs : Nat → Int32} {hp : MH} {n d : Nat} {Γ : TG} {s : Nat} {Lv Ho : Nat → Int} {x1 x2 x3 x4 : Int} {R : Nat → Nat → Prop} {P : Nat → Prop} (hd0 : 3 ≤ d) (hO : rd Γ s (tO 7 [fE (.ref (s + 1)), fE (.ref (s + 2)), fE (.ref (s + 3)), fE (.ref (s + 4)), fE (.ref (s + 5))])) (hRl : Rfx 272 0 65535 Lv) (hRh : Rfx 2048 (-2147483648) 2147483647 Ho) (ht : Tw (ov (ov Γ (s + 3) (xI cI 272 Lv)) (s + 5) (xI cI 2048 Ho)) hp) (hx1 : 0 ≤ x1 ∧ x1 ≤ 65535) (hx2 : 0 ≤ x2 ∧ x2 ≤ 15) (hx3 : 0 ≤ x3 ∧ x3 ≤ 65535) (hx4 : 0 ≤ x4 ∧ x4 ≤ 16) (hdp : bcI x1 16 + x4 ≤ 16) (hR : ∀ i j, R i j → R j i) (hLP : ∀ j, Me x1 j → P j) (hcl : ∀ i j, Me x3 i → Me x3 j → i ≠ j → R i j) (hr : rwE (hG R P (Me x1)) x1 (lvW Lv x4)) (hok : hoK R P x2 Ho) (ih : ∀ (hp : MH) (n : Nat) (z : Int) (L1 H1 : Nat → Int), Tw (ov (ov Γ (s + 3) (xI cI 272 L1)) (s + 5) (xI cI 2048 H1)) hp → Rfx 272 0 65535 L1 → Rfx 2048 (-2147483648) 2147483647 H1 → (0 ≤ z ∧ z ≤ 65535) → suP z x1 → bcI z 16 < bcI x1 16 → rwE (hG R P (Me z)) z (lvW L1 (x4 + 1)) → hoK R P x2 H1 → Mt (gG D cI cJ cZ cT lo b L xs) mX7_canGo (d - 1) 0 0 [.ref s, .int (iv z), .int (iv x2), .int (iv x3), .int (iv (x4 + 1))] hp n (cgQ Γ cI s n R P x2 z (x4 + 1) L1)) : Mt (gG D cI cJ cZ cT lo b L xs) mX7_canGo d 0 0 [.ref s, .int (iv x1), .int (iv x2), .int (iv x3), .int (iv x4)] hp n (cgQ Γ cI s n R P x2 x1 x4 Lv) := by
  refine Mt.of rfl (Nat.le_of_ble_eq_true rfl) ?_
  refine Rn.pick (lv' := [(0, .ref s), (1, .int (iv x1)), (2, .int (iv x2)), (3, .int (iv x3)), (4, .int (iv x4))]) [0, 1, 2, 3, 4] rfl ?_
  have hb1 := bc_le x1 16
  refine r_iload_n (pc := 0) dX7_canGo_0 (i := 1) rfl rfl ?_
  refine t_callSI (pc := 1) (as := [.int (iv x1)]) (st := []) kX7_52 dX7_canGo_1 (t_bitCountx (d := d - 1) (x := x1) (by omega) ht (by omega)) rfl (by omega) (Nat.le_of_ble_eq_true rfl) rfl (fun hp2 y1 ht3 by1 => ?_)
  have ey1 : y1 = bcI x1 16 := by1
  subst ey1
  have ry1 := bc_le x1 16
  refine r_iload_n (pc := 4) dX7_canGo_4 (i := 2) rfl rfl ?_
  refine r_iconst (pc := 5) (v := iv 1) dX7_canGo_5 (by decide) ?_
  refine r_iadd (pc := 6) (v := iv (x2 + 1)) dX7_canGo_6 (iv_add _ _) ?_
  refine t_icmp_gt (pc := 7) (tgt := 12) dX7_canGo_7 (by decide) (by omega) (by omega) (fun c7 => ?_) (fun c7 => ?_)
  · refine r_iload (pc := 12) dX7_canGo_12 rfl ?_
    refine r_bipush (pc := 14) (v := iv 16) dX7_canGo_14 (by decide) ?_
    refine t_icmp_lt (pc := 16) (tgt := 21) dX7_canGo_16 (by decide) (by omega) (by omega) (fun c16 => ?_) (fun c16 => ?_)
    · refine r_aload_n (pc := 21) dX7_canGo_21 (i := 0) rfl rfl ?_
      refine r_iload_n (pc := 22) dX7_canGo_22 (i := 1) rfl rfl ?_
      refine r_iload_n (pc := 23) dX7_canGo_23 (i := 2) rfl rfl ?_
      refine r_iload_n (pc := 24) dX7_canGo_24 (i := 3) rfl rfl ?_
      refine r_iload (pc := 25) dX7_canGo_25 rfl ?_
      refine t_callVI (pc := 27) (as := [.int (iv x1), .int (iv x2), .int (iv x3), .int (iv x4)]) (st := []) ht3 (rd_ov (by omega) (rd_ov (by omega) hO)) kX7_116 rfl dX7_canGo_27 (c_X7_choicesx (R := R) (P := P) (d := d - 1) (x1 := x1) (x2 := x2) (x3 := x3) (x4 := x4) (by omega) (rd_ov (by omega) (rd_ov (by omega) hO)) (rd_ov (by omega) (rd_of (ov_s _ _ _))) hRl ht3 (by omega) (by omega) (by omega) (by omega) hR hLP hr (by omega) hcl) rfl (by omega) (Nat.le_of_ble_eq_true rfl) rfl (fun hp4 yc ht5 hyc => ?_)
      obtain ⟨byc, hcq⟩ := hyc
      refine r_istore (pc := 30) (lv' := [(5, .int (iv yc)), (0, .ref s), (1, .int (iv x1)), (2, .int (iv x2)), (3, .int (iv x3)), (4, .int (iv x4))]) dX7_canGo_30 (by decide) rfl ?_
      refine r_iconst (pc := 32) (v := iv 0) dX7_canGo_32 (by decide) ?_
      refine r_istore (pc := 33) (lv' := [(6, .int (iv 0)), (5, .int (iv yc)), (0, .ref s), (1, .int (iv x1)), (2, .int (iv x2)), (3, .int (iv x3)), (4, .int (iv x4))]) dX7_canGo_33 (by decide) rfl ?_
      have B35 : ∀ k : Nat, ∀ Lv35 : Nat → Int, ∀ Ho35 : Nat → Int, ∀ hp35 : MH, Tw (ov (ov Γ (s + 3) (xI cI 272 Lv35)) (s + 5) (xI cI 2048 Ho35)) hp35 → ∀  (v35_6 : Int), 0 ≤ v35_6 ∧ v35_6 ≤ 16 ∧ (Rfx 272 0 65535 Lv35) ∧ (Rfx 2048 (-2147483648) 2147483647 Ho35) ∧ (hoK R P x2 Ho35) ∧ (∀ j, j < 16 * (Int.toNat x4 + 1) → Lv35 j = Lv j) ∧ (cgI R P x2 x1 yc v35_6) → 16 - v35_6 ≤ (k : Int) → Rn (gG D cI cJ cZ cT lo b L xs) mX7_canGo d 35 [(0, .ref s), (1, .int (iv x1)), (2, .int (iv x2)), (3, .int (iv x3)), (4, .int (iv x4)), (5, .int (iv yc)), (6, .int (iv v35_6))] [] hp35 n 0 0 (cgQ Γ cI s n R P x2 x1 x4 Lv) := by
        refine lpS _ ?_
        intro k35 ih35 Lv35 Ho35 hp35 ht35 v35_6 hf35 hm35
        obtain ⟨hf35_0, hf35_1, ha35_2, ha35_3, ha35_4, ha35_5, ha35_6⟩ := hf35
        refine r_iload (pc := 35) dX7_canGo_35 rfl ?_
        refine r_bipush (pc := 37) (v := iv 16) dX7_canGo_37 (by decide) ?_
        refine t_icmp_ge (pc := 39) (tgt := 103) dX7_canGo_39 (by decide) (by omega) (by omega) (fun c39 => ?_) (fun c39 => ?_)
        · refine r_aload_n (pc := 103) dX7_canGo_103 (i := 0) rfl rfl ?_
          refine t_getE (pc := 104) (.ref (s + 5)) ht35 (rd_ov (by omega) (rd_ov (by omega) hO)) fX7_24 dX7_canGo_104 rfl ?_
          refine r_iload_n (pc := 107) dX7_canGo_107 (i := 1) rfl rfl ?_
          refine r_iconst (pc := 108) (v := iv 5) dX7_canGo_108 (by decide) ?_
          obtain ⟨z6, hz6, bz6⟩ := any_i (((iv x1).toUInt32 >>> ((iv 5).toUInt32 &&& Int32.toUInt32 31)).toInt32)
          refine r_iushr (pc := 109) (v := iv z6) dX7_canGo_109 hz6 ?_
          have hi1 := ho_i1 (by omega) hz6 (by omega)
          refine r_sipush (pc := 110) (v := iv 2047) dX7_canGo_110 (by decide) ?_
          obtain ⟨z7, hz7, bz7⟩ := and_r z6 2047 (by omega) (by omega)
          refine r_iand (pc := 113) (v := iv z7) dX7_canGo_113 hz7 ?_
          have hi2 := ho_i2 (by omega) hz7 (by omega)
          refine r_dup2_11 (pc := 114) dX7_canGo_114 rfl rfl ?_
          refine t_ialdX (pc := 115) (t0 := 0) ht35 (rd_of (ov_s _ _ _)) dX7_canGo_115 rfl (by decide) (by omega) (fun b8 => ?_)
          have rb8 := (show Rfx 2048 (-2147483648) 2147483647 Ho35 by assumption) (Int.toNat z7) (by omega)
          refine r_iconst (pc := 116) (v := iv 1) dX7_canGo_116 (by decide) ?_
          refine r_iload_n (pc := 117) dX7_canGo_117 (i := 1) rfl rfl ?_
          refine r_bipush (pc := 118) (v := iv 31) dX7_canGo_118 (by decide) ?_
          obtain ⟨z9, hz9, bz9⟩ := and_2 x1 31 (by omega) (by omega)
          refine r_iand (pc := 120) (v := iv z9) dX7_canGo_120 hz9 ?_
          have mez9 := Me_and hz9 (by omega) (by omega) (by omega)
          have hi3 := ho_i3 (by omega) hz9 (by omega)
          obtain ⟨z10, hz10, bz10⟩ := any_i (iv 1 <<< (iv z9 &&& 31))
          refine r_ishl (pc := 121) (v := iv z10) dX7_canGo_121 hz10 ?_
          obtain ⟨z11, hz11, bz11⟩ := any_i (iv (Ho35 (Int.toNat z7)) ||| iv z10)
          refine r_ior (pc := 122) (v := iv z11) dX7_canGo_122 hz11 ?_
          refine t_iastX (pc := 123) (t0 := 0) ht35 (ov_s _ _ _) dX7_canGo_123 rfl (by decide) (by omega) (by omega) (fun hp12 ht13 => ?_)
          rw [ov_ov] at ht13
          have hng : ¬ gW R P x2 x1 := cg_e hcq (by omega) (by omega) (by assumption : cgI R P x2 x1 yc v35_6) (by omega)
          have hkk : hoK R P x2 (fup Ho35 (Int.toNat z7) z11) := by
            have h9 := hz11
            rw [show Int.toNat z7 = x1.toNat / 32 by omega] at h9 ⊢
            exact hok_st (by assumption : hoK R P x2 Ho35) (by omega) hi3 (by omega) hz10 h9 hng
          have hR3 : Rfx 2048 (-2147483648) 2147483647 (fup Ho35 (Int.toNat z7) z11) := Rfx_up (by assumption) (by omega)
          refine r_iconst (pc := 124) (v := iv 0) dX7_canGo_124 (by decide) ?_
          exact r_zret (pc := 125) dX7_canGo_125 rfl (iv_nar (by omega)) ⟨rfl, _, _, _, rfl, ht13, by assumption, hR3, hkk, (by assumption : ∀ j, j < 16 * (Int.toNat x4 + 1) → Lv35 j = Lv j), by omega, ⟨fun g9 => by omega, fun g9 => absurd g9 hng⟩⟩
        · refine r_iload_n (pc := 42) dX7_canGo_42 (i := 1) rfl rfl ?_
          refine r_iconst (pc := 43) (v := iv 1) dX7_canGo_43 (by decide) ?_
          refine r_iload (pc := 44) dX7_canGo_44 rfl ?_
          refine r_ishl (pc := 46) (v := iv ((2 ^ Int.toNat v35_6 : Nat) : Int)) dX7_canGo_46 (shl_e (by omega)) ?_
          have mp46_14 : 1 ≤ 2 ^ Int.toNat v35_6 := Nat.one_le_two_pow
          have mq46_15 : 2 ^ Int.toNat v35_6 ≤ 2 ^ 15 := Nat.pow_le_pow_right (by omega) (by omega)
          have ms46 := Me_shl (Int.toNat v35_6)
          refine r_iconst (pc := 47) (v := iv (-1)) dX7_canGo_47 (by decide) ?_
          refine r_ixor (pc := 48) (v := iv (-((2 ^ Int.toNat v35_6 : Nat) : Int) - 1)) dX7_canGo_48 (iv_not _) ?_
          obtain ⟨z16, hz16, bz16⟩ := and_l x1 (-((2 ^ Int.toNat v35_6 : Nat) : Int) - 1) (by omega) (by omega)
          refine r_iand (pc := 49) (v := iv z16) dX7_canGo_49 hz16 ?_
          have mez16 := Me_not (y := ((2 ^ Int.toNat v35_6 : Nat) : Int)) hz16 (by omega) (by omega) (by omega)
          have hz49 : ∀ i, Me z16 i ↔ Me x1 i ∧ i ≠ (Int.toNat v35_6) := fun i => by rw [mez16 i, ms46 i]
          refine r_istore (pc := 50) (lv' := [(7, .int (iv z16)), (0, .ref s), (1, .int (iv x1)), (2, .int (iv x2)), (3, .int (iv x3)), (4, .int (iv x4)), (5, .int (iv yc)), (6, .int (iv v35_6))]) dX7_canGo_50 (by decide) rfl ?_
          refine r_iload (pc := 52) dX7_canGo_52 rfl ?_
          refine r_iload (pc := 54) dX7_canGo_54 rfl ?_
          have hq56_17 := shr_le (Int.toNat yc) (Int.toNat v35_6)
          refine r_ishr (pc := 56) (v := iv ((Int.toNat yc >>> Int.toNat v35_6 : Nat) : Int)) dX7_canGo_56 (shr_e (by omega) (by omega)) ?_
          refine r_iconst (pc := 57) (v := iv 1) dX7_canGo_57 (by decide) ?_
          refine r_iand (pc := 58) (v := iv (((Int.toNat yc >>> Int.toNat v35_6 : Nat) : Int) % 2)) dX7_canGo_58 (and1_e _ (by omega)) ?_
          have mb58 := @Me_bit yc v35_6
          refine t_if_eq (pc := 59) (tgt := 97) dX7_canGo_59 (by decide) (by omega) (fun c59 => ?_) (fun c59 => ?_)
          · have nm59 : ¬ Me yc (Int.toNat v35_6) := fun h9 => absurd (Me_bit.mpr h9) (by omega)
            have hcg := cg_sk (by assumption : cgI R P x2 x1 yc v35_6) (by omega) nm59
            have hsm := (by assumption : ∀ j, j < 16 * (Int.toNat x4 + 1) → Lv35 j = Lv j)
            have hkk := (by assumption : hoK R P x2 Ho35)
            refine r_iinc (pc := 97) (v := iv (v35_6 + 1)) (lv' := [(6, .int (iv (v35_6 + 1))), (7, .int (iv z16)), (0, .ref s), (1, .int (iv x1)), (2, .int (iv x2)), (3, .int (iv x3)), (4, .int (iv x4)), (5, .int (iv yc))]) dX7_canGo_97 rfl (iv_add _ _) (by decide) rfl ?_
            refine r_goto (pc := 100) (tgt := 35) dX7_canGo_100 (by decide) ?_
            refine Rn.pick (lv' := [(0, .ref s), (1, .int (iv x1)), (2, .int (iv x2)), (3, .int (iv x3)), (4, .int (iv x4)), (5, .int (iv yc)), (6, .int (iv (v35_6 + 1)))]) [2, 3, 4, 5, 6, 7, 0] rfl ?_
            exact ih35 (Int.toNat (16 - (v35_6 + 1))) (by omega) Lv35 Ho35 _ ht35 (v35_6 + 1) ⟨by omega, by omega, by (first | exact hR2 | assumption), by (first | exact hR3 | assumption), by (first | exact hkk | exact hok), by (first | exact hsm | exact fun _ _ => rfl), by (first | exact hcg | exact cgI_0)⟩ (by omega)
          · have pm59 : Me yc (Int.toNat v35_6) := Me_bit.mp (by omega)
            have hmv := hcq.1 _ pm59
            have hlt := ne_lt hz49 (by omega) (by omega) hmv.1
            have hsu : suP z16 x1 := fun i g => ((hz49 i).mp g).1
            have hb49 := bc_le z16 16
            refine r_aload_n (pc := 62) dX7_canGo_62 (i := 0) rfl rfl ?_
            refine r_iload (pc := 63) dX7_canGo_63 rfl ?_
            refine t_callVI (pc := 65) (as := [.int (iv z16)]) (st := []) ht35 (rd_ov (by omega) (rd_ov (by omega) hO)) kX7_120 rfl dX7_canGo_65 (c_X7_isHopelessx (d := d - 1) (x1 := z16) (by omega) (rd_ov (by omega) (rd_ov (by omega) hO)) (rd_of (ov_s _ _ _)) (by assumption) ht35 (by omega)) rfl (by omega) (Nat.le_of_ble_eq_true rfl) rfl (fun hp18 yh ht19 hyh => ?_)
            obtain ⟨byh, hhq⟩ := hyh
            refine t_if_ne (pc := 68) (tgt := 97) dX7_canGo_68 (by decide) (by omega) (fun c68 => ?_) (fun c68 => ?_)
            · have hcg := cg_st (by assumption : cgI R P x2 x1 yc v35_6) (by omega) hz49 ((by assumption : hoK R P x2 Ho35) _ (by omega) (by omega) (hhq.mp (by omega)))
              have hsm := (by assumption : ∀ j, j < 16 * (Int.toNat x4 + 1) → Lv35 j = Lv j)
              have hkk := (by assumption : hoK R P x2 Ho35)
              refine r_iinc (pc := 97) (v := iv (v35_6 + 1)) (lv' := [(6, .int (iv (v35_6 + 1))), (7, .int (iv z16)), (0, .ref s), (1, .int (iv x1)), (2, .int (iv x2)), (3, .int (iv x3)), (4, .int (iv x4)), (5, .int (iv yc))]) dX7_canGo_97 rfl (iv_add _ _) (by decide) rfl ?_
              refine r_goto (pc := 100) (tgt := 35) dX7_canGo_100 (by decide) ?_
              refine Rn.pick (lv' := [(0, .ref s), (1, .int (iv x1)), (2, .int (iv x2)), (3, .int (iv x3)), (4, .int (iv x4)), (5, .int (iv yc)), (6, .int (iv (v35_6 + 1)))]) [2, 3, 4, 5, 6, 7, 0] rfl ?_
              exact ih35 (Int.toNat (16 - (v35_6 + 1))) (by omega) Lv35 Ho35 _ ht19 (v35_6 + 1) ⟨by omega, by omega, by (first | exact hR2 | assumption), by (first | exact hR3 | assumption), by (first | exact hkk | exact hok), by (first | exact hsm | exact fun _ _ => rfl), by (first | exact hcg | exact cgI_0)⟩ (by omega)
            · refine r_aload_n (pc := 71) dX7_canGo_71 (i := 0) rfl rfl ?_
              refine r_iload (pc := 72) dX7_canGo_72 rfl ?_
              refine r_iload_n (pc := 74) dX7_canGo_74 (i := 1) rfl rfl ?_
              refine r_iload (pc := 75) dX7_canGo_75 rfl ?_
              obtain ⟨fs9, hfs9⟩ := t_obj ht19 (rd_ov (by omega) (rd_ov (by omega) hO))
              have ht25 := ht19
              rw [ov_c Γ _ _ (show s + 3 ≠ s + 5 by omega)] at ht25
              refine r_callV (pc := 77) (as := [.int (iv v35_6), .int (iv x1), .int (iv x4)]) (st := []) kX7_124 rfl dX7_canGo_77 hfs9 (c_X7_takeOutx (d := d - 1) (x1 := v35_6) (x2 := x1) (x3 := x4) (by omega) (rd_ov (by omega) hO) (by assumption) ht25 (by omega) (by omega) (by omega)) rfl (by omega) (Nat.le_of_ble_eq_true rfl) (Nat.zero_le _) (Nat.zero_le _) rfl (fun r20 hp21 n22 q23 => ?_)
              obtain ⟨hnn22, hrr20, L1, ht24, hR1, htk⟩ := q23
              subst n22 r20
              change Rn _ _ _ 80 _ [] _ _ _ _ _
              rw [ov_c Γ _ _ (show s + 5 ≠ s + 3 by omega)] at ht24
              have hr1 := tk9_e hR hLP hmv.1 hz49 (by omega) (by omega) (rw_lv hr (by omega) (by assumption : ∀ j, j < 16 * (Int.toNat x4 + 1) → Lv35 j = Lv j)) (by omega) htk
              refine r_aload_n (pc := 80) dX7_canGo_80 (i := 0) rfl rfl ?_
              refine r_iload (pc := 81) dX7_canGo_81 rfl ?_
              refine r_iload_n (pc := 83) dX7_canGo_83 (i := 2) rfl rfl ?_
              refine r_iload_n (pc := 84) dX7_canGo_84 (i := 3) rfl rfl ?_
              refine r_iload (pc := 85) dX7_canGo_85 rfl ?_
              refine r_iconst (pc := 87) (v := iv 1) dX7_canGo_87 (by decide) ?_
              refine r_iadd (pc := 88) (v := iv (x4 + 1)) dX7_canGo_88 (iv_add _ _) ?_
              obtain ⟨fs8, hfs8⟩ := t_obj ht24 (rd_ov (by omega) (rd_ov (by omega) hO))
              refine r_callV (pc := 89) (as := [.int (iv z16), .int (iv x2), .int (iv x3), .int (iv (x4 + 1))]) (st := []) kX7_99 rfl dX7_canGo_89 hfs8 (ih _ _ z16 L1 Ho35 ht24 hR1 (by assumption) (by omega) hsu hlt hr1 (by assumption : hoK R P x2 Ho35)) rfl (by omega) (Nat.le_of_ble_eq_true rfl) (Nat.zero_le _) (Nat.zero_le _) rfl (fun r26 hp27 n28 q29 => ?_)
              obtain ⟨hnn28, vr, L2, H2, hrr26, ht30, hR2, hR3, hkk, hsm2, bvr, hvq⟩ := q29
              subst n28 r26
              have hsm : ∀ j, j < 16 * (Int.toNat x4 + 1) → L2 j = Lv j := fun j hj => by rw [hsm2 j (by omega), htk.1 j hj, (by assumption : ∀ j, j < 16 * (Int.toNat x4 + 1) → Lv35 j = Lv j) j hj]
              change Rn _ _ _ 92 _ [.int (iv vr)] _ _ _ _ _
              refine t_if_eq (pc := 92) (tgt := 97) dX7_canGo_92 (by decide) (by omega) (fun c92 => ?_) (fun c92 => ?_)
              · have hcg := cg_st (by assumption : cgI R P x2 x1 yc v35_6) (by omega) hz49 (fun g9 => absurd (hvq.mpr g9) (by omega))
                refine r_iinc (pc := 97) (v := iv (v35_6 + 1)) (lv' := [(6, .int (iv (v35_6 + 1))), (7, .int (iv z16)), (0, .ref s), (1, .int (iv x1)), (2, .int (iv x2)), (3, .int (iv x3)), (4, .int (iv x4)), (5, .int (iv yc))]) dX7_canGo_97 rfl (iv_add _ _) (by decide) rfl ?_
                refine r_goto (pc := 100) (tgt := 35) dX7_canGo_100 (by decide) ?_
                refine Rn.pick (lv' := [(0, .ref s), (1, .int (iv x1)), (2, .int (iv x2)), (3, .int (iv x3)), (4, .int (iv x4)), (5, .int (iv yc)), (6, .int (iv (v35_6 + 1)))]) [2, 3, 4, 5, 6, 7, 0] rfl ?_
                exact ih35 (Int.toNat (16 - (v35_6 + 1))) (by omega) L2 H2 _ ht30 (v35_6 + 1) ⟨by omega, by omega, by (first | exact hR2 | assumption), by (first | exact hR3 | assumption), by (first | exact hkk | exact hok), by (first | exact hsm | exact fun _ _ => rfl), by (first | exact hcg | exact cgI_0)⟩ (by omega)
              · have hgw := gw_fst hR hLP hmv.1 hz49 hr hmv.2 (hvq.mp (by omega))
                refine r_iconst (pc := 95) (v := iv 1) dX7_canGo_95 (by decide) ?_
                exact r_zret (pc := 96) dX7_canGo_96 rfl (iv_nar (by omega)) ⟨rfl, _, L2, H2, rfl, ht30, hR2, hR3, hkk, hsm, by omega, ⟨fun _ => hgw, fun _ => rfl⟩⟩
      refine Rn.pick (lv' := [(0, .ref s), (1, .int (iv x1)), (2, .int (iv x2)), (3, .int (iv x3)), (4, .int (iv x4)), (5, .int (iv yc)), (6, .int (iv 0))]) [2, 3, 4, 5, 6, 1, 0] rfl ?_
      exact B35 (Int.toNat (16 - 0)) Lv Ho _ ht5 0 ⟨by omega, by omega, by (first | exact hR2 | assumption), by (first | exact hR3 | assumption), by (first | exact hkk | exact hok), by (first | exact hsm | exact fun _ _ => rfl), by (first | exact hcg | exact cgI_0)⟩ (by omega)
    · exfalso
      omega
  · refine r_iconst (pc := 10) (v := iv 1) dX7_canGo_10 (by decide) ?_
    exact r_zret (pc := 11) dX7_canGo_11 rfl (iv_nar (by omega)) ⟨rfl, _, Lv, Ho, rfl, ht3, hRl, hRh, hok, fun _ _ => rfl, by omega, ⟨fun _ => gw_sz (by omega) (by omega) (by omega), fun _ => rfl⟩⟩
theorem c_X7_canGox {D : va_G} {cI cJ cZ cT : ClassId} {lo b L : Nat} {xs : Nat → Int32} {Γ : TG} {s : Nat} {x2 x3 : Int} {R : Nat → Nat → Prop} {P : Nat → Prop} (hO : rd Γ s (tO 7 [fE (.ref (s + 1)), fE (.ref (s + 2)), fE (.ref (s + 3)), fE (.ref (s + 4)), fE (.ref (s + 5))])) (hx2 : 0 ≤ x2 ∧ x2 ≤ 15) (hx3 : 0 ≤ x3 ∧ x3 ≤ 65535) (hR : ∀ i j, R i j → R j i) (hcl : ∀ i j, Me x3 i → Me x3 j → i ≠ j → R i j) (k : Nat) : ∀ (hp : MH) (n d : Nat) (x1 x4 : Int) (Lv Ho : Nat → Int), bcI x1 16 ≤ (k : Int) → k + 3 ≤ d → (0 ≤ x1 ∧ x1 ≤ 65535) → 0 ≤ x4 → bcI x1 16 + x4 ≤ 16 → (∀ j, Me x1 j → P j) → Rfx 272 0 65535 Lv → Rfx 2048 (-2147483648) 2147483647 Ho → rwE (hG R P (Me x1)) x1 (lvW Lv x4) → hoK R P x2 Ho → Tw (ov (ov Γ (s + 3) (xI cI 272 Lv)) (s + 5) (xI cI 2048 Ho)) hp → Mt (gG D cI cJ cZ cT lo b L xs) mX7_canGo d 0 0 [.ref s, .int (iv x1), .int (iv x2), .int (iv x3), .int (iv x4)] hp n (cgQ Γ cI s n R P x2 x1 x4 Lv) := by
  induction k with
  | zero =>
    intro hp n d x1 x4 Lv Ho h1 h2 h3 h4 h5 h6 h7 h8 h9 h10 ht
    have hb := bc_le x1 16
    exact c_X7_canGo_st (by omega) hO h7 h8 ht h3 hx2 hx3 (by omega) h5 hR h6 hcl h9 h10 (fun hp n z L1 H1 g1 g2 g3 g4 g5 g6 g7 g8 => absurd (bc_le z 16) (by omega))
  | succ k ih =>
    intro hp n d x1 x4 Lv Ho h1 h2 h3 h4 h5 h6 h7 h8 h9 h10 ht
    have hb := bc_le x1 16
    exact c_X7_canGo_st (by omega) hO h7 h8 ht h3 hx2 hx3 (by omega) h5 hR h6 hcl h9 h10 (fun hp n z L1 H1 g1 g2 g3 g4 g5 g6 g7 g8 => ih hp n (d - 1) z (x4 + 1) L1 H1 (by omega) (by omega) g4 (by omega) (by omega) (fun j g => h6 j (g5 j g)) g2 g3 g7 g8 g1)
