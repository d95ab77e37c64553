set_option maxHeartbeats 4000000 in
set_option maxRecDepth 100000 in
theorem c_X4_meltRingx {D : va_G} {cI cJ cZ cT : ClassId} {lo b L : Nat} {xs : Nat → Int32} {hp : MH} {n d : Nat} {Γ : TG} {s : Nat} {W qd : Int} {mt pa ba Q : Nat → Int} {x1 x2 : Int} {R : Nat → Nat → Prop} {S : Nat → Prop} {root nn : Nat} {rk : Nat → Nat} {Lw : Nat → List Nat} (hd0 : 1 ≤ d) (hm0 : Rfx 16 (-1) 15 mt) (hp0 : Rfx 16 (-1) 15 pa) (hb0 : Rfx 16 0 15 ba) (hQ0 : Rfx 16 0 15 Q) (hW0 : 0 ≤ W ∧ W ≤ 16) (hqd0 : 0 ≤ qd ∧ qd ≤ 65535) (ht : Tw (PrS Γ cI s W qd mt pa ba Q) hp) (hsy : ∀ i j, R i j → R j i) (hI : bmI R S mt pa ba (fun x => Me qd x) root rk Lw) (hS : ∀ a, S a → a < nn) (hnn : nn ≤ 16) (hx1 : 0 ≤ x1 ∧ x1 ≤ 15) (hx2 : 0 ≤ x2 ∧ x2 ≤ 15) (hx1e : Me qd (Int.toNat x1)) (hx2e : Me qd (Int.toNat x2)) (hR : R (Int.toNat x1) (Int.toNat x2)) (hq : quI Q W qd) : Mt (gG D cI cJ cZ cT lo b L xs) mX4_meltRing d 0 0 [.ref s, .int (iv x1), .int (iv x2)] hp n (fun r9 hp1 n1 => n1 = n ∧ r9 = none ∧ ∃ (W1 qd1 : Int) (pa1 ba1 Q1 : Nat → Int), Tw (PrS Γ cI s W1 qd1 mt pa1 ba1 Q1) hp1 ∧ Rfx 16 (-1) 15 pa1 ∧ Rfx 16 0 15 ba1 ∧ Rfx 16 0 15 Q1 ∧ (0 ≤ W1 ∧ W1 ≤ 16) ∧ (0 ≤ qd1 ∧ qd1 ≤ 65535) ∧ quI Q1 W1 qd1 ∧ (∃ L9, bmI R S mt pa1 ba1 (fun x => Me qd1 x) root rk L9) ∧ moP Q Q1 W W1 qd qd1 ba ba1 pa pa1 ∧ ba1 (Int.toNat x1) = ba1 (Int.toNat x2)) := by
  refine Mt.of rfl (Nat.le_of_ble_eq_true rfl) ?_
  refine Rn.pick (lv' := [(0, .ref s), (1, .int (iv x1)), (2, .int (iv x2))]) [0, 1, 2] rfl ?_
  have t0 : Tw (ov (ov (ov (ov (ov Γ s (tO 4 (prG9 s W qd))) (s + 1) (xI cI 16 mt)) (s + 2) (xI cI 16 pa)) (s + 3) (xI cI 16 ba)) (s + 4) (xI cI 16 Q)) hp := ht
  refine r_aload_n (pc := 0) dX4_meltRing_0 (i := 0) rfl rfl ?_
  refine r_iload_n (pc := 1) dX4_meltRing_1 (i := 1) rfl rfl ?_
  refine r_iload_n (pc := 2) dX4_meltRing_2 (i := 2) rfl rfl ?_
  refine t_callVI (pc := 3) (as := [.int (iv x1), .int (iv x2)]) (st := []) t0 (rd_ov (by omega) (rd_ov (by omega) (rd_ov (by omega) (rd_ov (by omega) (rd_of (ov_s _ _ _)))))) kX4_64 rfl dX4_meltRing_3 (c_X4_commonBasex (d := d - 1) (x1 := x1) (x2 := x2) (by omega) hm0 hp0 hb0 hQ0 hW0 hqd0 t0 hI hS hnn (by omega) (by omega) hx1e hx2e) rfl (by omega) (Nat.le_of_ble_eq_true rfl) rfl (fun hp1 y3 ht2 by3 => ?_)
  obtain ⟨by31, htp⟩ := by3
  refine r_istore_n (pc := 6) (lv' := [(3, .int (iv y3)), (0, .ref s), (1, .int (iv x1)), (2, .int (iv x2))]) dX4_meltRing_6 (i := 3) rfl (by decide) rfl ?_
  refine r_iload_n (pc := 7) dX4_meltRing_7 (i := 3) rfl rfl ?_
  refine t_if_ge (pc := 8) (tgt := 12) dX4_meltRing_8 (by decide) (by omega) (fun c8 => ?_) (fun c8 => ?_)
  · refine r_aload_n (pc := 12) dX4_meltRing_12 (i := 0) rfl rfl ?_
    refine r_iload_n (pc := 13) dX4_meltRing_13 (i := 1) rfl rfl ?_
    refine r_iload_n (pc := 14) dX4_meltRing_14 (i := 3) rfl rfl ?_
    refine r_iload_n (pc := 15) dX4_meltRing_15 (i := 2) rfl rfl ?_
    obtain ⟨fs8, hfs8⟩ := t_obj ht2 (rd_ov (by omega) (rd_ov (by omega) (rd_ov (by omega) (rd_ov (by omega) (rd_of (ov_s _ _ _))))))
    refine r_callV (pc := 16) (as := [.int (iv x1), .int (iv y3), .int (iv x2)]) (st := []) kX4_68 rfl dX4_meltRing_16 hfs8 (c_X4_turnPathx (d := d - 1) (po := pa) (x1 := x1) (x2 := y3) (x3 := x2) (by omega) hm0 hp0 hb0 hQ0 hW0 hqd0 ht2 hI hS hnn (by omega) (by omega) (by omega) hx1e htp.1 (fun _ _ _ => rfl)) rfl (by omega) (Nat.le_of_ble_eq_true rfl) (Nat.zero_le _) (Nat.zero_le _) rfl (fun r3 hp4 n5 q6 => ?_)
    obtain ⟨hnn5, pc16, rg16, he16, ch16, p16, ht7, hpc16, hrr3, brg16, htu16, hws16⟩ := q6
    subst n5 r3
    change Rn _ _ _ 19 _ [.int (iv rg16)] _ _ _ _ _
    refine r_aload_n (pc := 19) dX4_meltRing_19 (i := 0) rfl rfl ?_
    refine r_iload_n (pc := 20) dX4_meltRing_20 (i := 2) rfl rfl ?_
    refine r_iload_n (pc := 21) dX4_meltRing_21 (i := 3) rfl rfl ?_
    refine r_iload_n (pc := 22) dX4_meltRing_22 (i := 1) rfl rfl ?_
    obtain ⟨fs14, hfs14⟩ := t_obj ht7 (rd_ov (by omega) (rd_ov (by omega) (rd_ov (by omega) (rd_ov (by omega) (rd_of (ov_s _ _ _))))))
    refine r_callV (pc := 23) (as := [.int (iv x2), .int (iv y3), .int (iv x1)]) (st := [.int (iv rg16)]) kX4_68 rfl dX4_meltRing_23 hfs14 (c_X4_turnPathx (d := d - 1) (po := pa) (x1 := x2) (x2 := y3) (x3 := x1) (by omega) hm0 hpc16 hb0 hQ0 hW0 hqd0 ht7 hI hS hnn (by omega) (by omega) (by omega) hx2e htp.2.1 (tu_pc hI htp hx2e htu16 hws16 hR (hsy _ _ hR))) rfl (by omega) (Nat.le_of_ble_eq_true rfl) (Nat.zero_le _) (Nat.zero_le _) rfl (fun r9 hp10 n11 q12 => ?_)
    obtain ⟨hnn11, pc23, rg23, he23, ch23, p23, ht13, hpc23, hrr9, brg23, htu23, hws23⟩ := q12
    subst n11 r9
    change Rn _ _ _ 26 _ [.int (iv rg23), .int (iv rg16)] _ _ _ _ _
    obtain ⟨z15, hz15, bz15⟩ := or_2 16 rg16 rg23 (by omega) (by omega) (by decide)
    refine r_ior (pc := 26) (v := iv z15) dX4_meltRing_26 hz15 ?_
    have mez15 := Me_or hz15 (by omega) (by omega) (by omega)
    have hz26 : ∀ c9, Me z15 c9 ↔ Me rg16 c9 ∨ Me rg23 c9 := mez15
    generalize z15 = z26 at *
    refine r_istore (pc := 27) (lv' := [(4, .int (iv z26)), (3, .int (iv y3)), (0, .ref s), (1, .int (iv x1)), (2, .int (iv x2))]) dX4_meltRing_27 (by decide) rfl ?_
    refine r_iconst (pc := 29) (v := iv 0) dX4_meltRing_29 (by decide) ?_
    refine r_istore (pc := 30) (lv' := [(5, .int (iv 0)), (4, .int (iv z26)), (3, .int (iv y3)), (0, .ref s), (1, .int (iv x1)), (2, .int (iv x2))]) dX4_meltRing_30 (by decide) rfl ?_
    have B32 : ∀ k : Nat, ∀ W32 : Int, ∀ qd32 : Int, ∀ ba32 : Nat → Int, ∀ Q32 : Nat → Int, ∀ hp32 : MH, Tw (ov (ov (ov (ov (ov Γ s (tO 4 (prG9 s W32 qd32))) (s + 1) (xI cI 16 mt)) (s + 2) (xI cI 16 pc23)) (s + 3) (xI cI 16 ba32)) (s + 4) (xI cI 16 Q32)) hp32 → ∀  (v32_5 : Int), 0 ≤ v32_5 ∧ v32_5 ≤ 16 ∧ (0 ≤ W32 ∧ W32 ≤ 16) ∧ (0 ≤ qd32 ∧ qd32 ≤ 65535) ∧ (Rfx 16 0 15 ba32) ∧ (Rfx 16 0 15 Q32) ∧ (mlI ba ba32 y3 z26 Q Q32 W W32 qd qd32 v32_5) → 16 - v32_5 ≤ (k : Int) → Rn (gG D cI cJ cZ cT lo b L xs) mX4_meltRing d 32 [(0, .ref s), (3, .int (iv y3)), (4, .int (iv z26)), (5, .int (iv v32_5))] [] hp32 n 0 0 (fun r9 hp1 n1 => n1 = n ∧ r9 = none ∧ ∃ (W1 qd1 : Int) (pa1 ba1 Q1 : Nat → Int), Tw (PrS Γ cI s W1 qd1 mt pa1 ba1 Q1) hp1 ∧ Rfx 16 (-1) 15 pa1 ∧ Rfx 16 0 15 ba1 ∧ Rfx 16 0 15 Q1 ∧ (0 ≤ W1 ∧ W1 ≤ 16) ∧ (0 ≤ qd1 ∧ qd1 ≤ 65535) ∧ quI Q1 W1 qd1 ∧ (∃ L9, bmI R S mt pa1 ba1 (fun x => Me qd1 x) root rk L9) ∧ moP Q Q1 W W1 qd qd1 ba ba1 pa pa1 ∧ ba1 (Int.toNat x1) = ba1 (Int.toNat x2)) := by
      refine lpS _ ?_
      intro k32 ih32 W32 qd32 ba32 Q32 hp32 ht32 v32_5 hf32 hm32
      obtain ⟨hf32_0, hf32_1, hf32_2, hf32_3, ha32_4, ha32_5, ha32_6⟩ := hf32
      refine r_iload (pc := 32) dX4_meltRing_32 rfl ?_
      refine r_bipush (pc := 34) (v := iv 16) dX4_meltRing_34 (by decide) ?_
      refine t_icmp_ge (pc := 36) (tgt := 74) dX4_meltRing_36 (by decide) (by omega) (by omega) (fun c36 => ?_) (fun c36 => ?_)
      · obtain ⟨hIe, hmo, hvw⟩ := ml_e hsy hI hS hnn (by omega) htp hR htu16 hws16 htu23 hws23 hz26 hb0 (by assumption : mlI ba ba32 y3 z26 Q Q32 W W32 qd qd32 v32_5) (by omega)
        exact r_vret (pc := 74) dX4_meltRing_74 rfl ⟨rfl, rfl, W32, qd32, pc23, ba32, Q32, ht32, hpc23, by assumption, by assumption, by omega, by omega, (by assumption : mlI ba ba32 y3 z26 Q Q32 W W32 qd qd32 v32_5).2.1, hIe, hmo, hvw⟩
      · refine r_iload (pc := 39) dX4_meltRing_39 rfl ?_
        refine r_aload_n (pc := 41) dX4_meltRing_41 (i := 0) rfl rfl ?_
        refine t_getE (pc := 42) (.ref (s + 3)) ht32 (rd_ov (by omega) (rd_ov (by omega) (rd_ov (by omega) (rd_ov (by omega) (rd_of (ov_s _ _ _)))))) fX4_18 dX4_meltRing_42 rfl ?_
        refine r_iload (pc := 45) dX4_meltRing_45 rfl ?_
        refine t_ialdX (pc := 47) (t0 := 0) ht32 (rd_ov (by omega) (rd_of (ov_s _ _ _))) dX4_meltRing_47 rfl (by decide) (by omega) (fun b16 => ?_)
        have rb16 := (show Rfx 16 0 15 ba32 by assumption) (Int.toNat v32_5) (by omega)
        have hml0 := (by assumption : mlI ba ba32 y3 z26 Q Q32 W W32 qd qd32 v32_5)
        have hrd := ml_rd hml0 (by omega)
        have hq48_17 := shr_le (Int.toNat z26) (Int.toNat (ba32 (Int.toNat v32_5)))
        refine r_ishr (pc := 48) (v := iv ((Int.toNat z26 >>> Int.toNat (ba32 (Int.toNat v32_5)) : Nat) : Int)) dX4_meltRing_48 (shr_e (by omega) (by omega)) ?_
        refine r_iconst (pc := 49) (v := iv 1) dX4_meltRing_49 (by decide) ?_
        refine r_iand (pc := 50) (v := iv (((Int.toNat z26 >>> Int.toNat (ba32 (Int.toNat v32_5)) : Nat) : Int) % 2)) dX4_meltRing_50 (and1_e _ (by omega)) ?_
        have mb50 := @Me_bit z26 (ba32 (Int.toNat v32_5))
        refine t_if_eq (pc := 51) (tgt := 68) dX4_meltRing_51 (by decide) (by omega) (fun c51 => ?_) (fun c51 => ?_)
        · have nm51 : ¬ Me z26 (Int.toNat (ba32 (Int.toNat v32_5))) := fun h9 => absurd (Me_bit.mpr h9) (by omega)
          have hml : mlI ba ba32 y3 z26 Q Q32 W W32 qd qd32 (v32_5 + 1) := ml_n hml0 (by omega) (by rw [← hrd]; exact nm51)
          refine r_iinc (pc := 68) (v := iv (v32_5 + 1)) (lv' := [(5, .int (iv (v32_5 + 1))), (0, .ref s), (3, .int (iv y3)), (4, .int (iv z26))]) dX4_meltRing_68 rfl (iv_add _ _) (by decide) rfl ?_
          refine r_goto (pc := 71) (tgt := 32) dX4_meltRing_71 (by decide) ?_
          refine Rn.pick (lv' := [(0, .ref s), (3, .int (iv y3)), (4, .int (iv z26)), (5, .int (iv (v32_5 + 1)))]) [1, 2, 3, 0] rfl ?_
          exact ih32 (Int.toNat (16 - (v32_5 + 1))) (by omega) W32 qd32 ba32 Q32 _ ht32 (v32_5 + 1) ⟨by omega, by omega, by omega, by omega, by (first | exact hb61 | assumption | exact hb0), by (first | exact hQ65 | assumption | exact hQ0), by (first | exact hml | exact ml_0 hq)⟩ (by omega)
        · have pm51 : Me z26 (Int.toNat (ba32 (Int.toNat v32_5))) := Me_bit.mp (by omega)
          refine r_aload_n (pc := 54) dX4_meltRing_54 (i := 0) rfl rfl ?_
          refine t_getE (pc := 55) (.ref (s + 3)) ht32 (rd_ov (by omega) (rd_ov (by omega) (rd_ov (by omega) (rd_ov (by omega) (rd_of (ov_s _ _ _)))))) fX4_18 dX4_meltRing_55 rfl ?_
          refine r_iload (pc := 58) dX4_meltRing_58 rfl ?_
          refine r_iload_n (pc := 60) dX4_meltRing_60 (i := 3) rfl rfl ?_
          refine t_iastX (pc := 61) (t0 := 0) ht32 (eq_ov (by omega) (ov_s _ _ _)) dX4_meltRing_61 rfl (by decide) (by omega) (by omega) (fun hp18 ht19 => ?_)
          rw [ov_in2 (by omega) ] at ht19
          have hb61 : Rfx 16 0 15 (fup ba32 (Int.toNat v32_5) y3) := Rfx_up (by assumption) (by omega)
          refine r_aload_n (pc := 62) dX4_meltRing_62 (i := 0) rfl rfl ?_
          refine r_iload (pc := 63) dX4_meltRing_63 rfl ?_
          obtain ⟨fs25, hfs25⟩ := t_obj ht19 (rd_ov (by omega) (rd_ov (by omega) (rd_ov (by omega) (rd_ov (by omega) (rd_of (ov_s _ _ _))))))
          refine r_callV (pc := 65) (as := [.int (iv v32_5)]) (st := []) kX4_57 rfl dX4_meltRing_65 hfs25 (c_X4_enqueuex (d := d - 1) (x1 := v32_5) (by omega) hm0 hpc23 hb61 (by assumption : Rfx 16 0 15 Q32) (by omega) (by omega) ht19 (by omega) hml0.2.1) rfl (by omega) (Nat.le_of_ble_eq_true rfl) (Nat.zero_le _) (Nat.zero_le _) rfl (fun r20 hp21 n22 q23 => ?_)
          obtain ⟨hnn22, hrr20, W65, qd65, Q65, ht24, hQ65, bqd65, hq65, hme65, hWl65, hQe65⟩ := q23
          subst n22 r20
          change Rn _ _ _ 68 _ [] _ _ _ _ _
          have hW65 := hq65.1
          have hml : mlI ba (fup ba32 (Int.toNat v32_5) y3) y3 z26 Q Q65 W W65 qd qd65 (v32_5 + 1) := ml_y hml0 (by omega) rfl (by rw [← hrd]; exact pm51) hq65 hme65 hWl65 hQe65
          refine r_iinc (pc := 68) (v := iv (v32_5 + 1)) (lv' := [(5, .int (iv (v32_5 + 1))), (0, .ref s), (3, .int (iv y3)), (4, .int (iv z26))]) dX4_meltRing_68 rfl (iv_add _ _) (by decide) rfl ?_
          refine r_goto (pc := 71) (tgt := 32) dX4_meltRing_71 (by decide) ?_
          refine Rn.pick (lv' := [(0, .ref s), (3, .int (iv y3)), (4, .int (iv z26)), (5, .int (iv (v32_5 + 1)))]) [1, 2, 3, 0] rfl ?_
          exact ih32 (Int.toNat (16 - (v32_5 + 1))) (by omega) W65 qd65 (fup ba32 (Int.toNat v32_5) y3) Q65 _ ht24 (v32_5 + 1) ⟨by omega, by omega, by omega, by omega, by (first | exact hb61 | assumption | exact hb0), by (first | exact hQ65 | assumption | exact hQ0), by (first | exact hml | exact ml_0 hq)⟩ (by omega)
    refine Rn.pick (lv' := [(0, .ref s), (3, .int (iv y3)), (4, .int (iv z26)), (5, .int (iv 0))]) [3, 2, 1, 0] rfl ?_
    exact B32 (Int.toNat (16 - 0)) W qd ba Q _ ht13 0 ⟨by omega, by omega, by omega, by omega, by (first | exact hb61 | assumption | exact hb0), by (first | exact hQ65 | assumption | exact hQ0), by (first | exact hml | exact ml_0 hq)⟩ (by omega)
  · exfalso
    omega
