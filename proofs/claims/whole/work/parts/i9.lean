set_option maxHeartbeats 4000000 in
set_option maxRecDepth 100000 in
theorem c_X8_powerx {D : va_G} {cI cJ cZ cT : ClassId} {lo b L : Nat} {xs : Nat → Int32} {hp : MH} {n d : Nat} {Γ : TG} {B E : Nat} {j0 j2 : Int64} (hd0 : 0 ≤ d) (ht : Tw Γ hp) (hE : ∀ i, i < 31 → (MeL j2 i ↔ E.testBit i = true)) (hE2 : E < 2 ^ 31) (hB : j0.toInt = (B : Int)) (hB2 : B < 1000000007) : Mt (gG D cI cJ cZ cT lo b L xs) mX8_power d 0 0 [.long j0, .long j2] hp n (pJ Γ n (fun q => q.toInt = pwI E 1000000007 (B : Int))) := by
  refine Mt.of rfl (Nat.le_of_ble_eq_true rfl) ?_
  refine Rn.pick (lv' := [(0, .long j0), (2, .long j2)]) [0, 1] rfl ?_
  refine r_lconst (pc := 0) (v := 1) dX8_power_0 (by decide) ?_
  have hk0 : (1 : Int64).toInt = 1 := by decide
  refine r_lstore (pc := 1) (lv' := [(4, .long (1 : Int64)), (0, .long j0), (2, .long j2)]) dX8_power_1 (by decide) rfl ?_
  refine r_lload_n (pc := 3) dX8_power_3 (i := 0) rfl rfl ?_
  refine r_lstore (pc := 4) (lv' := [(6, .long j0), (4, .long (1 : Int64)), (0, .long j0), (2, .long j2)]) dX8_power_4 (by decide) rfl ?_
  refine r_iconst (pc := 6) (v := iv 0) dX8_power_6 (by decide) ?_
  refine r_istore (pc := 7) (lv' := [(8, .int (iv 0)), (6, .long j0), (4, .long (1 : Int64)), (0, .long j0), (2, .long j2)]) dX8_power_7 (by decide) rfl ?_
  have hpj0 : pwJ B E (1 : Int64).toInt j0.toInt (Int.toNat 0) := pwj_0 hk0 hB hB2
  have B9 : ∀ k : Nat, ∀ hp9 : MH, Tw Γ hp9 → ∀  (v9_8 : Int) (w9_4 : Int64) (w9_6 : Int64), 0 ≤ v9_8 ∧ v9_8 ≤ 31 ∧ (pwJ B E w9_4.toInt w9_6.toInt (Int.toNat v9_8)) → 31 - v9_8 ≤ (k : Int) → Rn (gG D cI cJ cZ cT lo b L xs) mX8_power d 9 [(2, .long j2), (4, .long w9_4), (6, .long w9_6), (8, .int (iv v9_8))] [] hp9 n 0 0 (pJ Γ n (fun q => q.toInt = pwI E 1000000007 (B : Int))) := by
    refine lpS _ ?_
    intro k9 ih9 hp9 ht9 v9_8 w9_4 w9_6 hf9 hm9
    obtain ⟨hf9_0, hf9_1, ha9_2⟩ := hf9
    refine r_iload (pc := 9) dX8_power_9 rfl ?_
    refine r_bipush (pc := 11) (v := iv 31) dX8_power_11 (by decide) ?_
    refine t_icmp_ge (pc := 13) (tgt := 55) dX8_power_13 (by decide) (by omega) (by omega) (fun c13 => ?_) (fun c13 => ?_)
    · refine r_lload (pc := 55) dX8_power_55 rfl ?_
      exact r_lret (pc := 57) dX8_power_57 rfl ⟨rfl, ht9, _, rfl, by have h9 := (by assumption : pwJ B E w9_4.toInt w9_6.toInt (Int.toNat v9_8)); rw [show Int.toNat v9_8 = 31 by omega] at h9; exact pwj_e h9 hE2⟩
    · refine r_lload_n (pc := 16) dX8_power_16 (i := 2) rfl rfl ?_
      refine r_iload (pc := 17) dX8_power_17 rfl ?_
      refine r_lshr (pc := 19) dX8_power_19 ?_
      refine r_lconst (pc := 20) (v := 1) dX8_power_20 (by decide) ?_
      have hk20 : (1 : Int64).toInt = 1 := by decide
      refine r_land (pc := 21) (v := (j2 >>> ((iv v9_8).toInt64 &&& 63)) &&& (1 : Int64)) dX8_power_21 rfl ?_
      refine r_lconst (pc := 22) (v := 0) dX8_power_22 (by decide) ?_
      have hk22 : (0 : Int64).toInt = 0 := by decide
      refine r_lcmp (pc := 23) dX8_power_23 ?_
      refine t_lif_eq (pc := 24) (tgt := 38) dX8_power_24 (by decide) (fun c24 => ?_) (fun c24 => ?_)
      · have hpb := pwj_b (by assumption : pwJ B E w9_4.toInt w9_6.toInt (Int.toNat v9_8))
        have hmb := mel_bit j2 (k := (Int.toNat v9_8)) (by omega)
        rw [show (((Int.toNat v9_8) : Nat) : Int) = v9_8 by omega] at hmb
        have hbt : ¬ E.testBit (Int.toNat v9_8) = true := fun g => (hmb.mp c24) ((hE (Int.toNat v9_8) (by omega)).mpr g)
        refine r_lload (pc := 38) dX8_power_38 rfl ?_
        refine r_lload (pc := 40) dX8_power_40 rfl ?_
        refine r_lmul (pc := 42) (v := w9_6 * w9_6) dX8_power_42 rfl ?_
        refine r_ldc2 (pc := 43) (v := 1000000007) dX8_power_43 kX8_116 ?_
        have hk43 : (1000000007 : Int64).toInt = 1000000007 := by decide
        have hml43 := l_mul (x := w9_6) (y := w9_6) (mul_pp hpb.2 hpb.2)
        have hmn43 := Int.mul_nonneg (hpb.2).1 (hpb.2).1
        refine r_lrem (pc := 46) (v := (w9_6 * w9_6) - (w9_6 * w9_6) / (1000000007 : Int64) * (1000000007 : Int64)) dX8_power_46 (by decide) rfl ?_
        have hrm46 : ((w9_6 * w9_6) - (w9_6 * w9_6) / (1000000007 : Int64) * (1000000007 : Int64)).toInt = (w9_6.toInt * w9_6.toInt) % 1000000007 := by rw [l_rem (by rw [hml43]; exact hmn43) (by omega), hml43, hk43]
        have hrb46 : 0 ≤ ((w9_6 * w9_6) - (w9_6 * w9_6) / (1000000007 : Int64) * (1000000007 : Int64)).toInt ∧ ((w9_6 * w9_6) - (w9_6 * w9_6) / (1000000007 : Int64) * (1000000007 : Int64)).toInt < 1000000007 := by rw [hrm46]; exact ⟨Int.emod_nonneg _ (by decide), Int.emod_lt_of_pos _ (by decide)⟩
        generalize (w9_6 * w9_6) - (w9_6 * w9_6) / (1000000007 : Int64) * (1000000007 : Int64) = w46 at hrm46 hrb46 ⊢
        refine r_lstore (pc := 47) (lv' := [(6, .long w46), (2, .long j2), (4, .long w9_4), (8, .int (iv v9_8))]) dX8_power_47 (by decide) rfl ?_
        have hpj : pwJ B E w9_4.toInt w46.toInt (Int.toNat (v9_8 + 1)) := by
          rw [show Int.toNat (v9_8 + 1) = (Int.toNat v9_8) + 1 by omega]
          exact pwj_n (by assumption : pwJ B E w9_4.toInt w9_6.toInt (Int.toNat v9_8)) hbt hrm46
        refine r_iinc (pc := 49) (v := iv (v9_8 + 1)) (lv' := [(8, .int (iv (v9_8 + 1))), (6, .long w46), (2, .long j2), (4, .long w9_4)]) dX8_power_49 rfl (iv_add _ _) (by decide) rfl ?_
        refine r_goto (pc := 52) (tgt := 9) dX8_power_52 (by decide) ?_
        refine Rn.pick (lv' := [(2, .long j2), (4, .long w9_4), (6, .long w46), (8, .int (iv (v9_8 + 1)))]) [2, 3, 1, 0] rfl ?_
        exact ih9 (Int.toNat (31 - (v9_8 + 1))) (by omega) _ ht9 (v9_8 + 1) w9_4 w46 ⟨by omega, by omega, by (first | exact hpj | exact hpj0)⟩ (by omega)
      · have hpb := pwj_b (by assumption : pwJ B E w9_4.toInt w9_6.toInt (Int.toNat v9_8))
        have hmb := mel_bit j2 (k := (Int.toNat v9_8)) (by omega)
        rw [show (((Int.toNat v9_8) : Nat) : Int) = v9_8 by omega] at hmb
        have hbt : E.testBit (Int.toNat v9_8) = true := (hE (Int.toNat v9_8) (by omega)).mp (Classical.byContradiction (fun g => c24 (hmb.mpr g)))
        refine r_lload (pc := 27) dX8_power_27 rfl ?_
        refine r_lload (pc := 29) dX8_power_29 rfl ?_
        refine r_lmul (pc := 31) (v := w9_4 * w9_6) dX8_power_31 rfl ?_
        refine r_ldc2 (pc := 32) (v := 1000000007) dX8_power_32 kX8_116 ?_
        have hk32 : (1000000007 : Int64).toInt = 1000000007 := by decide
        have hml32 := l_mul (x := w9_4) (y := w9_6) (mul_pp hpb.1 hpb.2)
        have hmn32 := Int.mul_nonneg (hpb.1).1 (hpb.2).1
        refine r_lrem (pc := 35) (v := (w9_4 * w9_6) - (w9_4 * w9_6) / (1000000007 : Int64) * (1000000007 : Int64)) dX8_power_35 (by decide) rfl ?_
        have hrm35 : ((w9_4 * w9_6) - (w9_4 * w9_6) / (1000000007 : Int64) * (1000000007 : Int64)).toInt = (w9_4.toInt * w9_6.toInt) % 1000000007 := by rw [l_rem (by rw [hml32]; exact hmn32) (by omega), hml32, hk32]
        have hrb35 : 0 ≤ ((w9_4 * w9_6) - (w9_4 * w9_6) / (1000000007 : Int64) * (1000000007 : Int64)).toInt ∧ ((w9_4 * w9_6) - (w9_4 * w9_6) / (1000000007 : Int64) * (1000000007 : Int64)).toInt < 1000000007 := by rw [hrm35]; exact ⟨Int.emod_nonneg _ (by decide), Int.emod_lt_of_pos _ (by decide)⟩
        generalize (w9_4 * w9_6) - (w9_4 * w9_6) / (1000000007 : Int64) * (1000000007 : Int64) = w35 at hrm35 hrb35 ⊢
        refine r_lstore (pc := 36) (lv' := [(4, .long w35), (2, .long j2), (6, .long w9_6), (8, .int (iv v9_8))]) dX8_power_36 (by decide) rfl ?_
        refine r_lload (pc := 38) dX8_power_38 rfl ?_
        refine r_lload (pc := 40) dX8_power_40 rfl ?_
        refine r_lmul (pc := 42) (v := w9_6 * w9_6) dX8_power_42 rfl ?_
        refine r_ldc2 (pc := 43) (v := 1000000007) dX8_power_43 kX8_116 ?_
        have hk43 : (1000000007 : Int64).toInt = 1000000007 := by decide
        have hml43 := l_mul (x := w9_6) (y := w9_6) (mul_pp hpb.2 hpb.2)
        have hmn43 := Int.mul_nonneg (hpb.2).1 (hpb.2).1
        refine r_lrem (pc := 46) (v := (w9_6 * w9_6) - (w9_6 * w9_6) / (1000000007 : Int64) * (1000000007 : Int64)) dX8_power_46 (by decide) rfl ?_
        have hrm46 : ((w9_6 * w9_6) - (w9_6 * w9_6) / (1000000007 : Int64) * (1000000007 : Int64)).toInt = (w9_6.toInt * w9_6.toInt) % 1000000007 := by rw [l_rem (by rw [hml43]; exact hmn43) (by omega), hml43, hk43]
        have hrb46 : 0 ≤ ((w9_6 * w9_6) - (w9_6 * w9_6) / (1000000007 : Int64) * (1000000007 : Int64)).toInt ∧ ((w9_6 * w9_6) - (w9_6 * w9_6) / (1000000007 : Int64) * (1000000007 : Int64)).toInt < 1000000007 := by rw [hrm46]; exact ⟨Int.emod_nonneg _ (by decide), Int.emod_lt_of_pos _ (by decide)⟩
        generalize (w9_6 * w9_6) - (w9_6 * w9_6) / (1000000007 : Int64) * (1000000007 : Int64) = w46 at hrm46 hrb46 ⊢
        refine r_lstore (pc := 47) (lv' := [(6, .long w46), (4, .long w35), (2, .long j2), (8, .int (iv v9_8))]) dX8_power_47 (by decide) rfl ?_
        have hpj : pwJ B E w35.toInt w46.toInt (Int.toNat (v9_8 + 1)) := by
          rw [show Int.toNat (v9_8 + 1) = (Int.toNat v9_8) + 1 by omega]
          exact pwj_y (by assumption : pwJ B E w9_4.toInt w9_6.toInt (Int.toNat v9_8)) hbt hrm35 hrm46
        refine r_iinc (pc := 49) (v := iv (v9_8 + 1)) (lv' := [(8, .int (iv (v9_8 + 1))), (6, .long w46), (4, .long w35), (2, .long j2)]) dX8_power_49 rfl (iv_add _ _) (by decide) rfl ?_
        refine r_goto (pc := 52) (tgt := 9) dX8_power_52 (by decide) ?_
        refine Rn.pick (lv' := [(2, .long j2), (4, .long w35), (6, .long w46), (8, .int (iv (v9_8 + 1)))]) [3, 2, 1, 0] rfl ?_
        exact ih9 (Int.toNat (31 - (v9_8 + 1))) (by omega) _ ht9 (v9_8 + 1) w35 w46 ⟨by omega, by omega, by (first | exact hpj | exact hpj0)⟩ (by omega)
  refine Rn.pick (lv' := [(2, .long j2), (4, .long (1 : Int64)), (6, .long j0), (8, .int (iv 0))]) [4, 2, 1, 0] rfl ?_
  exact B9 (Int.toNat (31 - 0)) _ ht 0 (1 : Int64) j0 ⟨by omega, by omega, by (first | exact hpj | exact hpj0)⟩ (by omega)
