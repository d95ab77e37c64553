/-- the row of a level -/
def lvW (Lv : Nat → Int) (d : Int) (u : Nat) : Int := Lv (16 * d.toNat + u)
theorem lv_e {Lv : Nat → Int} {d i x : Int} (h : x = d * 16 + i) (h0 : 0 ≤ d) (h1 : 0 ≤ i) : Lv x.toNat = lvW Lv d i.toNat := by
  unfold lvW; rw [show x.toNat = 16 * d.toNat + i.toNat by omega]
/-- in meltInto -/
def mtI (M : Nat → Int) (A : Int) (v u : Nat) (w : Int) (M1 : Nat → Int) : Prop := (∀ i, Me (M1 u) i ↔ (Me (M u) i ∨ Me A i) ∧ i ≠ v) ∧ (∀ j : Nat, (j : Int) < w → Me A j → ∀ i, Me (M1 j) i ↔ (Me (M j) i ∨ i = u) ∧ i ≠ v) ∧ ∀ j : Nat, j ≠ u → (w ≤ (j : Int) ∨ ¬ Me A j) → M1 j = M j
theorem mt9_0 {M : Nat → Int} {A z : Int} {v u : Nat} (hz : ∀ i, Me z i ↔ (Me (M u) i ∨ Me A i) ∧ i ≠ v) : mtI M A v u 0 (fup M u z) := by
  refine ⟨fun i => ?_, fun j hj => by omega, fun j hj _ => if_neg hj⟩
  rw [show fup M u z u = z from if_pos rfl]; exact hz i
theorem mt9_sk {M M1 : Nat → Int} {A w : Int} {v u : Nat} (h : mtI M A v u w M1) (h0 : 0 ≤ w) (hn : ¬ Me A w.toNat) : mtI M A v u (w + 1) M1 := by
  refine ⟨h.1, fun j hj hm => ?_, fun j hj hm => h.2.2 j hj ?_⟩
  · by_cases e : (j : Int) < w
    · exact h.2.1 j e hm
    · exact absurd ((show j = w.toNat by omega) ▸ hm) hn
  · rcases hm with q | q
    · exact Or.inl (by omega)
    · exact Or.inr q
theorem mt9_st {M M1 : Nat → Int} {A w z : Int} {v u : Nat} (h : mtI M A v u w M1) (hu : ¬ Me A u) (h0 : 0 ≤ w) (hm : Me A w.toNat) (hz : ∀ i, Me z i ↔ (Me (M1 w.toNat) i ∨ i = u) ∧ i ≠ v) : mtI M A v u (w + 1) (fup M1 w.toNat z) := by
  have hwu : w.toNat ≠ u := fun e => hu (e ▸ hm)
  refine ⟨fun i => ?_, fun j hj hm2 i => ?_, fun j hj hm2 => ?_⟩
  · rw [show fup M1 w.toNat z u = M1 u from if_neg (fun e => hwu e.symm)]; exact h.1 i
  · by_cases e : j = w.toNat
    · rw [e, show fup M1 w.toNat z w.toNat = z from if_pos rfl, hz i, h.2.2 w.toNat hwu (Or.inl (by omega))]
    · rw [show fup M1 w.toNat z j = M1 j from if_neg e]; exact h.2.1 j (by omega) hm2 i
  · have e : j ≠ w.toNat := fun e => by
      rcases hm2 with q | q
      · omega
      · exact q (e ▸ hm)
    rw [show fup M1 w.toNat z j = M1 j from if_neg e]
    exact h.2.2 j hj (hm2.imp (fun q => by omega) id)
/-- what meltInto does -/
def mtQ (M : Nat → Int) (v u : Int) (M1 : Nat → Int) : Prop := (u < 0 ∧ M1 = M) ∨ (0 ≤ u ∧ (∀ i, Me (M1 u.toNat) i ↔ (Me (M u.toNat) i ∨ (Me (M v.toNat) i ∧ i ≠ u.toNat)) ∧ i ≠ v.toNat) ∧ (∀ w, Me (M v.toNat) w → w ≠ u.toNat → ∀ i, Me (M1 w) i ↔ (Me (M w) i ∨ i = u.toNat) ∧ i ≠ v.toNat) ∧ ∀ w, w ≠ u.toNat → ¬ Me (M v.toNat) w → M1 w = M w)
theorem mt9_e {M M1 : Nat → Int} {A v u w : Int} (hA : ∀ i, Me A i ↔ Me (M v.toNat) i ∧ i ≠ u.toNat) (hA0 : A ≤ 65535) (hu : 0 ≤ u) (hw : 16 ≤ w) (h : mtI M A v.toNat u.toNat w M1) : mtQ M v u M1 := by
  refine Or.inr ⟨hu, fun i => ?_, fun j hj hju i => ?_, fun j hj hn => ?_⟩
  · rw [h.1 i, hA i]
  · have g := (hA j).mpr ⟨hj, hju⟩
    exact h.2.1 j (by have := Me_lt g hA0; omega) g i
  · exact h.2.2 j hj (Or.inr (fun g => hn ((hA j).mp g).1))
/-- in takeOut -/
def tkI (Lv : Nat → Int) (A x2 x3 : Int) (v : Nat) (u : Int) (L1 : Nat → Int) : Prop := (∀ j, j < 16 * (x3.toNat + 1) → L1 j = Lv j) ∧ ∀ j : Nat, (j : Int) < u → Me x2 j → (0 ≤ L1 (16 * (x3.toNat + 1) + j) ∧ L1 (16 * (x3.toNat + 1) + j) ≤ 65535) ∧ (Me A j → ∀ i, Me (L1 (16 * (x3.toNat + 1) + j)) i ↔ ((Me (lvW Lv x3 j) i ∨ Me A i) ∧ i ≠ j) ∧ i ≠ v) ∧ (¬ Me A j → L1 (16 * (x3.toNat + 1) + j) = lvW Lv x3 j)
theorem tk9_0 {Lv : Nat → Int} {A x2 x3 : Int} {v : Nat} : tkI Lv A x2 x3 v 0 Lv := ⟨fun _ _ => rfl, fun j hj => by omega⟩
theorem tk9_sk {Lv L1 : Nat → Int} {A x2 x3 u : Int} {v : Nat} (h : tkI Lv A x2 x3 v u L1) (h0 : 0 ≤ u) (hn : ¬ Me x2 u.toNat) : tkI Lv A x2 x3 v (u + 1) L1 := ⟨h.1, fun j hj hm => by
  by_cases e : (j : Int) < u
  · exact h.2 j e hm
  · exact absurd ((show j = u.toNat by omega) ▸ hm) hn⟩
theorem tk9_st {Lv L1 : Nat → Int} {A x2 x3 u z : Int} {v t : Nat} (h : tkI Lv A x2 x3 v u L1) (h0 : 0 ≤ u) (ht : t = 16 * (x3.toNat + 1) + u.toNat) (hz : 0 ≤ z ∧ z ≤ 65535) (h1 : Me A u.toNat → ∀ i, Me z i ↔ ((Me (lvW Lv x3 u.toNat) i ∨ Me A i) ∧ i ≠ u.toNat) ∧ i ≠ v) (h2 : ¬ Me A u.toNat → z = lvW Lv x3 u.toNat) : tkI Lv A x2 x3 v (u + 1) (fup L1 t z) := by
  refine ⟨fun j hj => ?_, fun j hj hm => ?_⟩
  · rw [show fup L1 t z j = L1 j from if_neg (by omega)]; exact h.1 j hj
  · by_cases e : (j : Int) < u
    · rw [show fup L1 t z (16 * (x3.toNat + 1) + j) = L1 (16 * (x3.toNat + 1) + j) from if_neg (by omega)]; exact h.2 j e hm
    · have e2 : j = u.toNat := by omega
      rw [show fup L1 t z (16 * (x3.toNat + 1) + j) = z from if_pos (by omega), e2]
      exact ⟨hz, h1, h2⟩
/-- reading the old row while the new one is written -/
theorem tk9_r {Lv L1 : Nat → Int} {A x2 x3 u : Int} {v : Nat} (h : tkI Lv A x2 x3 v u L1) (h0 : 0 ≤ x3) {i x : Int} (hx : x = x3 * 16 + i) (hi : 0 ≤ i ∧ i ≤ 15) : L1 x.toNat = lvW Lv x3 i.toNat := by
  rw [h.1 x.toNat (by omega)]; exact lv_e hx h0 hi.1
theorem ch_ml {k b z4 z5 z6 : Int} (hk : 0 ≤ k ∧ k ≤ 15) (hb : 0 ≤ b ∧ b ≤ 16) (h4 : iv (2 * k) * iv b = iv z4) (r4 : -2147483648 ≤ z4 ∧ z4 ≤ 2147483647) (h5 : iv k * iv (k + 1) = iv z5) (r5 : -2147483648 ≤ z5 ∧ z5 ≤ 2147483647) (h6 : iv z4 - iv z5 = iv z6) (r6 : -2147483648 ≤ z6 ∧ z6 ≤ 2147483647) : z6 = 2 * k * b - k * (k + 1) := by
  have g1 : 0 ≤ 2 * k * b := Int.mul_nonneg (by omega) hb.1
  have g2 : 2 * k * b ≤ 30 * 16 := Int.mul_le_mul (by omega) hb.2 hb.1 (by omega)
  have g3 : 0 ≤ k * (k + 1) := Int.mul_nonneg hk.1 (by omega)
  have g4 : k * (k + 1) ≤ 15 * 16 := Int.mul_le_mul hk.2 (by omega) (by omega) (by omega)
  rw [iv_mul] at h4 h5
  have e4 := iv_inj h4 (by omega) r4
  have e5 := iv_inj h5 (by omega) r5
  rw [← e4, ← e5, iv_sub] at h6
  exact (iv_inj h6 (by omega) r6).symm
set_option maxHeartbeats 4000000 in
set_option maxRecDepth 100000 in
theorem c_X7_meltIntox {D : va_G} {cI cJ cZ cT : ClassId} {lo b L : Nat} {xs : Nat → Int32} {hp : MH} {n d : Nat} {Γ : TG} {s : Nat} {Ml : Nat → Int} {x1 x2 : Int} (hd0 : 0 ≤ d) (hO : rd Γ s (tO 7 [fE (.ref (s + 1)), fE (.ref (s + 2)), fE (.ref (s + 3)), fE (.ref (s + 4)), fE (.ref (s + 5))])) (hR9 : Rfx 16 0 65535 Ml) (ht : Tw (ov Γ (s + 4) (xI cI 16 Ml)) hp) (hx1 : 0 ≤ x1 ∧ x1 ≤ 15) (hx2 : -1 ≤ x2 ∧ x2 ≤ 15) : Mt (gG D cI cJ cZ cT lo b L xs) mX7_meltInto d 0 0 [.ref s, .int (iv x1), .int (iv x2)] hp n (fun r9 hp1 n1 => n1 = n ∧ r9 = none ∧ ∃ M1 : Nat → Int, Tw (ov Γ (s + 4) (xI cI 16 M1)) hp1 ∧ Rfx 16 0 65535 M1 ∧ mtQ Ml x1 x2 M1) := by
  refine Mt.of rfl (Nat.le_of_ble_eq_true rfl) ?_
  refine Rn.pick (lv' := [(0, .ref s), (1, .int (iv x1)), (2, .int (iv x2))]) [0, 1, 2] rfl ?_
  refine r_iload_n (pc := 0) dX7_meltInto_0 (i := 2) rfl rfl ?_
  refine t_if_ge (pc := 1) (tgt := 5) dX7_meltInto_1 (by decide) (by omega) (fun c1 => ?_) (fun c1 => ?_)
  · refine r_aload_n (pc := 5) dX7_meltInto_5 (i := 0) rfl rfl ?_
    refine t_getE (pc := 6) (.ref (s + 4)) ht (rd_ov (by omega) hO) fX7_21 dX7_meltInto_6 rfl ?_
    refine r_iload_n (pc := 9) dX7_meltInto_9 (i := 1) rfl rfl ?_
    refine t_ialdX (pc := 10) (t0 := 0) ht (rd_of (ov_s _ _ _)) dX7_meltInto_10 rfl (by decide) (by omega) (fun b1 => ?_)
    have rb1 := (show Rfx 16 0 65535 Ml by assumption) (Int.toNat x1) (by omega)
    refine r_iconst (pc := 11) (v := iv 1) dX7_meltInto_11 (by decide) ?_
    refine r_iload_n (pc := 12) dX7_meltInto_12 (i := 2) rfl rfl ?_
    refine r_ishl (pc := 13) (v := iv ((2 ^ Int.toNat x2 : Nat) : Int)) dX7_meltInto_13 (shl_e (by omega)) ?_
    have mp13_2 : 1 ≤ 2 ^ Int.toNat x2 := Nat.one_le_two_pow
    have mq13_3 : 2 ^ Int.toNat x2 ≤ 2 ^ 15 := Nat.pow_le_pow_right (by omega) (by omega)
    have ms13 := Me_shl (Int.toNat x2)
    refine r_iconst (pc := 14) (v := iv (-1)) dX7_meltInto_14 (by decide) ?_
    refine r_ixor (pc := 15) (v := iv (-((2 ^ Int.toNat x2 : Nat) : Int) - 1)) dX7_meltInto_15 (iv_not _) ?_
    obtain ⟨z4, hz4, bz4⟩ := and_l (Ml (Int.toNat x1)) (-((2 ^ Int.toNat x2 : Nat) : Int) - 1) (by omega) (by omega)
    refine r_iand (pc := 16) (v := iv z4) dX7_meltInto_16 hz4 ?_
    have mez4 := Me_not (y := ((2 ^ Int.toNat x2 : Nat) : Int)) hz4 (by omega) (by omega) (by omega)
    have hzA : ∀ i, Me z4 i ↔ Me (Ml (Int.toNat x1)) i ∧ i ≠ Int.toNat x2 := fun i => by rw [mez4 i, ms13 i]
    refine r_istore_n (pc := 17) (lv' := [(3, .int (iv z4)), (0, .ref s), (1, .int (iv x1)), (2, .int (iv x2))]) dX7_meltInto_17 (i := 3) rfl (by decide) rfl ?_
    refine r_aload_n (pc := 18) dX7_meltInto_18 (i := 0) rfl rfl ?_
    refine t_getE (pc := 19) (.ref (s + 4)) ht (rd_ov (by omega) hO) fX7_21 dX7_meltInto_19 rfl ?_
    refine r_iload_n (pc := 22) dX7_meltInto_22 (i := 2) rfl rfl ?_
    refine r_aload_n (pc := 23) dX7_meltInto_23 (i := 0) rfl rfl ?_
    refine t_getE (pc := 24) (.ref (s + 4)) ht (rd_ov (by omega) hO) fX7_21 dX7_meltInto_24 rfl ?_
    refine r_iload_n (pc := 27) dX7_meltInto_27 (i := 2) rfl rfl ?_
    refine t_ialdX (pc := 28) (t0 := 0) ht (rd_of (ov_s _ _ _)) dX7_meltInto_28 rfl (by decide) (by omega) (fun b5 => ?_)
    have rb5 := (show Rfx 16 0 65535 Ml by assumption) (Int.toNat x2) (by omega)
    refine r_iload_n (pc := 29) dX7_meltInto_29 (i := 3) rfl rfl ?_
    obtain ⟨z6, hz6, bz6⟩ := or_2 16 (Ml (Int.toNat x2)) z4 (by omega) (by omega) (by decide)
    refine r_ior (pc := 30) (v := iv z6) dX7_meltInto_30 hz6 ?_
    have mez6 := Me_or hz6 (by omega) (by omega) (by omega)
    refine r_iconst (pc := 31) (v := iv 1) dX7_meltInto_31 (by decide) ?_
    refine r_iload_n (pc := 32) dX7_meltInto_32 (i := 1) rfl rfl ?_
    refine r_ishl (pc := 33) (v := iv ((2 ^ Int.toNat x1 : Nat) : Int)) dX7_meltInto_33 (shl_e (by omega)) ?_
    have mp33_7 : 1 ≤ 2 ^ Int.toNat x1 := Nat.one_le_two_pow
    have mq33_8 : 2 ^ Int.toNat x1 ≤ 2 ^ 15 := Nat.pow_le_pow_right (by omega) (by omega)
    have ms33 := Me_shl (Int.toNat x1)
    refine r_iconst (pc := 34) (v := iv (-1)) dX7_meltInto_34 (by decide) ?_
    refine r_ixor (pc := 35) (v := iv (-((2 ^ Int.toNat x1 : Nat) : Int) - 1)) dX7_meltInto_35 (iv_not _) ?_
    obtain ⟨z9, hz9, bz9⟩ := and_l z6 (-((2 ^ Int.toNat x1 : Nat) : Int) - 1) (by omega) (by omega)
    refine r_iand (pc := 36) (v := iv z9) dX7_meltInto_36 hz9 ?_
    have mez9 := Me_not (y := ((2 ^ Int.toNat x1 : Nat) : Int)) hz9 (by omega) (by omega) (by omega)
    have hz36 : ∀ i, Me z9 i ↔ (Me (Ml (Int.toNat x2)) i ∨ Me z4 i) ∧ i ≠ Int.toNat x1 := fun i => by rw [mez9 i, ms33 i, mez6 i]
    refine t_iastX (pc := 37) (t0 := 0) ht (ov_s _ _ _) dX7_meltInto_37 rfl (by decide) (by omega) (by omega) (fun hp10 ht11 => ?_)
    rw [ov_ov] at ht11
    have hmt := mt9_0 (M := Ml) hz36
    have hR1 : Rfx 16 0 65535 (fup Ml (Int.toNat x2) z9) := Rfx_up (by assumption) (by omega)
    refine r_iconst (pc := 38) (v := iv 0) dX7_meltInto_38 (by decide) ?_
    refine r_istore (pc := 39) (lv' := [(4, .int (iv 0)), (3, .int (iv z4)), (0, .ref s), (1, .int (iv x1)), (2, .int (iv x2))]) dX7_meltInto_39 (by decide) rfl ?_
    have B41 : ∀ k : Nat, ∀ Ml41 : Nat → Int, ∀ hp41 : MH, Tw (ov Γ (s + 4) (xI cI 16 Ml41)) hp41 → ∀  (v41_4 : Int), 0 ≤ v41_4 ∧ v41_4 ≤ 16 ∧ (Rfx 16 0 65535 Ml41) ∧ (mtI Ml z4 (Int.toNat x1) (Int.toNat x2) v41_4 Ml41) → 16 - v41_4 ≤ (k : Int) → Rn (gG D cI cJ cZ cT lo b L xs) mX7_meltInto d 41 [(0, .ref s), (1, .int (iv x1)), (2, .int (iv x2)), (3, .int (iv z4)), (4, .int (iv v41_4))] [] hp41 n 0 0 (fun r9 hp1 n1 => n1 = n ∧ r9 = none ∧ ∃ M1 : Nat → Int, Tw (ov Γ (s + 4) (xI cI 16 M1)) hp1 ∧ Rfx 16 0 65535 M1 ∧ mtQ Ml x1 x2 M1) := by
      refine lpS _ ?_
      intro k41 ih41 Ml41 hp41 ht41 v41_4 hf41 hm41
      obtain ⟨hf41_0, hf41_1, ha41_2, ha41_3⟩ := hf41
      refine r_iload (pc := 41) dX7_meltInto_41 rfl ?_
      refine r_bipush (pc := 43) (v := iv 16) dX7_meltInto_43 (by decide) ?_
      refine t_icmp_ge (pc := 45) (tgt := 87) dX7_meltInto_45 (by decide) (by omega) (by omega) (fun c45 => ?_) (fun c45 => ?_)
      · exact r_vret (pc := 87) dX7_meltInto_87 rfl ⟨rfl, rfl, Ml41, ht41, by assumption, mt9_e hzA (by omega) (by omega) (by omega) (by assumption : mtI Ml z4 (Int.toNat x1) (Int.toNat x2) v41_4 Ml41)⟩
      · refine r_iload_n (pc := 48) dX7_meltInto_48 (i := 3) rfl rfl ?_
        refine r_iload (pc := 49) dX7_meltInto_49 rfl ?_
        have hq51_12 := shr_le (Int.toNat z4) (Int.toNat v41_4)
        refine r_ishr (pc := 51) (v := iv ((Int.toNat z4 >>> Int.toNat v41_4 : Nat) : Int)) dX7_meltInto_51 (shr_e (by omega) (by omega)) ?_
        refine r_iconst (pc := 52) (v := iv 1) dX7_meltInto_52 (by decide) ?_
        refine r_iand (pc := 53) (v := iv (((Int.toNat z4 >>> Int.toNat v41_4 : Nat) : Int) % 2)) dX7_meltInto_53 (and1_e _ (by omega)) ?_
        have mb53 := @Me_bit z4 v41_4
        refine t_if_eq (pc := 54) (tgt := 81) dX7_meltInto_54 (by decide) (by omega) (fun c54 => ?_) (fun c54 => ?_)
        · have nm54 : ¬ Me z4 (Int.toNat v41_4) := fun h9 => absurd (Me_bit.mpr h9) (by omega)
          have hmt := mt9_sk (by assumption : mtI Ml z4 (Int.toNat x1) (Int.toNat x2) v41_4 Ml41) (by omega) nm54
          refine r_iinc (pc := 81) (v := iv (v41_4 + 1)) (lv' := [(4, .int (iv (v41_4 + 1))), (0, .ref s), (1, .int (iv x1)), (2, .int (iv x2)), (3, .int (iv z4))]) dX7_meltInto_81 rfl (iv_add _ _) (by decide) rfl ?_
          refine r_goto (pc := 84) (tgt := 41) dX7_meltInto_84 (by decide) ?_
          refine Rn.pick (lv' := [(0, .ref s), (1, .int (iv x1)), (2, .int (iv x2)), (3, .int (iv z4)), (4, .int (iv (v41_4 + 1)))]) [1, 2, 3, 4, 0] rfl ?_
          exact ih41 (Int.toNat (16 - (v41_4 + 1))) (by omega) Ml41 _ ht41 (v41_4 + 1) ⟨by omega, by omega, by (first | exact hR1 | assumption), by (first | exact hmt)⟩ (by omega)
        · have pm54 : Me z4 (Int.toNat v41_4) := Me_bit.mp (by omega)
          refine r_aload_n (pc := 57) dX7_meltInto_57 (i := 0) rfl rfl ?_
          refine t_getE (pc := 58) (.ref (s + 4)) ht41 (rd_ov (by omega) hO) fX7_21 dX7_meltInto_58 rfl ?_
          refine r_iload (pc := 61) dX7_meltInto_61 rfl ?_
          refine r_aload_n (pc := 63) dX7_meltInto_63 (i := 0) rfl rfl ?_
          refine t_getE (pc := 64) (.ref (s + 4)) ht41 (rd_ov (by omega) hO) fX7_21 dX7_meltInto_64 rfl ?_
          refine r_iload (pc := 67) dX7_meltInto_67 rfl ?_
          refine t_ialdX (pc := 69) (t0 := 0) ht41 (rd_of (ov_s _ _ _)) dX7_meltInto_69 rfl (by decide) (by omega) (fun b13 => ?_)
          have rb13 := (show Rfx 16 0 65535 Ml41 by assumption) (Int.toNat v41_4) (by omega)
          refine r_iconst (pc := 70) (v := iv 1) dX7_meltInto_70 (by decide) ?_
          refine r_iload_n (pc := 71) dX7_meltInto_71 (i := 2) rfl rfl ?_
          refine r_ishl (pc := 72) (v := iv ((2 ^ Int.toNat x2 : Nat) : Int)) dX7_meltInto_72 (shl_e (by omega)) ?_
          have mp72_14 : 1 ≤ 2 ^ Int.toNat x2 := Nat.one_le_two_pow
          have mq72_15 : 2 ^ Int.toNat x2 ≤ 2 ^ 15 := Nat.pow_le_pow_right (by omega) (by omega)
          have ms72 := Me_shl (Int.toNat x2)
          obtain ⟨z16, hz16, bz16⟩ := or_2 16 (Ml41 (Int.toNat v41_4)) ((2 ^ Int.toNat x2 : Nat) : Int) (by omega) (by omega) (by decide)
          refine r_ior (pc := 73) (v := iv z16) dX7_meltInto_73 hz16 ?_
          have mez16 := Me_or hz16 (by omega) (by omega) (by omega)
          refine r_iconst (pc := 74) (v := iv 1) dX7_meltInto_74 (by decide) ?_
          refine r_iload_n (pc := 75) dX7_meltInto_75 (i := 1) rfl rfl ?_
          refine r_ishl (pc := 76) (v := iv ((2 ^ Int.toNat x1 : Nat) : Int)) dX7_meltInto_76 (shl_e (by omega)) ?_
          have mp76_17 : 1 ≤ 2 ^ Int.toNat x1 := Nat.one_le_two_pow
          have mq76_18 : 2 ^ Int.toNat x1 ≤ 2 ^ 15 := Nat.pow_le_pow_right (by omega) (by omega)
          have ms76 := Me_shl (Int.toNat x1)
          refine r_iconst (pc := 77) (v := iv (-1)) dX7_meltInto_77 (by decide) ?_
          refine r_ixor (pc := 78) (v := iv (-((2 ^ Int.toNat x1 : Nat) : Int) - 1)) dX7_meltInto_78 (iv_not _) ?_
          obtain ⟨z19, hz19, bz19⟩ := and_l z16 (-((2 ^ Int.toNat x1 : Nat) : Int) - 1) (by omega) (by omega)
          refine r_iand (pc := 79) (v := iv z19) dX7_meltInto_79 hz19 ?_
          have mez19 := Me_not (y := ((2 ^ Int.toNat x1 : Nat) : Int)) hz19 (by omega) (by omega) (by omega)
          have hz79 : ∀ i, Me z19 i ↔ (Me (Ml41 (Int.toNat v41_4)) i ∨ i = Int.toNat x2) ∧ i ≠ Int.toNat x1 := fun i => by rw [mez19 i, ms76 i, mez16 i, ms72 i]
          refine t_iastX (pc := 80) (t0 := 0) ht41 (ov_s _ _ _) dX7_meltInto_80 rfl (by decide) (by omega) (by omega) (fun hp20 ht21 => ?_)
          rw [ov_ov] at ht21
          have hmt := mt9_st (by assumption : mtI Ml z4 (Int.toNat x1) (Int.toNat x2) v41_4 Ml41) (fun g => ((hzA _).mp g).2 rfl) (by omega) pm54 hz79
          have hR1 : Rfx 16 0 65535 (fup Ml41 (Int.toNat v41_4) z19) := Rfx_up (by assumption) (by omega)
          refine r_iinc (pc := 81) (v := iv (v41_4 + 1)) (lv' := [(4, .int (iv (v41_4 + 1))), (0, .ref s), (1, .int (iv x1)), (2, .int (iv x2)), (3, .int (iv z4))]) dX7_meltInto_81 rfl (iv_add _ _) (by decide) rfl ?_
          refine r_goto (pc := 84) (tgt := 41) dX7_meltInto_84 (by decide) ?_
          refine Rn.pick (lv' := [(0, .ref s), (1, .int (iv x1)), (2, .int (iv x2)), (3, .int (iv z4)), (4, .int (iv (v41_4 + 1)))]) [1, 2, 3, 4, 0] rfl ?_
          exact ih41 (Int.toNat (16 - (v41_4 + 1))) (by omega) (fup Ml41 (Int.toNat v41_4) z19) _ ht21 (v41_4 + 1) ⟨by omega, by omega, by (first | exact hR1 | assumption), by (first | exact hmt)⟩ (by omega)
    refine Rn.pick (lv' := [(0, .ref s), (1, .int (iv x1)), (2, .int (iv x2)), (3, .int (iv z4)), (4, .int (iv 0))]) [2, 3, 4, 1, 0] rfl ?_
    exact B41 (Int.toNat (16 - 0)) (fup Ml (Int.toNat x2) z9) _ ht11 0 ⟨by omega, by omega, by (first | exact hR1 | assumption), by (first | exact hmt)⟩ (by omega)
  · exact r_vret (pc := 4) dX7_meltInto_4 rfl ⟨rfl, rfl, Ml, ht, hR9, Or.inl ⟨by omega, rfl⟩⟩
