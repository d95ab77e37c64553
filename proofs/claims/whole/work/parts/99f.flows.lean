theorem shl_e {v : Int} (h : 0 ≤ v ∧ v < 31) : iv 1 <<< (iv v &&& 31) = iv ((2 ^ v.toNat : Nat) : Int) := by
  obtain ⟨k, rfl⟩ := Int.eq_ofNat_of_zero_le h.1
  exact iv_shl (by omega)
theorem pow_b {v : Int} (k : Nat) (h : 0 ≤ v ∧ v ≤ (k : Int)) : 1 ≤ ((2 ^ v.toNat : Nat) : Int) ∧ ((2 ^ v.toNat : Nat) : Int) ≤ ((2 ^ k : Nat) : Int) := by
  have h1 : 1 ≤ 2 ^ v.toNat := Nat.one_le_two_pow
  have h2 : 2 ^ v.toNat ≤ 2 ^ k := Nat.pow_le_pow_right (by omega) (by omega)
  omega
def Bt (R i : Int) : Prop := R.toNat.testBit i.toNat = true
def Bk (R : Int) (B : Nat → Int) (x : Int) : Prop := ∀ i : Nat, R.toNat.testBit i = true → (i : Int) ≠ x → 0 ≤ B i ∧ B i ≤ 15 ∧ R.toNat.testBit (B i).toNat = true
def Qk (R : Int) (Q : Nat → Int) (w : Int) : Prop := ∀ j : Nat, (j : Int) < w → 0 ≤ Q j ∧ Q j ≤ 15 ∧ R.toNat.testBit (Q j).toNat = true
theorem or_pow {R z v : Int} (hz : iv R ||| iv ((2 ^ v.toNat : Nat) : Int) = iv z) (h0 : 0 ≤ R ∧ R ≤ 65535) (h1 : 0 ≤ v ∧ v ≤ 15) (h2 : 0 ≤ z ∧ z ≤ 65535) : z.toNat = R.toNat ||| 2 ^ v.toNat := by
  have h3 := pow_b 15 (v := v) (by omega)
  have h4 : ((2 ^ 15 : Nat) : Int) = 32768 := by decide
  have e := or_nat hz h0 (by omega) h2
  rw [e]
  rfl
theorem bt_or {R z i v : Int} (hz : z.toNat = R.toNat ||| 2 ^ v.toNat) (h : Bt R i) : Bt z i := by
  unfold Bt
  rw [hz, Nat.testBit_or, show R.toNat.testBit i.toNat = true from h]; rfl
theorem bt_new {R z v : Int} (hz : z.toNat = R.toNat ||| 2 ^ v.toNat) : Bt z v := by
  unfold Bt
  rw [hz, Nat.testBit_or, Nat.testBit_two_pow_self, Bool.or_true]
theorem bk_0 (x : Int) (B : Nat → Int) (h : 0 ≤ x) : Bk ((2 ^ x.toNat : Nat) : Int) B x := by
  intro i hi hx
  have h1 : (2 ^ x.toNat : Nat).testBit i = true := hi
  rw [Nat.testBit_two_pow] at h1
  have : x.toNat = i := by simpa using h1
  omega
theorem qk_0 (x : Int) (Q : Nat → Int) (h : 0 ≤ x ∧ x ≤ 15) : Qk ((2 ^ x.toNat : Nat) : Int) (fup Q (Int.toNat 0) x) 1 := by
  intro j hj
  have e : j = Int.toNat 0 := by show j = 0; omega
  rw [e, fup_s]
  refine ⟨h.1, h.2, ?_⟩
  show (2 ^ x.toNat : Nat).testBit x.toNat = true
  exact Nat.testBit_two_pow_self
theorem bt_0 (x : Int) : Bt ((2 ^ x.toNat : Nat) : Int) x := by
  show (2 ^ x.toNat : Nat).testBit x.toNat = true
  exact Nat.testBit_two_pow_self
theorem bk_step {R z : Int} {B : Nat → Int} {x v u : Int} (hz : z.toNat = R.toNat ||| 2 ^ v.toNat) (h : Bk R B x) (hu : 0 ≤ u ∧ u ≤ 15) (hb : Bt R u) : Bk z (fup B v.toNat u) x := by
  intro i hi hx
  by_cases e : i = v.toNat
  · subst e
    rw [fup_s]
    exact ⟨hu.1, hu.2, bt_or hz hb⟩
  · rw [fup_o _ _ e]
    rw [hz, Nat.testBit_or, Nat.testBit_two_pow] at hi
    have h1 : R.toNat.testBit i = true := by
      have h2 : (decide (v.toNat = i)) = false := decide_eq_false (fun q => e q.symm)
      rw [h2, Bool.or_false] at hi
      exact hi
    obtain ⟨q1, q2, q3⟩ := h i h1 hx
    exact ⟨q1, q2, bt_or (i := B i) hz q3⟩
theorem qk_step {R z : Int} {Q : Nat → Int} {w v : Int} (hz : z.toNat = R.toNat ||| 2 ^ v.toNat) (h : Qk R Q w) (hw : 0 ≤ w) (hv : 0 ≤ v ∧ v ≤ 15) : Qk z (fup Q w.toNat v) (w + 1) := by
  intro j hj
  by_cases e : j = w.toNat
  · subst e
    rw [fup_s]
    exact ⟨hv.1, hv.2, bt_new hz⟩
  · rw [fup_o _ _ e]
    obtain ⟨q1, q2, q3⟩ := h j (by omega)
    exact ⟨q1, q2, bt_or (i := Q j) hz q3⟩
theorem bt_shr {R y : Int} (h : ((R.toNat >>> y.toNat : Nat) : Int) % 2 ≠ 0) : Bt R y := by
  unfold Bt
  rw [Nat.testBit_eq_decide_div_mod_eq, ← Nat.shiftRight_eq_div_pow]
  exact decide_eq_true (by omega)
abbrev flF (s : Nat) (R : Int) : List (Value → Prop) := [fE (.ref (s + 1)), fE (.ref (s + 2)), fE (.ref (s + 3)), fE (.int (iv R)), fI 0 240, fE (.ref (s + 4)), fE (.ref (s + 5)), fE (.ref (s + 6)), fE (.ref (s + 7)), fE (.ref (s + 8))]
abbrev flN (Γ : TG) (cI : ClassId) (s : Nat) (R : Int) (B : Nat → Int) : TG := ov (ov Γ s (tO 2 (flF s R))) (s + 2) (xI cI 16 B)
/-- what finding a path leaves: who is reached, and from where -/
def pF (Γ : TG) (cI : ClassId) (s n : Nat) (x y : Int) : Option Value → MH → Nat → Prop := fun r hp1 n1 => n1 = n ∧ ∃ (R : Int) (B : Nat → Int), Tw (flN Γ cI s R B) hp1 ∧ Bk R B x ∧ (0 ≤ R ∧ R ≤ 65535) ∧ Rfx 16 0 239 B ∧ ∃ y1 : Int, r = some (.int (iv y1)) ∧ (0 ≤ y1 ∧ y1 ≤ 1) ∧ (y1 = 1 → Bt R y)
set_option maxHeartbeats 4000000 in
set_option maxRecDepth 100000 in
theorem t_X2_findPath {D : va_G} {cI cJ cZ cT : ClassId} {lo b L : Nat} {xs : Nat → Int32} {hp : MH} {n d : Nat} {Γ : TG} {fs : Nat} {x1 x2 x3 : Int} (hd0 : 0 ≤ d) (hf : TyFlows Γ cI cJ cZ fs) (ht : Tw Γ hp) (hx1 : 1 ≤ x1 ∧ x1 ≤ 16) (hx2 : 0 ≤ x2 ∧ x2 ≤ 15) (hx3 : 0 ≤ x3 ∧ x3 ≤ 15) : Mt (gG D cI cJ cZ cT lo b L xs) mX2_findPath d 0 0 [.ref fs, .int (iv x1), .int (iv x2), .int (iv x3)] hp n (pF Γ cI fs n x2 x3) := by
  obtain ⟨hf_O, hf_room, hf_before, hf_queue, hf_linkTail, hf_linkHead, hf_linkRoom, hf_linkCost, hf_distance⟩ := id hf
  refine Mt.of rfl (Nat.le_of_ble_eq_true rfl) ?_
  refine Rn.pick (lv' := [(0, .ref fs), (1, .int (iv x1)), (2, .int (iv x2)), (3, .int (iv x3))]) [0, 1, 2, 3] rfl ?_
  obtain ⟨R0, hR0a, hR0b, ht1⟩ := ht.openF 3 (rd_of hf_O) rfl
  have ht1 : Tw (ov Γ fs (tO 2 (flF fs R0))) hp := ht1
  obtain ⟨B0, hB0, ht2⟩ := ht1.openI (rd_of (eq_ov (by omega) hf_before))
  obtain ⟨Q0, hQ0, ht3⟩ := ht2.openI (rd_of (eq_ov (by omega) (eq_ov (by omega) hf_queue)))
  have hRB : Rfx 16 0 239 B0 := fun i hi => (hB0 i hi).1
  have hRQ : Rfx 16 0 15 Q0 := fun i hi => (hQ0 i hi).1
  refine r_aload_n (pc := 0) dX2_findPath_0 (i := 0) rfl rfl ?_
  refine r_iconst (pc := 1) (v := iv 1) dX2_findPath_1 (by decide) ?_
  refine r_iload_n (pc := 2) dX2_findPath_2 (i := 2) rfl rfl ?_
  have hp3 := pow_b 15 (v := x2) (by omega)
  have hq3 : ((2 ^ 15 : Nat) : Int) = 32768 := by decide
  refine r_ishl (pc := 3) (v := iv ((2 ^ Int.toNat x2 : Nat) : Int)) dX2_findPath_3 (shl_e (by omega)) ?_
  refine t_putX (pc := 4) (ty := .int) ht3 (eq_ov (by omega) (eq_ov (by omega) (ov_s _ _ _))) fX2_82 tyX2 tyX2_ok nmX2 (by decide +kernel) (Or.inl rfl) dX2_findPath_4 (Nat.le_of_ble_eq_true rfl) rfl rfl rfl (fun hp1 ht2 => ?_)
  rw [ov_in3 (by omega) (by omega) ] at ht2
  refine r_aload_n (pc := 7) dX2_findPath_7 (i := 0) rfl rfl ?_
  refine t_getE (pc := 8) (.ref (fs + 3)) ht2 (rd_ov (by omega) (rd_ov (by omega) (rd_of (ov_s _ _ _)))) fX2_18 dX2_findPath_8 rfl ?_
  refine r_iconst (pc := 11) (v := iv 0) dX2_findPath_11 (by decide) ?_
  refine r_iload_n (pc := 12) dX2_findPath_12 (i := 2) rfl rfl ?_
  refine t_iastX (pc := 13) (t0 := 0) ht2 (ov_s _ _ _) dX2_findPath_13 rfl (by decide) (by omega) (by omega) (fun hp3 ht4 => ?_)
  rw [ov_ov] at ht4
  have hQa : Rfx 16 0 15 (fup Q0 (Int.toNat 0) x2) := Rfx_up (by assumption) (by omega)
  have hBa : Bk ((2 ^ Int.toNat x2 : Nat) : Int) B0 x2 := bk_0 x2 _ (by omega)
  have hQb : Qk ((2 ^ Int.toNat x2 : Nat) : Int) (fup Q0 (Int.toNat 0) x2) 1 := qk_0 x2 _ (by omega)
  have hta : Bt ((2 ^ Int.toNat x2 : Nat) : Int) x2 := bt_0 x2
  refine r_iconst (pc := 14) (v := iv 1) dX2_findPath_14 (by decide) ?_
  refine r_istore (pc := 15) (lv' := [(4, .int (iv 1)), (0, .ref fs), (1, .int (iv x1)), (2, .int (iv x2)), (3, .int (iv x3))]) dX2_findPath_15 (by decide) rfl ?_
  refine r_iconst (pc := 17) (v := iv 0) dX2_findPath_17 (by decide) ?_
  refine r_istore (pc := 18) (lv' := [(5, .int (iv 0)), (4, .int (iv 1)), (0, .ref fs), (1, .int (iv x1)), (2, .int (iv x2)), (3, .int (iv x3))]) dX2_findPath_18 (by decide) rfl ?_
  have B20 : ∀ k : Nat, ∀ R20 : Int, ∀ B20 : Nat → Int, ∀ Q20 : Nat → Int, ∀ hp20 : MH, Tw (ov (ov (ov Γ fs (tO 2 (flF fs R20))) (fs + 2) (xI cI 16 B20)) (fs + 3) (xI cI 16 Q20)) hp20 → ∀  (v20_4 : Int) (v20_5 : Int), 1 ≤ v20_4 ∧ v20_4 ≤ 16 ∧ 0 ≤ v20_5 ∧ v20_5 ≤ 16 ∧ Bk R20 B20 x2 ∧ Qk R20 Q20 v20_4 ∧ Bt R20 x2 ∧ Rfx 16 0 239 B20 ∧ Rfx 16 0 15 Q20 ∧ 0 ≤ R20 ∧ R20 ≤ 65535 → 16 - v20_5 ≤ (k : Int) → Rn (gG D cI cJ cZ cT lo b L xs) mX2_findPath d 20 [(0, .ref fs), (1, .int (iv x1)), (3, .int (iv x3)), (4, .int (iv v20_4)), (5, .int (iv v20_5))] [] hp20 n 0 0 (pF Γ cI fs n x2 x3) := by
    refine lpS _ ?_
    intro k20 ih20 R20 B20 Q20 hp20 ht20 v20_4 v20_5 hf20 hm20
    obtain ⟨hf20_0, hf20_1, hf20_2, hf20_3, ha20_4, ha20_5, ha20_6, ha20_7, ha20_8, hf20_9, hf20_10⟩ := hf20
    refine r_iload (pc := 20) dX2_findPath_20 rfl ?_
    refine r_bipush (pc := 22) (v := iv 16) dX2_findPath_22 (by decide) ?_
    have B145 : ∀ hp145 : MH, Tw (ov (ov (ov Γ fs (tO 2 (flF fs R20))) (fs + 2) (xI cI 16 B20)) (fs + 3) (xI cI 16 Q20)) hp145 → True → Rn (gG D cI cJ cZ cT lo b L xs) mX2_findPath d 145 [(0, .ref fs), (3, .int (iv x3))] [] hp145 n 0 0 (pF Γ cI fs n x2 x3) := by
      intro hp145 ht145 hf145
      refine r_aload_n (pc := 145) dX2_findPath_145 (i := 0) rfl rfl ?_
      refine t_getE (pc := 146) (.int (iv R20)) ht145 (rd_ov (by omega) (rd_ov (by omega) (rd_of (ov_s _ _ _)))) fX2_82 dX2_findPath_146 rfl ?_
      refine r_iload_n (pc := 149) dX2_findPath_149 (i := 3) rfl rfl ?_
      have hq150 := shr_le (Int.toNat R20) (Int.toNat x3)
      refine r_ishr (pc := 150) (v := iv ((Int.toNat R20 >>> Int.toNat x3 : Nat) : Int)) dX2_findPath_150 (shr_e (by omega) (by omega)) ?_
      refine r_iconst (pc := 151) (v := iv 1) dX2_findPath_151 (by decide) ?_
      refine r_iand (pc := 152) (v := iv (((Int.toNat R20 >>> Int.toNat x3 : Nat) : Int) % 2)) dX2_findPath_152 (and1_e _ (by omega)) ?_
      have B161 : ∀ hp161 : MH, Tw (ov (ov (ov Γ fs (tO 2 (flF fs R20))) (fs + 2) (xI cI 16 B20)) (fs + 3) (xI cI 16 Q20)) hp161 → ∀  (u161_0 : Int), 0 ≤ u161_0 ∧ u161_0 ≤ 1 ∧ (u161_0 = 1 → Bt R20 x3) → Rn (gG D cI cJ cZ cT lo b L xs) mX2_findPath d 161 [] [.int (iv u161_0)] hp161 n 0 0 (pF Γ cI fs n x2 x3) := by
        intro hp161 ht161 u161_0 hf161
        obtain ⟨hf161_0, hf161_1, ha161_2⟩ := hf161
        exact r_zret (pc := 161) dX2_findPath_161 rfl (iv_nar (by omega)) ⟨rfl, R20, B20, Tw.closeI ht161 (eq_ov (by omega) (eq_ov (by omega) hf_queue)) (show Rfx 16 0 15 Q20 by assumption), by assumption, by omega, by assumption, _, rfl, by omega, by assumption⟩
      refine t_if_eq (pc := 153) (tgt := 160) dX2_findPath_153 (by decide) (by omega) (fun c153 => ?_) (fun c153 => ?_)
      · refine r_iconst (pc := 160) (v := iv 0) dX2_findPath_160 (by decide) ?_
        refine Rn.pick (lv' := []) [] rfl ?_
        exact B161 _ ht145 0 ⟨by omega, by omega, by (intro h9; first | (exfalso; omega) | exact bt_shr (by omega))⟩
      · refine r_iconst (pc := 156) (v := iv 1) dX2_findPath_156 (by decide) ?_
        refine r_goto (pc := 157) (tgt := 161) dX2_findPath_157 (by decide) ?_
        refine Rn.pick (lv' := []) [] rfl ?_
        exact B161 _ ht145 1 ⟨by omega, by omega, by (intro h9; first | (exfalso; omega) | exact bt_shr (by omega))⟩
    refine t_icmp_ge (pc := 24) (tgt := 145) dX2_findPath_24 (by decide) (by omega) (by omega) (fun c24 => ?_) (fun c24 => ?_)
    · refine Rn.pick (lv' := [(0, .ref fs), (3, .int (iv x3))]) [0, 2] rfl ?_
      exact B145 _ ht20 trivial
    · refine r_iload (pc := 27) dX2_findPath_27 rfl ?_
      refine r_iload (pc := 29) dX2_findPath_29 rfl ?_
      refine t_icmp_ge (pc := 31) (tgt := 145) dX2_findPath_31 (by decide) (by omega) (by omega) (fun c31 => ?_) (fun c31 => ?_)
      · refine Rn.pick (lv' := [(0, .ref fs), (3, .int (iv x3))]) [0, 2] rfl ?_
        exact B145 _ ht20 trivial
      · refine r_aload_n (pc := 34) dX2_findPath_34 (i := 0) rfl rfl ?_
        refine t_getE (pc := 35) (.ref (fs + 3)) ht20 (rd_ov (by omega) (rd_ov (by omega) (rd_of (ov_s _ _ _)))) fX2_18 dX2_findPath_35 rfl ?_
        refine r_iload (pc := 38) dX2_findPath_38 rfl ?_
        refine t_ialdX (pc := 40) (t0 := 0) ht20 (rd_of (ov_s _ _ _)) dX2_findPath_40 rfl (by decide) (by omega) (fun b5 => ?_)
        have rb5 := (show Rfx 16 0 15 Q20 by assumption) (Int.toNat v20_5) (by omega)
        refine r_istore (pc := 41) (lv' := [(6, .int (iv (Q20 (Int.toNat v20_5)))), (0, .ref fs), (1, .int (iv x1)), (3, .int (iv x3)), (4, .int (iv v20_4)), (5, .int (iv v20_5))]) dX2_findPath_41 (by decide) rfl ?_
        obtain ⟨hu1, hu2, hu3⟩ := (show Qk R20 Q20 v20_4 by assumption) (Int.toNat v20_5) (by omega)
        have hu4 : Bt R20 (Q20 (Int.toNat v20_5)) := hu3
        refine r_iconst (pc := 43) (v := iv 0) dX2_findPath_43 (by decide) ?_
        refine r_istore (pc := 44) (lv' := [(7, .int (iv 0)), (6, .int (iv (Q20 (Int.toNat v20_5)))), (0, .ref fs), (1, .int (iv x1)), (3, .int (iv x3)), (4, .int (iv v20_4)), (5, .int (iv v20_5))]) dX2_findPath_44 (by decide) rfl ?_
        have B46 : ∀ k : Nat, ∀ R46 : Int, ∀ B46 : Nat → Int, ∀ Q46 : Nat → Int, ∀ hp46 : MH, Tw (ov (ov (ov Γ fs (tO 2 (flF fs R46))) (fs + 2) (xI cI 16 B46)) (fs + 3) (xI cI 16 Q46)) hp46 → ∀  (v46_4 : Int) (v46_7 : Int), 1 ≤ v46_4 ∧ v46_4 ≤ 16 ∧ v20_4 ≤ v46_4 ∧ 0 ≤ v46_7 ∧ v46_7 ≤ 16 ∧ Bk R46 B46 x2 ∧ Qk R46 Q46 v46_4 ∧ Bt R46 x2 ∧ Rfx 16 0 239 B46 ∧ Rfx 16 0 15 Q46 ∧ 0 ≤ R46 ∧ R46 ≤ 65535 ∧ Bt R46 (Q20 (Int.toNat v20_5)) → 16 - v46_7 ≤ (k : Int) → Rn (gG D cI cJ cZ cT lo b L xs) mX2_findPath d 46 [(0, .ref fs), (1, .int (iv x1)), (3, .int (iv x3)), (4, .int (iv v46_4)), (5, .int (iv v20_5)), (6, .int (iv (Q20 (Int.toNat v20_5)))), (7, .int (iv v46_7))] [] hp46 n 0 0 (pF Γ cI fs n x2 x3) := by
          refine lpS _ ?_
          intro k46 ih46 R46 B46 Q46 hp46 ht46 v46_4 v46_7 hf46 hm46
          obtain ⟨hf46_0, hf46_1, hf46_2, hf46_3, hf46_4, ha46_5, ha46_6, ha46_7, ha46_8, ha46_9, hf46_10, hf46_11, ha46_12⟩ := hf46
          refine r_iload (pc := 46) dX2_findPath_46 rfl ?_
          refine r_iload_n (pc := 48) dX2_findPath_48 (i := 1) rfl rfl ?_
          refine t_icmp_ge (pc := 49) (tgt := 139) dX2_findPath_49 (by decide) (by omega) (by omega) (fun c49 => ?_) (fun c49 => ?_)
          · refine r_iinc (pc := 139) (v := iv (v20_5 + 1)) (lv' := [(5, .int (iv (v20_5 + 1))), (0, .ref fs), (1, .int (iv x1)), (3, .int (iv x3)), (4, .int (iv v46_4)), (6, .int (iv (Q20 (Int.toNat v20_5)))), (7, .int (iv v46_7))]) dX2_findPath_139 rfl (iv_add _ _) (by decide) rfl ?_
            refine r_goto (pc := 142) (tgt := 20) dX2_findPath_142 (by decide) ?_
            refine Rn.pick (lv' := [(0, .ref fs), (1, .int (iv x1)), (3, .int (iv x3)), (4, .int (iv v46_4)), (5, .int (iv (v20_5 + 1)))]) [1, 2, 3, 4, 0] rfl ?_
            exact ih20 (Int.toNat (16 - (v20_5 + 1))) (by omega) R46 B46 Q46 _ ht46 v46_4 (v20_5 + 1) ⟨by omega, by omega, by omega, by omega, by assumption, by assumption, by assumption, by assumption, by assumption, by omega, by omega⟩ (by omega)
          · refine r_aload_n (pc := 52) dX2_findPath_52 (i := 0) rfl rfl ?_
            refine t_getE (pc := 53) (.int (iv R46)) ht46 (rd_ov (by omega) (rd_ov (by omega) (rd_of (ov_s _ _ _)))) fX2_82 dX2_findPath_53 rfl ?_
            refine r_iload (pc := 56) dX2_findPath_56 rfl ?_
            obtain ⟨z6, hz6, bz6⟩ := shr_x R46 v46_7 (by omega) (by omega)
            refine r_ishr (pc := 58) (v := iv z6) dX2_findPath_58 hz6 ?_
            refine r_iconst (pc := 59) (v := iv 1) dX2_findPath_59 (by decide) ?_
            obtain ⟨z7, hz7, bz7⟩ := and_2 z6 1 (by omega) (by omega)
            refine r_iand (pc := 60) (v := iv z7) dX2_findPath_60 hz7 ?_
            have B85 : ∀ hp85 : MH, Tw (ov (ov (ov Γ fs (tO 2 (flF fs R46))) (fs + 2) (xI cI 16 B46)) (fs + 3) (xI cI 16 Q46)) hp85 → ∀  (u85_0 : Int), 0 ≤ u85_0 ∧ u85_0 ≤ 1 → Rn (gG D cI cJ cZ cT lo b L xs) mX2_findPath d 85 [(0, .ref fs), (1, .int (iv x1)), (3, .int (iv x3)), (4, .int (iv v46_4)), (5, .int (iv v20_5)), (6, .int (iv (Q20 (Int.toNat v20_5)))), (7, .int (iv v46_7))] [.int (iv u85_0)] hp85 n 0 0 (pF Γ cI fs n x2 x3) := by
              intro hp85 ht85 u85_0 hf85
              refine r_istore (pc := 85) (lv' := [(8, .int (iv u85_0)), (0, .ref fs), (1, .int (iv x1)), (3, .int (iv x3)), (4, .int (iv v46_4)), (5, .int (iv v20_5)), (6, .int (iv (Q20 (Int.toNat v20_5)))), (7, .int (iv v46_7))]) dX2_findPath_85 (by decide) rfl ?_
              refine r_iload (pc := 87) dX2_findPath_87 rfl ?_
              have B133 : ∀ R133 : Int, ∀ B133 : Nat → Int, ∀ Q133 : Nat → Int, ∀ hp133 : MH, Tw (ov (ov (ov Γ fs (tO 2 (flF fs R133))) (fs + 2) (xI cI 16 B133)) (fs + 3) (xI cI 16 Q133)) hp133 → ∀  (v133_4 : Int), 1 ≤ v133_4 ∧ v133_4 ≤ 16 ∧ v46_4 ≤ v133_4 ∧ Bk R133 B133 x2 ∧ Qk R133 Q133 v133_4 ∧ Bt R133 x2 ∧ Rfx 16 0 239 B133 ∧ Rfx 16 0 15 Q133 ∧ 0 ≤ R133 ∧ R133 ≤ 65535 ∧ Bt R133 (Q20 (Int.toNat v20_5)) → Rn (gG D cI cJ cZ cT lo b L xs) mX2_findPath d 133 [(0, .ref fs), (1, .int (iv x1)), (3, .int (iv x3)), (4, .int (iv v133_4)), (5, .int (iv v20_5)), (6, .int (iv (Q20 (Int.toNat v20_5)))), (7, .int (iv v46_7))] [] hp133 n 0 0 (pF Γ cI fs n x2 x3) := by
                intro R133 B133 Q133 hp133 ht133 v133_4 hf133
                obtain ⟨hf133_0, hf133_1, hf133_2, ha133_3, ha133_4, ha133_5, ha133_6, ha133_7, hf133_8, hf133_9, ha133_10⟩ := hf133
                refine r_iinc (pc := 133) (v := iv (v46_7 + 1)) (lv' := [(7, .int (iv (v46_7 + 1))), (0, .ref fs), (1, .int (iv x1)), (3, .int (iv x3)), (4, .int (iv v133_4)), (5, .int (iv v20_5)), (6, .int (iv (Q20 (Int.toNat v20_5))))]) dX2_findPath_133 rfl (iv_add _ _) (by decide) rfl ?_
                refine r_goto (pc := 136) (tgt := 46) dX2_findPath_136 (by decide) ?_
                refine Rn.pick (lv' := [(0, .ref fs), (1, .int (iv x1)), (3, .int (iv x3)), (4, .int (iv v133_4)), (5, .int (iv v20_5)), (6, .int (iv (Q20 (Int.toNat v20_5)))), (7, .int (iv (v46_7 + 1)))]) [1, 2, 3, 4, 5, 6, 0] rfl ?_
                exact ih46 (Int.toNat (16 - (v46_7 + 1))) (by omega) R133 B133 Q133 _ ht133 v133_4 (v46_7 + 1) ⟨by omega, by omega, by omega, by omega, by omega, by assumption, by assumption, by assumption, by assumption, by assumption, by omega, by omega, by assumption⟩ (by omega)
              refine t_if_eq (pc := 89) (tgt := 133) dX2_findPath_89 (by decide) (by omega) (fun c89 => ?_) (fun c89 => ?_)
              · refine Rn.pick (lv' := [(0, .ref fs), (1, .int (iv x1)), (3, .int (iv x3)), (4, .int (iv v46_4)), (5, .int (iv v20_5)), (6, .int (iv (Q20 (Int.toNat v20_5)))), (7, .int (iv v46_7))]) [1, 2, 3, 4, 5, 6, 7] rfl ?_
                exact B133 R46 B46 Q46 _ ht85 v46_4 ⟨by omega, by omega, by omega, by assumption, by assumption, by assumption, by assumption, by assumption, by omega, by omega, by assumption⟩
              · refine r_iload (pc := 92) dX2_findPath_92 rfl ?_
                refine r_bipush (pc := 94) (v := iv 16) dX2_findPath_94 (by decide) ?_
                refine t_icmp_ge (pc := 96) (tgt := 133) dX2_findPath_96 (by decide) (by omega) (by omega) (fun c96 => ?_) (fun c96 => ?_)
                · refine Rn.pick (lv' := [(0, .ref fs), (1, .int (iv x1)), (3, .int (iv x3)), (4, .int (iv v46_4)), (5, .int (iv v20_5)), (6, .int (iv (Q20 (Int.toNat v20_5)))), (7, .int (iv v46_7))]) [1, 2, 3, 4, 5, 6, 7] rfl ?_
                  exact B133 R46 B46 Q46 _ ht85 v46_4 ⟨by omega, by omega, by omega, by assumption, by assumption, by assumption, by assumption, by assumption, by omega, by omega, by assumption⟩
                · refine r_aload_n (pc := 99) dX2_findPath_99 (i := 0) rfl rfl ?_
                  refine r_dup (pc := 100) dX2_findPath_100 rfl ?_
                  refine t_getE (pc := 101) (.int (iv R46)) ht85 (rd_ov (by omega) (rd_ov (by omega) (rd_of (ov_s _ _ _)))) fX2_82 dX2_findPath_101 rfl ?_
                  refine r_iconst (pc := 104) (v := iv 1) dX2_findPath_104 (by decide) ?_
                  refine r_iload (pc := 105) dX2_findPath_105 rfl ?_
                  have hp107 := pow_b 15 (v := v46_7) (by omega)
                  have hq107 : ((2 ^ 15 : Nat) : Int) = 32768 := by decide
                  refine r_ishl (pc := 107) (v := iv ((2 ^ Int.toNat v46_7 : Nat) : Int)) dX2_findPath_107 (shl_e (by omega)) ?_
                  obtain ⟨z8, hz8, bz8⟩ := or_2 16 R46 ((2 ^ Int.toNat v46_7 : Nat) : Int) (by omega) (by omega) (by decide)
                  refine r_ior (pc := 108) (v := iv z8) dX2_findPath_108 hz8 ?_
                  have hz9 : Int.toNat z8 = Int.toNat R46 ||| 2 ^ Int.toNat v46_7 := or_pow hz8 (by omega) (by omega) (by omega)
                  refine t_putX (pc := 109) (ty := .int) ht85 (eq_ov (by omega) (eq_ov (by omega) (ov_s _ _ _))) fX2_82 tyX2 tyX2_ok nmX2 (by decide +kernel) (Or.inl rfl) dX2_findPath_109 (Nat.le_of_ble_eq_true rfl) rfl rfl rfl (fun hp9 ht10 => ?_)
                  rw [ov_in3 (by omega) (by omega) ] at ht10
                  refine r_aload_n (pc := 112) dX2_findPath_112 (i := 0) rfl rfl ?_
                  refine t_getE (pc := 113) (.ref (fs + 2)) ht10 (rd_ov (by omega) (rd_ov (by omega) (rd_of (ov_s _ _ _)))) fX2_15 dX2_findPath_113 rfl ?_
                  refine r_iload (pc := 116) dX2_findPath_116 rfl ?_
                  refine r_iload (pc := 118) dX2_findPath_118 rfl ?_
                  refine t_iastX (pc := 120) (t0 := 0) ht10 (eq_ov (by omega) (ov_s _ _ _)) dX2_findPath_120 rfl (by decide) (by omega) (by omega) (fun hp11 ht12 => ?_)
                  rw [ov_in2 (by omega) ] at ht12
                  have hB1 : Rfx 16 0 239 (fup B46 (Int.toNat v46_7) (Q20 (Int.toNat v20_5))) := Rfx_up (by assumption) (by omega)
                  have hB2 : Bk z8 (fup B46 (Int.toNat v46_7) (Q20 (Int.toNat v20_5))) x2 := bk_step hz9 (by assumption) (by omega) (by assumption)
                  have hB3 : Bt z8 (Q20 (Int.toNat v20_5)) := bt_or hz9 (by assumption)
                  have hB4 : Bt z8 x2 := bt_or hz9 (by assumption)
                  refine r_aload_n (pc := 121) dX2_findPath_121 (i := 0) rfl rfl ?_
                  refine t_getE (pc := 122) (.ref (fs + 3)) ht12 (rd_ov (by omega) (rd_ov (by omega) (rd_of (ov_s _ _ _)))) fX2_18 dX2_findPath_122 rfl ?_
                  refine r_iload (pc := 125) dX2_findPath_125 rfl ?_
                  refine r_iload (pc := 127) dX2_findPath_127 rfl ?_
                  refine t_iastX (pc := 129) (t0 := 0) ht12 (ov_s _ _ _) dX2_findPath_129 rfl (by decide) (by omega) (by omega) (fun hp13 ht14 => ?_)
                  rw [ov_ov] at ht14
                  have hQ1 : Rfx 16 0 15 (fup Q46 (Int.toNat v46_4) v46_7) := Rfx_up (by assumption) (by omega)
                  have hQ2 : Qk z8 (fup Q46 (Int.toNat v46_4) v46_7) (v46_4 + 1) := qk_step hz9 (by assumption) (by omega) (by omega)
                  refine r_iinc (pc := 130) (v := iv (v46_4 + 1)) (lv' := [(4, .int (iv (v46_4 + 1))), (8, .int (iv u85_0)), (0, .ref fs), (1, .int (iv x1)), (3, .int (iv x3)), (5, .int (iv v20_5)), (6, .int (iv (Q20 (Int.toNat v20_5)))), (7, .int (iv v46_7))]) dX2_findPath_130 rfl (iv_add _ _) (by decide) rfl ?_
                  refine Rn.pick (lv' := [(0, .ref fs), (1, .int (iv x1)), (3, .int (iv x3)), (4, .int (iv (v46_4 + 1))), (5, .int (iv v20_5)), (6, .int (iv (Q20 (Int.toNat v20_5)))), (7, .int (iv v46_7))]) [2, 3, 4, 0, 5, 6, 7] rfl ?_
                  exact B133 z8 (fup B46 (Int.toNat v46_7) (Q20 (Int.toNat v20_5))) (fup Q46 (Int.toNat v46_4) v46_7) _ ht14 (v46_4 + 1) ⟨by omega, by omega, by omega, by assumption, by assumption, by assumption, by assumption, by assumption, by omega, by omega, by assumption⟩
            have B84 : ∀ hp84 : MH, Tw (ov (ov (ov Γ fs (tO 2 (flF fs R46))) (fs + 2) (xI cI 16 B46)) (fs + 3) (xI cI 16 Q46)) hp84 → True → Rn (gG D cI cJ cZ cT lo b L xs) mX2_findPath d 84 [(0, .ref fs), (1, .int (iv x1)), (3, .int (iv x3)), (4, .int (iv v46_4)), (5, .int (iv v20_5)), (6, .int (iv (Q20 (Int.toNat v20_5)))), (7, .int (iv v46_7))] [] hp84 n 0 0 (pF Γ cI fs n x2 x3) := by
              intro hp84 ht84 hf84
              refine r_iconst (pc := 84) (v := iv 0) dX2_findPath_84 (by decide) ?_
              refine Rn.pick (lv' := [(0, .ref fs), (1, .int (iv x1)), (3, .int (iv x3)), (4, .int (iv v46_4)), (5, .int (iv v20_5)), (6, .int (iv (Q20 (Int.toNat v20_5)))), (7, .int (iv v46_7))]) [0, 1, 2, 3, 4, 5, 6] rfl ?_
              exact B85 _ ht84 0 ⟨by omega, by omega⟩
            refine t_if_ne (pc := 61) (tgt := 84) dX2_findPath_61 (by decide) (by omega) (fun c61 => ?_) (fun c61 => ?_)
            · refine Rn.pick (lv' := [(0, .ref fs), (1, .int (iv x1)), (3, .int (iv x3)), (4, .int (iv v46_4)), (5, .int (iv v20_5)), (6, .int (iv (Q20 (Int.toNat v20_5)))), (7, .int (iv v46_7))]) [0, 1, 2, 3, 4, 5, 6] rfl ?_
              exact B84 _ ht46 trivial
            · refine r_aload_n (pc := 64) dX2_findPath_64 (i := 0) rfl rfl ?_
              refine t_getE (pc := 65) (.ref (fs + 1)) ht46 (rd_ov (by omega) (rd_ov (by omega) (rd_of (ov_s _ _ _)))) fX2_9 dX2_findPath_65 rfl ?_
              refine r_iload (pc := 68) dX2_findPath_68 rfl ?_
              refine r_bipush (pc := 70) (v := iv 16) dX2_findPath_70 (by decide) ?_
              refine r_imul (pc := 72) (v := iv ((Q20 (Int.toNat v20_5)) * 16)) dX2_findPath_72 (iv_mul _ _) ?_
              refine r_iload (pc := 73) dX2_findPath_73 rfl ?_
              refine r_iadd (pc := 75) (v := iv (((Q20 (Int.toNat v20_5)) * 16) + v46_7)) dX2_findPath_75 (iv_add _ _) ?_
              refine t_iald (pc := 76) (t0 := 0) ht46 (rd_ov (by omega) (rd_ov (by omega) (rd_ov (by omega) (rd_of hf_room)))) dX2_findPath_76 rfl (by decide) (by omega) (fun y15 by15 _ => ?_)
              refine t_if_le (pc := 77) (tgt := 84) dX2_findPath_77 (by decide) (by omega) (fun c77 => ?_) (fun c77 => ?_)
              · refine Rn.pick (lv' := [(0, .ref fs), (1, .int (iv x1)), (3, .int (iv x3)), (4, .int (iv v46_4)), (5, .int (iv v20_5)), (6, .int (iv (Q20 (Int.toNat v20_5)))), (7, .int (iv v46_7))]) [0, 1, 2, 3, 4, 5, 6] rfl ?_
                exact B84 _ ht46 trivial
              · refine r_iconst (pc := 80) (v := iv 1) dX2_findPath_80 (by decide) ?_
                refine r_goto (pc := 81) (tgt := 85) dX2_findPath_81 (by decide) ?_
                refine Rn.pick (lv' := [(0, .ref fs), (1, .int (iv x1)), (3, .int (iv x3)), (4, .int (iv v46_4)), (5, .int (iv v20_5)), (6, .int (iv (Q20 (Int.toNat v20_5)))), (7, .int (iv v46_7))]) [0, 1, 2, 3, 4, 5, 6] rfl ?_
                exact B85 _ ht46 1 ⟨by omega, by omega⟩
        refine Rn.pick (lv' := [(0, .ref fs), (1, .int (iv x1)), (3, .int (iv x3)), (4, .int (iv v20_4)), (5, .int (iv v20_5)), (6, .int (iv (Q20 (Int.toNat v20_5)))), (7, .int (iv 0))]) [2, 3, 4, 5, 6, 1, 0] rfl ?_
        exact B46 (Int.toNat (16 - 0)) R20 B20 Q20 _ ht20 v20_4 0 ⟨by omega, by omega, by omega, by omega, by omega, by assumption, by assumption, by assumption, by assumption, by assumption, by omega, by omega, by assumption⟩ (by omega)
  refine Rn.pick (lv' := [(0, .ref fs), (1, .int (iv x1)), (3, .int (iv x3)), (4, .int (iv 1)), (5, .int (iv 0))]) [2, 3, 5, 1, 0] rfl ?_
  exact B20 (Int.toNat (16 - 0)) ((2 ^ Int.toNat x2 : Nat) : Int) B0 (fup Q0 (Int.toNat 0) x2) _ ht4 1 0 ⟨by omega, by omega, by omega, by omega, by assumption, by assumption, by assumption, by assumption, by assumption, by omega, by omega⟩ (by omega)
set_option maxHeartbeats 4000000 in
set_option maxRecDepth 100000 in
theorem t_X2_push {D : va_G} {cI cJ cZ cT : ClassId} {lo b L : Nat} {xs : Nat → Int32} {hp : MH} {n d : Nat} {Γ : TG} {fs : Nat} {x1 x2 : Int} {R : Int} {B : Nat → Int} (hd0 : 0 ≤ d) (hf : TyFlows Γ cI cJ cZ fs) (ht : Tw Γ hp) (hx1 : 0 ≤ x1 ∧ x1 ≤ 15) (hx2 : 0 ≤ x2 ∧ x2 ≤ 15) (hN : Tw (flN Γ cI fs R B) hp) (hK : Bk R B x1) (hR : 0 ≤ R ∧ R ≤ 65535) (hX : Rfx 16 0 239 B) (hbt : Bt R x2) : Mt (gG D cI cJ cZ cT lo b L xs) mX2_push d 0 0 [.ref fs, .int (iv x1), .int (iv x2)] hp n (pR Γ n (-2147483648) 2147483647) := by
  obtain ⟨hf_O, hf_room, hf_before, hf_queue, hf_linkTail, hf_linkHead, hf_linkRoom, hf_linkCost, hf_distance⟩ := id hf
  refine Mt.of rfl (Nat.le_of_ble_eq_true rfl) ?_
  refine Rn.pick (lv' := [(0, .ref fs), (1, .int (iv x1)), (2, .int (iv x2))]) [0, 1, 2] rfl ?_
  refine r_ldc (pc := 0) (v := iv 1073741824) dX2_push_0 kX2_85 ?_
  refine r_istore_n (pc := 2) (lv' := [(3, .int (iv 1073741824)), (0, .ref fs), (1, .int (iv x1)), (2, .int (iv x2))]) dX2_push_2 (i := 3) rfl (by decide) rfl ?_
  refine r_iload_n (pc := 3) dX2_push_3 (i := 2) rfl rfl ?_
  refine r_istore (pc := 4) (lv' := [(4, .int (iv x2)), (3, .int (iv 1073741824)), (0, .ref fs), (1, .int (iv x1)), (2, .int (iv x2))]) dX2_push_4 (by decide) rfl ?_
  refine r_iconst (pc := 6) (v := iv 0) dX2_push_6 (by decide) ?_
  refine r_istore (pc := 7) (lv' := [(5, .int (iv 0)), (4, .int (iv x2)), (3, .int (iv 1073741824)), (0, .ref fs), (1, .int (iv x1)), (2, .int (iv x2))]) dX2_push_7 (by decide) rfl ?_
  have B9 : ∀ k : Nat, ∀ hp9 : MH, Tw (ov (ov Γ fs (tO 2 (flF fs R))) (fs + 2) (xI cI 16 B)) hp9 → ∀  (v9_3 : Int) (v9_4 : Int) (v9_5 : Int), (-2147483648) ≤ v9_3 ∧ v9_3 ≤ 1073741824 ∧ 0 ≤ v9_4 ∧ v9_4 ≤ 15 ∧ 0 ≤ v9_5 ∧ v9_5 ≤ 16 ∧ Bt R v9_4 → 16 - v9_5 ≤ (k : Int) → Rn (gG D cI cJ cZ cT lo b L xs) mX2_push d 9 [(0, .ref fs), (1, .int (iv x1)), (2, .int (iv x2)), (3, .int (iv v9_3)), (4, .int (iv v9_4)), (5, .int (iv v9_5))] [] hp9 n 0 0 (pR Γ n (-2147483648) 2147483647) := by
    refine lpS _ ?_
    intro k9 ih9 hp9 ht9 v9_3 v9_4 v9_5 hf9 hm9
    obtain ⟨hf9_0, hf9_1, hf9_2, hf9_3, hf9_4, hf9_5, ha9_6⟩ := hf9
    refine r_iload (pc := 9) dX2_push_9 rfl ?_
    refine r_bipush (pc := 11) (v := iv 16) dX2_push_11 (by decide) ?_
    have B60 : ∀ hp60 : MH, Tw (ov (ov Γ fs (tO 2 (flF fs R))) (fs + 2) (xI cI 16 B)) hp60 → True → Rn (gG D cI cJ cZ cT lo b L xs) mX2_push d 60 [(0, .ref fs), (1, .int (iv x1)), (2, .int (iv x2)), (3, .int (iv v9_3))] [] hp60 n 0 0 (pR Γ n (-2147483648) 2147483647) := by
      intro hp60 ht60 hf60
      refine r_iload_n (pc := 60) dX2_push_60 (i := 2) rfl rfl ?_
      refine r_istore (pc := 61) (lv' := [(4, .int (iv x2)), (0, .ref fs), (1, .int (iv x1)), (2, .int (iv x2)), (3, .int (iv v9_3))]) dX2_push_61 (by decide) rfl ?_
      refine r_iconst (pc := 63) (v := iv 0) dX2_push_63 (by decide) ?_
      refine r_istore (pc := 64) (lv' := [(5, .int (iv 0)), (4, .int (iv x2)), (0, .ref fs), (1, .int (iv x1)), (2, .int (iv x2)), (3, .int (iv v9_3))]) dX2_push_64 (by decide) rfl ?_
      have B66 : ∀ k : Nat, ∀ hp66 : MH, Tw (ov (ov Γ fs (tO 2 (flF fs R))) (fs + 2) (xI cI 16 B)) hp66 → ∀  (v66_4 : Int) (v66_5 : Int), 0 ≤ v66_4 ∧ v66_4 ≤ 15 ∧ 0 ≤ v66_5 ∧ v66_5 ≤ 16 ∧ Bt R v66_4 → 16 - v66_5 ≤ (k : Int) → Rn (gG D cI cJ cZ cT lo b L xs) mX2_push d 66 [(0, .ref fs), (1, .int (iv x1)), (3, .int (iv v9_3)), (4, .int (iv v66_4)), (5, .int (iv v66_5))] [] hp66 n 0 0 (pR Γ n (-2147483648) 2147483647) := by
        refine lpS _ ?_
        intro k66 ih66 hp66 ht66 v66_4 v66_5 hf66 hm66
        obtain ⟨hf66_0, hf66_1, hf66_2, hf66_3, ha66_4⟩ := hf66
        refine r_iload (pc := 66) dX2_push_66 rfl ?_
        refine r_bipush (pc := 68) (v := iv 16) dX2_push_68 (by decide) ?_
        have B138 : ∀ hp138 : MH, Tw (ov (ov Γ fs (tO 2 (flF fs R))) (fs + 2) (xI cI 16 B)) hp138 → True → Rn (gG D cI cJ cZ cT lo b L xs) mX2_push d 138 [(3, .int (iv v9_3))] [] hp138 n 0 0 (pR Γ n (-2147483648) 2147483647) := by
          intro hp138 ht138 hf138
          refine r_iload_n (pc := 138) dX2_push_138 (i := 3) rfl rfl ?_
          exact r_iret (pc := 139) dX2_push_139 rfl ⟨rfl, (Tw.weak (Tw.closeI ht138 (eq_ov (by omega) hf_before) hX) hf_O (fun e he => tO_close (k := 3) (w := .int (iv R)) rfl ⟨R, rfl, hR.1, hR.2⟩ e he)), _, rfl, by omega, by omega⟩
        refine t_icmp_ge (pc := 70) (tgt := 138) dX2_push_70 (by decide) (by omega) (by omega) (fun c70 => ?_) (fun c70 => ?_)
        · refine Rn.pick (lv' := [(3, .int (iv v9_3))]) [2] rfl ?_
          exact B138 _ ht66 trivial
        · refine r_iload (pc := 73) dX2_push_73 rfl ?_
          refine r_iload_n (pc := 75) dX2_push_75 (i := 1) rfl rfl ?_
          refine t_icmp_eq (pc := 76) (tgt := 138) dX2_push_76 (by decide) (by omega) (by omega) (fun c76 => ?_) (fun c76 => ?_)
          · refine Rn.pick (lv' := [(3, .int (iv v9_3))]) [2] rfl ?_
            exact B138 _ ht66 trivial
          · refine r_aload_n (pc := 79) dX2_push_79 (i := 0) rfl rfl ?_
            refine t_getE (pc := 80) (.ref (fs + 1)) ht66 (rd_ov (by omega) (rd_of (ov_s _ _ _))) fX2_9 dX2_push_80 rfl ?_
            refine r_aload_n (pc := 83) dX2_push_83 (i := 0) rfl rfl ?_
            refine t_getE (pc := 84) (.ref (fs + 2)) ht66 (rd_ov (by omega) (rd_of (ov_s _ _ _))) fX2_15 dX2_push_84 rfl ?_
            refine r_iload (pc := 87) dX2_push_87 rfl ?_
            refine t_ialdX (pc := 89) (t0 := 0) ht66 (rd_of (ov_s _ _ _)) dX2_push_89 rfl (by decide) (by omega) (fun b1 => ?_)
            have rb1 := (show Rfx 16 0 239 B by assumption) (Int.toNat v66_4) (by omega)
            obtain ⟨k89a, k89b, k89c⟩ := hK (Int.toNat v66_4) (show Bt R v66_4 by assumption) (by omega)
            have k89d : Bt R (B (Int.toNat v66_4)) := k89c
            refine r_bipush (pc := 90) (v := iv 16) dX2_push_90 (by decide) ?_
            refine r_imul (pc := 92) (v := iv ((B (Int.toNat v66_4)) * 16)) dX2_push_92 (iv_mul _ _) ?_
            refine r_iload (pc := 93) dX2_push_93 rfl ?_
            refine r_iadd (pc := 95) (v := iv (((B (Int.toNat v66_4)) * 16) + v66_4)) dX2_push_95 (iv_add _ _) ?_
            refine r_dup2_11 (pc := 96) dX2_push_96 rfl rfl ?_
            refine t_iald (pc := 97) (t0 := 0) ht66 (rd_ov (by omega) (rd_ov (by omega) (rd_of hf_room))) dX2_push_97 rfl (by decide) (by omega) (fun y2 by2 _ => ?_)
            refine r_iload_n (pc := 98) dX2_push_98 (i := 3) rfl rfl ?_
            obtain ⟨z3, hz3, bz3⟩ := any_i (iv y2 - iv v9_3)
            refine r_isub (pc := 99) (v := iv z3) dX2_push_99 hz3 ?_
            refine t_iast (pc := 100) (t0 := 0) ht66 (eq_ov (by omega) (eq_ov (by omega) hf_room)) dX2_push_100 rfl (by decide) (by omega) (by omega) trivial (fun hp4 ht5 => ?_)
            refine r_aload_n (pc := 101) dX2_push_101 (i := 0) rfl rfl ?_
            refine t_getE (pc := 102) (.ref (fs + 1)) ht5 (rd_ov (by omega) (rd_of (ov_s _ _ _))) fX2_9 dX2_push_102 rfl ?_
            refine r_iload (pc := 105) dX2_push_105 rfl ?_
            refine r_bipush (pc := 107) (v := iv 16) dX2_push_107 (by decide) ?_
            refine r_imul (pc := 109) (v := iv (v66_4 * 16)) dX2_push_109 (iv_mul _ _) ?_
            refine r_aload_n (pc := 110) dX2_push_110 (i := 0) rfl rfl ?_
            refine t_getE (pc := 111) (.ref (fs + 2)) ht5 (rd_ov (by omega) (rd_of (ov_s _ _ _))) fX2_15 dX2_push_111 rfl ?_
            refine r_iload (pc := 114) dX2_push_114 rfl ?_
            refine t_ialdX (pc := 116) (t0 := 0) ht5 (rd_of (ov_s _ _ _)) dX2_push_116 rfl (by decide) (by omega) (fun b6 => ?_)
            have rb6 := (show Rfx 16 0 239 B by assumption) (Int.toNat v66_4) (by omega)
            obtain ⟨k116a, k116b, k116c⟩ := hK (Int.toNat v66_4) (show Bt R v66_4 by assumption) (by omega)
            have k116d : Bt R (B (Int.toNat v66_4)) := k116c
            refine r_iadd (pc := 117) (v := iv ((v66_4 * 16) + (B (Int.toNat v66_4)))) dX2_push_117 (iv_add _ _) ?_
            refine r_dup2_11 (pc := 118) dX2_push_118 rfl rfl ?_
            refine t_iald (pc := 119) (t0 := 0) ht5 (rd_ov (by omega) (rd_ov (by omega) (rd_of hf_room))) dX2_push_119 rfl (by decide) (by omega) (fun y7 by7 _ => ?_)
            refine r_iload_n (pc := 120) dX2_push_120 (i := 3) rfl rfl ?_
            obtain ⟨z8, hz8, bz8⟩ := any_i (iv y7 + iv v9_3)
            refine r_iadd (pc := 121) (v := iv z8) dX2_push_121 hz8 ?_
            refine t_iast (pc := 122) (t0 := 0) ht5 (eq_ov (by omega) (eq_ov (by omega) hf_room)) dX2_push_122 rfl (by decide) (by omega) (by omega) trivial (fun hp9 ht10 => ?_)
            refine r_aload_n (pc := 123) dX2_push_123 (i := 0) rfl rfl ?_
            refine t_getE (pc := 124) (.ref (fs + 2)) ht10 (rd_ov (by omega) (rd_of (ov_s _ _ _))) fX2_15 dX2_push_124 rfl ?_
            refine r_iload (pc := 127) dX2_push_127 rfl ?_
            refine t_ialdX (pc := 129) (t0 := 0) ht10 (rd_of (ov_s _ _ _)) dX2_push_129 rfl (by decide) (by omega) (fun b11 => ?_)
            have rb11 := (show Rfx 16 0 239 B by assumption) (Int.toNat v66_4) (by omega)
            obtain ⟨k129a, k129b, k129c⟩ := hK (Int.toNat v66_4) (show Bt R v66_4 by assumption) (by omega)
            have k129d : Bt R (B (Int.toNat v66_4)) := k129c
            refine r_istore (pc := 130) (lv' := [(4, .int (iv (B (Int.toNat v66_4)))), (0, .ref fs), (1, .int (iv x1)), (3, .int (iv v9_3)), (5, .int (iv v66_5))]) dX2_push_130 (by decide) rfl ?_
            refine r_iinc (pc := 132) (v := iv (v66_5 + 1)) (lv' := [(5, .int (iv (v66_5 + 1))), (4, .int (iv (B (Int.toNat v66_4)))), (0, .ref fs), (1, .int (iv x1)), (3, .int (iv v9_3))]) dX2_push_132 rfl (iv_add _ _) (by decide) rfl ?_
            refine r_goto (pc := 135) (tgt := 66) dX2_push_135 (by decide) ?_
            refine Rn.pick (lv' := [(0, .ref fs), (1, .int (iv x1)), (3, .int (iv v9_3)), (4, .int (iv (B (Int.toNat v66_4)))), (5, .int (iv (v66_5 + 1)))]) [2, 3, 4, 1, 0] rfl ?_
            exact ih66 (Int.toNat (16 - (v66_5 + 1))) (by omega) _ ht10 (B (Int.toNat v66_4)) (v66_5 + 1) ⟨by omega, by omega, by omega, by omega, by assumption⟩ (by omega)
      refine Rn.pick (lv' := [(0, .ref fs), (1, .int (iv x1)), (3, .int (iv v9_3)), (4, .int (iv x2)), (5, .int (iv 0))]) [2, 3, 5, 1, 0] rfl ?_
      exact B66 (Int.toNat (16 - 0)) _ ht60 x2 0 ⟨by omega, by omega, by omega, by omega, by assumption⟩ (by omega)
    refine t_icmp_ge (pc := 13) (tgt := 60) dX2_push_13 (by decide) (by omega) (by omega) (fun c13 => ?_) (fun c13 => ?_)
    · refine Rn.pick (lv' := [(0, .ref fs), (1, .int (iv x1)), (2, .int (iv x2)), (3, .int (iv v9_3))]) [0, 1, 2, 3] rfl ?_
      exact B60 _ ht9 trivial
    · refine r_iload (pc := 16) dX2_push_16 rfl ?_
      refine r_iload_n (pc := 18) dX2_push_18 (i := 1) rfl rfl ?_
      refine t_icmp_eq (pc := 19) (tgt := 60) dX2_push_19 (by decide) (by omega) (by omega) (fun c19 => ?_) (fun c19 => ?_)
      · refine Rn.pick (lv' := [(0, .ref fs), (1, .int (iv x1)), (2, .int (iv x2)), (3, .int (iv v9_3))]) [0, 1, 2, 3] rfl ?_
        exact B60 _ ht9 trivial
      · refine r_iload_n (pc := 22) dX2_push_22 (i := 3) rfl rfl ?_
        refine r_aload_n (pc := 23) dX2_push_23 (i := 0) rfl rfl ?_
        refine t_getE (pc := 24) (.ref (fs + 1)) ht9 (rd_ov (by omega) (rd_of (ov_s _ _ _))) fX2_9 dX2_push_24 rfl ?_
        refine r_aload_n (pc := 27) dX2_push_27 (i := 0) rfl rfl ?_
        refine t_getE (pc := 28) (.ref (fs + 2)) ht9 (rd_ov (by omega) (rd_of (ov_s _ _ _))) fX2_15 dX2_push_28 rfl ?_
        refine r_iload (pc := 31) dX2_push_31 rfl ?_
        refine t_ialdX (pc := 33) (t0 := 0) ht9 (rd_of (ov_s _ _ _)) dX2_push_33 rfl (by decide) (by omega) (fun b12 => ?_)
        have rb12 := (show Rfx 16 0 239 B by assumption) (Int.toNat v9_4) (by omega)
        obtain ⟨k33a, k33b, k33c⟩ := hK (Int.toNat v9_4) (show Bt R v9_4 by assumption) (by omega)
        have k33d : Bt R (B (Int.toNat v9_4)) := k33c
        refine r_bipush (pc := 34) (v := iv 16) dX2_push_34 (by decide) ?_
        refine r_imul (pc := 36) (v := iv ((B (Int.toNat v9_4)) * 16)) dX2_push_36 (iv_mul _ _) ?_
        refine r_iload (pc := 37) dX2_push_37 rfl ?_
        refine r_iadd (pc := 39) (v := iv (((B (Int.toNat v9_4)) * 16) + v9_4)) dX2_push_39 (iv_add _ _) ?_
        refine t_iald (pc := 40) (t0 := 0) ht9 (rd_ov (by omega) (rd_ov (by omega) (rd_of hf_room))) dX2_push_40 rfl (by decide) (by omega) (fun y13 by13 _ => ?_)
        obtain ⟨z14, hz14, bz14⟩ := min_b v9_3 y13 (by omega) (by omega)
        refine r_mmin (pc := 41) (v := iv z14) qX2_86 dX2_push_41 (Nat.le_of_ble_eq_true rfl) hz14 ?_
        refine r_istore_n (pc := 44) (lv' := [(3, .int (iv z14)), (0, .ref fs), (1, .int (iv x1)), (2, .int (iv x2)), (4, .int (iv v9_4)), (5, .int (iv v9_5))]) dX2_push_44 (i := 3) rfl (by decide) rfl ?_
        refine r_aload_n (pc := 45) dX2_push_45 (i := 0) rfl rfl ?_
        refine t_getE (pc := 46) (.ref (fs + 2)) ht9 (rd_ov (by omega) (rd_of (ov_s _ _ _))) fX2_15 dX2_push_46 rfl ?_
        refine r_iload (pc := 49) dX2_push_49 rfl ?_
        refine t_ialdX (pc := 51) (t0 := 0) ht9 (rd_of (ov_s _ _ _)) dX2_push_51 rfl (by decide) (by omega) (fun b15 => ?_)
        have rb15 := (show Rfx 16 0 239 B by assumption) (Int.toNat v9_4) (by omega)
        obtain ⟨k51a, k51b, k51c⟩ := hK (Int.toNat v9_4) (show Bt R v9_4 by assumption) (by omega)
        have k51d : Bt R (B (Int.toNat v9_4)) := k51c
        refine r_istore (pc := 52) (lv' := [(4, .int (iv (B (Int.toNat v9_4)))), (3, .int (iv z14)), (0, .ref fs), (1, .int (iv x1)), (2, .int (iv x2)), (5, .int (iv v9_5))]) dX2_push_52 (by decide) rfl ?_
        refine r_iinc (pc := 54) (v := iv (v9_5 + 1)) (lv' := [(5, .int (iv (v9_5 + 1))), (4, .int (iv (B (Int.toNat v9_4)))), (3, .int (iv z14)), (0, .ref fs), (1, .int (iv x1)), (2, .int (iv x2))]) dX2_push_54 rfl (iv_add _ _) (by decide) rfl ?_
        refine r_goto (pc := 57) (tgt := 9) dX2_push_57 (by decide) ?_
        refine Rn.pick (lv' := [(0, .ref fs), (1, .int (iv x1)), (2, .int (iv x2)), (3, .int (iv z14)), (4, .int (iv (B (Int.toNat v9_4)))), (5, .int (iv (v9_5 + 1)))]) [3, 4, 5, 2, 1, 0] rfl ?_
        exact ih9 (Int.toNat (16 - (v9_5 + 1))) (by omega) _ ht9 z14 (B (Int.toNat v9_4)) (v9_5 + 1) ⟨by omega, by omega, by omega, by omega, by omega, by omega, by assumption⟩ (by omega)
  refine Rn.pick (lv' := [(0, .ref fs), (1, .int (iv x1)), (2, .int (iv x2)), (3, .int (iv 1073741824)), (4, .int (iv x2)), (5, .int (iv 0))]) [3, 4, 5, 2, 1, 0] rfl ?_
  exact B9 (Int.toNat (16 - 0)) _ hN 1073741824 x2 0 ⟨by omega, by omega, by omega, by omega, by omega, by omega, by assumption⟩ (by omega)
set_option maxHeartbeats 4000000 in
set_option maxRecDepth 100000 in
theorem t_X2_most {D : va_G} {cI cJ cZ cT : ClassId} {lo b L : Nat} {xs : Nat → Int32} {hp : MH} {n d : Nat} {Γ : TG} {fs : Nat} {ga : Nat} {gF : Nat} {gT : Nat} {gW : Nat} {gC : Nat} {gTl : Nat} {gHd : Nat} {gBy : Nat} {gOu : Nat} {gIn : Nat} {gJo : Nat} {gn : Nat} {gm : Nat} {gq : Nat} {gdr : Int} {x2 x3 x4 : Int} (hd0 : 1 ≤ d) (hf : TyFlows Γ cI cJ cZ fs) (hg : TyG Γ cI cJ cZ ga gF gT gW gC gTl gHd gBy gOu gIn gJo gn gm gq gdr) (ht : Tw Γ hp) (hx2 : 0 ≤ x2 ∧ x2 ≤ 1) (hx3 : 0 ≤ x3 ∧ x3 ≤ 15) (hx4 : 0 ≤ x4 ∧ x4 ≤ 15) : Mt (gG D cI cJ cZ cT lo b L xs) mX2_most d 0 0 [.ref fs, .ref ga, .int (iv x2), .int (iv x3), .int (iv x4)] hp n (pJ Γ n yes64) := by
  obtain ⟨hf_O, hf_room, hf_before, hf_queue, hf_linkTail, hf_linkHead, hf_linkRoom, hf_linkCost, hf_distance⟩ := id hf
  obtain ⟨hg_O, hg_from, hg_to, hg_weight, hg_cost, hg_tail, hg_head, hg_by, hg_out, hg_in, hg_joined, hg_b⟩ := id hg
  refine Mt.of rfl (Nat.le_of_ble_eq_true rfl) ?_
  refine Rn.pick (lv' := [(0, .ref fs), (1, .ref ga), (2, .int (iv x2)), (3, .int (iv x3)), (4, .int (iv x4))]) [0, 1, 2, 3, 4] rfl ?_
  refine r_aload_n (pc := 0) dX2_most_0 (i := 0) rfl rfl ?_
  refine t_getE (pc := 1) (.ref (fs + 1)) ht (rd_of hf_O) fX2_9 dX2_most_1 rfl ?_
  refine r_iconst (pc := 4) (v := iv 0) dX2_most_4 (by decide) ?_
  refine t_fillA (pc := 5) ht hf_room kX2_37 dX2_most_5 (by omega) (by omega) (Nat.le_of_ble_eq_true rfl) (fun hp1 ht2 => ?_)
  refine r_iconst (pc := 8) (v := iv 0) dX2_most_8 (by decide) ?_
  refine r_istore (pc := 9) (lv' := [(5, .int (iv 0)), (0, .ref fs), (1, .ref ga), (2, .int (iv x2)), (3, .int (iv x3)), (4, .int (iv x4))]) dX2_most_9 (by decide) rfl ?_
  have B11 : ∀ k : Nat, ∀ hp11 : MH, Tw Γ hp11 → ∀  (v11_5 : Int), 0 ≤ v11_5 ∧ v11_5 ≤ 120 → 120 - v11_5 ≤ (k : Int) → Rn (gG D cI cJ cZ cT lo b L xs) mX2_most d 11 [(0, .ref fs), (1, .ref ga), (2, .int (iv x2)), (3, .int (iv x3)), (4, .int (iv x4)), (5, .int (iv v11_5))] [] hp11 n 0 0 (pJ Γ n yes64) := by
    refine lpS _ ?_
    intro k11 ih11 hp11 ht11 v11_5 hf11 hm11
    refine r_iload (pc := 11) dX2_most_11 rfl ?_
    refine r_aload_n (pc := 13) dX2_most_13 (i := 1) rfl rfl ?_
    refine t_getE (pc := 14) (.int (iv (gq : Int))) ht11 hg_O fX2_43 dX2_most_14 rfl ?_
    refine t_icmp_ge (pc := 17) (tgt := 80) dX2_most_17 (by decide) (by omega) (by omega) (fun c17 => ?_) (fun c17 => ?_)
    · refine r_lconst (pc := 80) (v := 0) dX2_most_80 (by decide) ?_
      refine r_lstore (pc := 81) (lv' := [(5, .long (0 : Int64)), (0, .ref fs), (1, .ref ga), (2, .int (iv x2)), (3, .int (iv x3)), (4, .int (iv x4))]) dX2_most_81 (by decide) rfl ?_
      refine r_iconst (pc := 83) (v := iv 0) dX2_most_83 (by decide) ?_
      refine r_istore (pc := 84) (lv' := [(7, .int (iv 0)), (5, .long (0 : Int64)), (0, .ref fs), (1, .ref ga), (2, .int (iv x2)), (3, .int (iv x3)), (4, .int (iv x4))]) dX2_most_84 (by decide) rfl ?_
      have B86 : ∀ k : Nat, ∀ hp86 : MH, Tw Γ hp86 → ∀  (v86_7 : Int) (w86_5 : Int64), 0 ≤ v86_7 ∧ v86_7 ≤ 60001 → 60001 - v86_7 ≤ (k : Int) → Rn (gG D cI cJ cZ cT lo b L xs) mX2_most d 86 [(0, .ref fs), (1, .ref ga), (3, .int (iv x3)), (4, .int (iv x4)), (5, .long w86_5), (7, .int (iv v86_7))] [] hp86 n 0 0 (pJ Γ n yes64) := by
        refine lpS _ ?_
        intro k86 ih86 hp86 ht86 v86_7 w86_5 hf86 hm86
        refine r_iload (pc := 86) dX2_most_86 rfl ?_
        refine r_ldc (pc := 88) (v := iv 60001) dX2_most_88 kX2_67 ?_
        have B126 : ∀ hp126 : MH, Tw Γ hp126 → True → Rn (gG D cI cJ cZ cT lo b L xs) mX2_most d 126 [(5, .long w86_5)] [] hp126 n 0 0 (pJ Γ n yes64) := by
          intro hp126 ht126 hf126
          refine r_lload (pc := 126) dX2_most_126 rfl ?_
          exact r_lret (pc := 128) dX2_most_128 rfl ⟨rfl, ht126, _, rfl, trivial⟩
        refine t_icmp_ge (pc := 90) (tgt := 126) dX2_most_90 (by decide) (by omega) (by omega) (fun c90 => ?_) (fun c90 => ?_)
        · refine Rn.pick (lv' := [(5, .long w86_5)]) [4] rfl ?_
          exact B126 _ ht86 trivial
        · refine r_aload_n (pc := 93) dX2_most_93 (i := 0) rfl rfl ?_
          refine r_aload_n (pc := 94) dX2_most_94 (i := 1) rfl rfl ?_
          refine t_getE (pc := 95) (.int (iv (gn : Int))) ht86 hg_O fX2_68 dX2_most_95 rfl ?_
          refine r_iload_n (pc := 98) dX2_most_98 (i := 3) rfl rfl ?_
          refine r_iload (pc := 99) dX2_most_99 rfl ?_
          obtain ⟨fs7, hfs7⟩ := t_obj ht86 (rd_of hf_O)
          refine r_callV (pc := 101) (as := [.int (iv (gn : Int)), .int (iv x3), .int (iv x4)]) (st := []) kX2_71 rfl dX2_most_101 hfs7 (t_X2_findPath (d := d - 1) (x1 := (gn : Int)) (x2 := x3) (x3 := x4) (by omega) hf ht86 (by omega) (by omega) (by omega)) rfl (by omega) (Nat.le_of_ble_eq_true rfl) (Nat.zero_le _) (Nat.zero_le _) rfl (fun r4 hp3 n5 hq6 => ?_)
          obtain ⟨hnn5, R10, B11, hN101, hK101, hR101, hX101, y8, hrr4, by8, hI101⟩ := hq6
          subst n5 r4
          have ht9 : Tw Γ hp3 := Tw.weak (Tw.closeI hN101 (eq_ov (by omega) hf_before) hX101) hf_O (fun e he => tO_close (k := 3) (w := .int (iv R10)) rfl ⟨R10, rfl, hR101.1, hR101.2⟩ e he)
          change Rn _ _ _ 104 _ [.int (iv y8)] _ _ _ _ _
          refine t_if_eq (pc := 104) (tgt := 126) dX2_most_104 (by decide) (by omega) (fun c104 => ?_) (fun c104 => ?_)
          · refine Rn.pick (lv' := [(5, .long w86_5)]) [4] rfl ?_
            exact B126 _ ht9 trivial
          · refine r_lload (pc := 107) dX2_most_107 rfl ?_
            refine r_aload_n (pc := 109) dX2_most_109 (i := 0) rfl rfl ?_
            refine r_iload_n (pc := 110) dX2_most_110 (i := 3) rfl rfl ?_
            refine r_iload (pc := 111) dX2_most_111 rfl ?_
            refine t_callVR (pc := 113) (as := [.int (iv x3), .int (iv x4)]) (st := [.long w86_5]) ht9 (rd_of hf_O) kX2_75 rfl dX2_most_113 (t_X2_push (d := d - 1) (x1 := x3) (x2 := x4) (by omega) hf  ht9 (by omega) (by omega) hN101 hK101 hR101 hX101 (hI101 (by omega))) rfl (by omega) (Nat.le_of_ble_eq_true rfl) rfl (fun hp12 y14 ht13 by14 => ?_)
            refine r_i2l (pc := 116) (v := (iv y14).toInt64) dX2_most_116 rfl ?_
            refine r_ladd (pc := 117) (v := w86_5 + ((iv y14).toInt64)) dX2_most_117 rfl ?_
            refine r_lstore (pc := 118) (lv' := [(5, .long (w86_5 + ((iv y14).toInt64))), (0, .ref fs), (1, .ref ga), (3, .int (iv x3)), (4, .int (iv x4)), (7, .int (iv v86_7))]) dX2_most_118 (by decide) rfl ?_
            refine r_iinc (pc := 120) (v := iv (v86_7 + 1)) (lv' := [(7, .int (iv (v86_7 + 1))), (5, .long (w86_5 + ((iv y14).toInt64))), (0, .ref fs), (1, .ref ga), (3, .int (iv x3)), (4, .int (iv x4))]) dX2_most_120 rfl (iv_add _ _) (by decide) rfl ?_
            refine r_goto (pc := 123) (tgt := 86) dX2_most_123 (by decide) ?_
            refine Rn.pick (lv' := [(0, .ref fs), (1, .ref ga), (3, .int (iv x3)), (4, .int (iv x4)), (5, .long (w86_5 + ((iv y14).toInt64))), (7, .int (iv (v86_7 + 1)))]) [2, 3, 4, 5, 1, 0] rfl ?_
            exact ih86 (Int.toNat (60001 - (v86_7 + 1))) (by omega) _ ht13 (v86_7 + 1) (w86_5 + ((iv y14).toInt64)) ⟨by omega, by omega⟩ (by omega)
      refine Rn.pick (lv' := [(0, .ref fs), (1, .ref ga), (3, .int (iv x3)), (4, .int (iv x4)), (5, .long (0 : Int64)), (7, .int (iv 0))]) [2, 3, 5, 6, 1, 0] rfl ?_
      exact B86 (Int.toNat (60001 - 0)) _ ht11 0 (0 : Int64) ⟨by omega, by omega⟩ (by omega)
    · refine r_iload_n (pc := 20) dX2_most_20 (i := 2) rfl rfl ?_
      have B44 : ∀ hp44 : MH, Tw Γ hp44 → ∀  (u44_0 : Int), 0 ≤ u44_0 ∧ u44_0 ≤ 1000 → Rn (gG D cI cJ cZ cT lo b L xs) mX2_most d 44 [(0, .ref fs), (1, .ref ga), (2, .int (iv x2)), (3, .int (iv x3)), (4, .int (iv x4)), (5, .int (iv v11_5))] [.int (iv u44_0)] hp44 n 0 0 (pJ Γ n yes64) := by
        intro hp44 ht44 u44_0 hf44
        refine r_istore (pc := 44) (lv' := [(6, .int (iv u44_0)), (0, .ref fs), (1, .ref ga), (2, .int (iv x2)), (3, .int (iv x3)), (4, .int (iv x4)), (5, .int (iv v11_5))]) dX2_most_44 (by decide) rfl ?_
        refine r_aload_n (pc := 46) dX2_most_46 (i := 0) rfl rfl ?_
        refine t_getE (pc := 47) (.ref (fs + 1)) ht44 (rd_of hf_O) fX2_9 dX2_most_47 rfl ?_
        refine r_aload_n (pc := 50) dX2_most_50 (i := 1) rfl rfl ?_
        refine t_getE (pc := 51) (.ref gTl) ht44 hg_O fX2_61 dX2_most_51 rfl ?_
        refine r_iload (pc := 54) dX2_most_54 rfl ?_
        refine t_ialdR (pc := 56) (t0 := 0) ht44 hg_tail dX2_most_56 rfl (by omega) (by omega) (fun y15 by15 => ?_)
        refine r_bipush (pc := 57) (v := iv 16) dX2_most_57 (by decide) ?_
        refine r_imul (pc := 59) (v := iv (y15 * 16)) dX2_most_59 (iv_mul _ _) ?_
        refine r_aload_n (pc := 60) dX2_most_60 (i := 1) rfl rfl ?_
        refine t_getE (pc := 61) (.ref gHd) ht44 hg_O fX2_64 dX2_most_61 rfl ?_
        refine r_iload (pc := 64) dX2_most_64 rfl ?_
        refine t_ialdR (pc := 66) (t0 := 0) ht44 hg_head dX2_most_66 rfl (by omega) (by omega) (fun y16 by16 => ?_)
        refine r_iadd (pc := 67) (v := iv ((y15 * 16) + y16)) dX2_most_67 (iv_add _ _) ?_
        refine r_dup2_11 (pc := 68) dX2_most_68 rfl rfl ?_
        refine t_iald (pc := 69) (t0 := 0) ht44 (rd_of hf_room) dX2_most_69 rfl (by decide) (by omega) (fun y17 by17 _ => ?_)
        refine r_iload (pc := 70) dX2_most_70 rfl ?_
        obtain ⟨z18, hz18, bz18⟩ := any_i (iv y17 + iv u44_0)
        refine r_iadd (pc := 72) (v := iv z18) dX2_most_72 hz18 ?_
        refine t_iast (pc := 73) (t0 := 0) ht44 hf_room dX2_most_73 rfl (by decide) (by omega) (by omega) trivial (fun hp19 ht20 => ?_)
        refine r_iinc (pc := 74) (v := iv (v11_5 + 1)) (lv' := [(5, .int (iv (v11_5 + 1))), (6, .int (iv u44_0)), (0, .ref fs), (1, .ref ga), (2, .int (iv x2)), (3, .int (iv x3)), (4, .int (iv x4))]) dX2_most_74 rfl (iv_add _ _) (by decide) rfl ?_
        refine r_goto (pc := 77) (tgt := 11) dX2_most_77 (by decide) ?_
        refine Rn.pick (lv' := [(0, .ref fs), (1, .ref ga), (2, .int (iv x2)), (3, .int (iv x3)), (4, .int (iv x4)), (5, .int (iv (v11_5 + 1)))]) [2, 3, 4, 5, 6, 0] rfl ?_
        exact ih11 (Int.toNat (120 - (v11_5 + 1))) (by omega) _ ht20 (v11_5 + 1) ⟨by omega, by omega⟩ (by omega)
      refine t_if_eq (pc := 21) (tgt := 28) dX2_most_21 (by decide) (by omega) (fun c21 => ?_) (fun c21 => ?_)
      · refine r_iconst (pc := 28) (v := iv 0) dX2_most_28 (by decide) ?_
        refine r_aload_n (pc := 29) dX2_most_29 (i := 1) rfl rfl ?_
        refine t_getE (pc := 30) (.ref gW) ht11 hg_O fX2_49 dX2_most_30 rfl ?_
        refine r_aload_n (pc := 33) dX2_most_33 (i := 1) rfl rfl ?_
        refine t_getE (pc := 34) (.ref gBy) ht11 hg_O fX2_52 dX2_most_34 rfl ?_
        refine r_iload (pc := 37) dX2_most_37 rfl ?_
        refine t_ialdR (pc := 39) (t0 := 0) ht11 hg_by dX2_most_39 rfl (by omega) (by omega) (fun y21 by21 => ?_)
        refine t_ialdR (pc := 40) (t0 := 0) ht11 hg_weight dX2_most_40 rfl (by omega) (by omega) (fun y22 by22 => ?_)
        obtain ⟨z23, hz23, bz23⟩ := max_b 0 y22 (by omega) (by omega)
        refine r_mmax (pc := 41) (v := iv z23) qX2_55 dX2_most_41 (Nat.le_of_ble_eq_true rfl) hz23 ?_
        refine Rn.pick (lv' := [(0, .ref fs), (1, .ref ga), (2, .int (iv x2)), (3, .int (iv x3)), (4, .int (iv x4)), (5, .int (iv v11_5))]) [0, 1, 2, 3, 4, 5] rfl ?_
        exact B44 _ ht11 z23 ⟨by omega, by omega⟩
      · refine r_iconst (pc := 24) (v := iv 1) dX2_most_24 (by decide) ?_
        refine r_goto (pc := 25) (tgt := 44) dX2_most_25 (by decide) ?_
        refine Rn.pick (lv' := [(0, .ref fs), (1, .ref ga), (2, .int (iv x2)), (3, .int (iv x3)), (4, .int (iv x4)), (5, .int (iv v11_5))]) [0, 1, 2, 3, 4, 5] rfl ?_
        exact B44 _ ht11 1 ⟨by omega, by omega⟩
  refine Rn.pick (lv' := [(0, .ref fs), (1, .ref ga), (2, .int (iv x2)), (3, .int (iv x3)), (4, .int (iv x4)), (5, .int (iv 0))]) [1, 2, 3, 4, 5, 0] rfl ?_
  exact B11 (Int.toNat (120 - 0)) _ ht2 0 ⟨by omega, by omega⟩ (by omega)
set_option maxHeartbeats 4000000 in
set_option maxRecDepth 100000 in
theorem t_X2_cut {D : va_G} {cI cJ cZ cT : ClassId} {lo b L : Nat} {xs : Nat → Int32} {hp : MH} {n d : Nat} {Γ : TG} {fs : Nat} {ga : Nat} {gF : Nat} {gT : Nat} {gW : Nat} {gC : Nat} {gTl : Nat} {gHd : Nat} {gBy : Nat} {gOu : Nat} {gIn : Nat} {gJo : Nat} {gn : Nat} {gm : Nat} {gq : Nat} {gdr : Int} {x2 x3 : Int} (hd0 : 2 ≤ d) (hf : TyFlows Γ cI cJ cZ fs) (hg : TyG Γ cI cJ cZ ga gF gT gW gC gTl gHd gBy gOu gIn gJo gn gm gq gdr) (ht : Tw Γ hp) (hx2 : 0 ≤ x2 ∧ x2 ≤ 15) (hx3 : 0 ≤ x3 ∧ x3 ≤ 15) : Mt (gG D cI cJ cZ cT lo b L xs) mX2_cut d 0 0 [.ref fs, .ref ga, .int (iv x2), .int (iv x3)] hp n (pR Γ n 0 65535) := by
  obtain ⟨hf_O, hf_room, hf_before, hf_queue, hf_linkTail, hf_linkHead, hf_linkRoom, hf_linkCost, hf_distance⟩ := id hf
  obtain ⟨hg_O, hg_from, hg_to, hg_weight, hg_cost, hg_tail, hg_head, hg_by, hg_out, hg_in, hg_joined, hg_b⟩ := id hg
  refine Mt.of rfl (Nat.le_of_ble_eq_true rfl) ?_
  refine Rn.pick (lv' := [(0, .ref fs), (1, .ref ga), (2, .int (iv x2)), (3, .int (iv x3))]) [0, 1, 2, 3] rfl ?_
  refine r_aload_n (pc := 0) dX2_cut_0 (i := 0) rfl rfl ?_
  refine r_aload_n (pc := 1) dX2_cut_1 (i := 1) rfl rfl ?_
  refine r_iconst (pc := 2) (v := iv 0) dX2_cut_2 (by decide) ?_
  refine r_iload_n (pc := 3) dX2_cut_3 (i := 2) rfl rfl ?_
  refine r_iload_n (pc := 4) dX2_cut_4 (i := 3) rfl rfl ?_
  refine t_callVJ (pc := 5) (as := [.ref ga, .int (iv 0), .int (iv x2), .int (iv x3)]) (st := []) ht (rd_of hf_O) kX2_78 rfl dX2_cut_5 (t_X2_most (d := d - 1) (x2 := 0) (x3 := x2) (x4 := x3) (by omega) hf hg  ht (by omega) (by omega) (by omega) ) rfl (by omega) (Nat.le_of_ble_eq_true rfl) rfl (fun hp1 y3 ht2 _ => ?_)
  refine r_pop2_2 (pc := 8) dX2_cut_8 rfl ?_
  refine r_aload_n (pc := 9) dX2_cut_9 (i := 0) rfl rfl ?_
  refine t_getI (pc := 10) ht2 (rd_of hf_O) fX2_82 dX2_cut_10 rfl (fun y4 by4 => ?_)
  exact r_iret (pc := 13) dX2_cut_13 rfl ⟨rfl, ht2, _, rfl, by omega, by omega⟩
