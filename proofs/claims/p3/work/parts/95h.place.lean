def Rfx (L : Nat) (lo hi : Int) (F : Nat → Int) : Prop := ∀ i, i < L → lo ≤ F i ∧ F i ≤ hi
theorem Rfx_up {L : Nat} {lo hi : Int} {F : Nat → Int} {i : Nat} {v : Int} (h : Rfx L lo hi F) (hv : lo ≤ v ∧ v ≤ hi) : Rfx L lo hi (fup F i v) := by
  intro j hj
  by_cases e : j = i
  · subst e; rw [fup_s]; exact hv
  · rw [fup_o _ _ e]; exact h j hj
def Pfx (F : Nat → Int) (v : Int) : Prop := ∀ i : Nat, (i : Int) < v → 0 ≤ F i
def Sm (F0 F : Nat → Int) (v : Int) : Prop := ∀ i : Nat, i ≠ v.toNat → F i = F0 i
theorem Sm_rf (F : Nat → Int) (v : Int) : Sm F F v := fun _ _ => rfl
theorem Sm_up {F0 F : Nat → Int} {v u : Int} (h : Sm F0 F v) : Sm F0 (fup F v.toNat u) v := fun i hi => by rw [fup_o _ _ hi]; exact h i hi
theorem Pfx_0 (F : Nat → Int) : Pfx F 0 := fun i hi => by omega
theorem Pfx_step {F0 F : Nat → Int} {v : Int} (h : Pfx F0 v) (hs : Sm F0 F v) (h0 : 0 ≤ v) (hv : 0 ≤ F v.toNat) : Pfx F (v + 1) := by
  intro i hi
  by_cases e : i = v.toNat
  · subst e; exact hv
  · rw [hs i e]; exact h i (by omega)
theorem Pfx_up {F : Nat → Int} {v u : Int} (h : Pfx F v) : Pfx (fup F v.toNat u) v := by
  intro i hi
  rw [fup_o _ _ (by omega)]; exact h i hi
theorem Pfx_dn {F0 F : Nat → Int} {v : Int} (h : Pfx F0 v) (hs : Sm F0 F v) : Pfx F (v - 1) := by
  intro i hi
  rw [hs i (by omega)]; exact h i (by omega)
def plQ (F : Nat → Int) : Nat → Int
  | 0 => 0
  | k + 1 => plQ F k + F k * 17 ^ (16 - k)
theorem plQ_congr {F H : Nat → Int} : ∀ k : Nat, (∀ i, i < k → F i = H i) → plQ F k = plQ H k := by
  intro k
  induction k with
  | zero => intro _; rfl
  | succ k ih =>
    intro h
    show plQ F k + F k * 17 ^ (16 - k) = plQ H k + H k * 17 ^ (16 - k)
    rw [ih (fun i hi => h i (by omega)), h k (by omega)]
theorem pw17 {k : Nat} (h : k ≤ 16) : (17 : Int) ^ (17 - k) = 17 * 17 ^ (16 - k) := by
  rw [show 17 - k = (16 - k) + 1 by omega, Int.pow_succ, Int.mul_comm]
theorem pw17p (k : Nat) : (1 : Int) ≤ 17 ^ k := by
  induction k with
  | zero => decide
  | succ k ih => rw [Int.pow_succ]; omega
theorem mul_le' {a b p : Int} (h : a ≤ b) (hp : 0 ≤ p) : a * p ≤ b * p := Int.mul_le_mul_of_nonneg_right h hp
theorem plQ_hi {F : Nat → Int} : ∀ k : Nat, k ≤ 16 → (∀ i, i < k → 0 ≤ F i ∧ F i ≤ 15) → 0 ≤ plQ F k ∧ plQ F k + 17 ^ (17 - k) ≤ 17 ^ 17 := by
  intro k
  induction k with
  | zero => intro _ _; exact ⟨Int.le_refl _, by show (0 : Int) + 17 ^ 17 ≤ 17 ^ 17; omega⟩
  | succ k ih =>
    intro hk h
    obtain ⟨h1, h2⟩ := ih (by omega) (fun i hi => h i (by omega))
    obtain ⟨h3, h4⟩ := h k (by omega)
    have e : plQ F (k + 1) = plQ F k + F k * 17 ^ (16 - k) := rfl
    have p := pw17p (16 - k)
    rw [pw17 (show k ≤ 16 by omega)] at h2
    rw [e, show 17 - (k + 1) = 16 - k by omega]
    have q1 := mul_le' h3 (show (0 : Int) ≤ 17 ^ (16 - k) by omega)
    have q2 := mul_le' h4 (show (0 : Int) ≤ 17 ^ (16 - k) by omega)
    omega
def plM (F : Nat → Int) (v n : Int) : Int := if v < 0 then 0 else 40 * 17 ^ 17 - (32 * (plQ F v.toNat + (if v < n then (F v.toNat + 1) * 17 ^ (16 - v.toNat) else 0)) + v)
theorem plM_0 {F : Nat → Int} {v n : Int} (h0 : -1 ≤ v ∧ v ≤ n ∧ n ≤ 16) (hp : ∀ i : Nat, (i : Int) < v → 0 ≤ F i ∧ F i ≤ 15) (hv : 0 ≤ v → v < n → -1 ≤ F v.toNat ∧ F v.toNat ≤ 15) : 0 ≤ plM F v n ∧ (0 ≤ v → 1 ≤ plM F v n) := by
  unfold plM
  by_cases h1 : v < 0
  · rw [if_pos h1]; omega
  · rw [if_neg h1]
    obtain ⟨k, rfl⟩ := Int.eq_ofNat_of_zero_le (show 0 ≤ v by omega)
    have hk : ((k : Int)).toNat = k := rfl
    rw [hk]
    obtain ⟨h2, h3⟩ := plQ_hi k (by omega) (fun i hi => hp i (by omega))
    have p := pw17p (16 - k)
    rw [pw17 (show k ≤ 16 by omega)] at h3
    have p2 : (17 : Int) ^ 17 = 827240261886336764177 := by decide
    by_cases h4 : (k : Int) < n
    · rw [if_pos h4]
      obtain ⟨h5, h6⟩ := hv (by omega) h4
      have q2 := mul_le' (show F k + 1 ≤ 16 by rw [hk] at h6; omega) (show (0 : Int) ≤ 17 ^ (16 - k) by omega)
      omega
    · rw [if_neg h4]; omega
theorem plM_eq (F : Nat → Int) {v n : Int} (k : Nat) (h : v = (k : Int)) : plM F v n = 40 * 17 ^ 17 - (32 * (plQ F k + (if (k : Int) < n then (F k + 1) * 17 ^ (16 - k) else 0)) + (k : Int)) := by
  subst h
  unfold plM
  rw [if_neg (show ¬ ((k : Int) < 0) by omega)]
  rfl
theorem plM_up {F0 F : Nat → Int} {v n : Int} (h0 : 0 ≤ v ∧ v < n ∧ n ≤ 16) (hs : ∀ i, i < v.toNat → F i = F0 i) (hu : F0 v.toNat + 1 ≤ F v.toNat) (hz : v + 1 < n → F (v.toNat + 1) = -1) : plM F (v + 1) n < plM F0 v n := by
  obtain ⟨k, rfl⟩ := Int.eq_ofNat_of_zero_le h0.1
  have hk : ((k : Int)).toNat = k := rfl
  rw [hk] at hs hu hz
  rw [plM_eq F (k + 1) (by omega), plM_eq F0 k rfl, if_pos h0.2.1]
  have e : plQ F (k + 1) = plQ F k + F k * 17 ^ (16 - k) := rfl
  have e2 := plQ_congr k hs
  have p := pw17p (16 - k)
  have q := mul_le' hu (show (0 : Int) ≤ 17 ^ (16 - k) by omega)
  by_cases h4 : (k : Int) + 1 < n
  · rw [if_pos (show ((k + 1 : Nat) : Int) < n by omega), hz h4, e, e2]
    have z : ((-1 : Int) + 1) * 17 ^ (16 - (k + 1)) = 0 := by simp
    rw [z]; omega
  · rw [if_neg (show ¬ ((k + 1 : Nat) : Int) < n by omega), e, e2]; omega
theorem plM_dn {F0 F : Nat → Int} {v n : Int} (h0 : 0 ≤ v ∧ v < n ∧ n ≤ 16) (hs : ∀ i, i < v.toNat → F i = F0 i) (hu : F0 v.toNat ≤ 15) (h1 : 1 ≤ plM F0 v n) : plM F (v - 1) n < plM F0 v n := by
  obtain ⟨k, rfl⟩ := Int.eq_ofNat_of_zero_le h0.1
  have hk : ((k : Int)).toNat = k := rfl
  rw [hk] at hs hu
  cases k with
  | zero =>
    have e : plM F (((0 : Nat) : Int) - 1) n = 0 := by unfold plM; rw [if_pos (by omega)]
    rw [e]; omega
  | succ j =>
    have e1 : (((j + 1 : Nat) : Int) - 1) = (j : Int) := by omega
    rw [plM_eq F j e1, plM_eq F0 (j + 1) rfl, if_pos (show (j : Int) < n by omega), if_pos h0.2.1]
    have e : plQ F0 (j + 1) = plQ F0 j + F0 j * 17 ^ (16 - j) := rfl
    have e2 : plQ F j = plQ F0 j := plQ_congr j (fun i hi => hs i (by omega))
    have e3 := hs j (by omega)
    have p := pw17p (16 - (j + 1))
    have e4 : (17 : Int) ^ (16 - j) = 17 * 17 ^ (16 - (j + 1)) := by
      rw [show 16 - j = (16 - (j + 1)) + 1 by omega, Int.pow_succ, Int.mul_comm]
    have q := mul_le' (show F0 (j + 1) + 1 ≤ 16 by omega) (show (0 : Int) ≤ 17 ^ (16 - (j + 1)) by omega)
    have e5 : (F0 j + 1) * 17 ^ (16 - j) = F0 j * 17 ^ (16 - j) + 17 ^ (16 - j) := by rw [Int.add_mul, Int.one_mul]
    rw [e, e2, e3]
    omega
theorem plM_nn {F : Nat → Int} {v n : Int} (h : Rfx 16 (-1) 15 F) (h1 : Pfx F v) (h0 : -1 ≤ v ∧ v ≤ n ∧ n ≤ 16) : 0 ≤ plM F v n ∧ (0 ≤ v → 1 ≤ plM F v n) :=
  plM_0 h0 (fun i hi => ⟨h1 i hi, (h i (by omega)).2⟩) (fun h2 h3 => h _ (by omega))
theorem plM_u1 {F0 F : Nat → Int} {v n : Int} (h0 : 0 ≤ v ∧ v < n ∧ n ≤ 16) (hs : Sm F0 F v) (hu : F0 v.toNat + 1 ≤ F v.toNat) (hz : n ≤ v + 1) : plM F (v + 1) n < plM F0 v n :=
  plM_up h0 (fun i hi => hs i (by omega)) hu (fun h => by omega)
theorem plM_u2 {F0 F : Nat → Int} {v n : Int} (h0 : 0 ≤ v ∧ v < n ∧ n ≤ 16) (hs : Sm F0 F v) (hu : F0 v.toNat + 1 ≤ F v.toNat) : plM (fup F (v + 1).toNat (-1)) (v + 1) n < plM F0 v n := by
  have e : (v + 1).toNat = v.toNat + 1 := by omega
  refine plM_up h0 (fun i hi => ?_) ?_ (fun _ => by rw [e, fup_s])
  · rw [fup_o _ _ (by omega)]; exact hs i (by omega)
  · rw [fup_o _ _ (by omega)]; exact hu
theorem plM_d1 {F0 F : Nat → Int} {v n : Int} (h0 : 0 ≤ v ∧ v < n ∧ n ≤ 16) (hr : Rfx 16 (-1) 15 F0) (hp : Pfx F0 v) (hs : Sm F0 F v) : plM F (v - 1) n < plM F0 v n :=
  plM_dn h0 (fun i hi => hs i (by omega)) ((hr _ (by omega)).2) ((plM_nn hr hp (by omega)).2 h0.1)
set_option maxHeartbeats 4000000 in
set_option maxRecDepth 100000 in
theorem t_X12_place {D : va_G} {cI cJ cZ cT : ClassId} {lo b L : Nat} {xs : Nat → Int32} {hp : MH} {n d : Nat} {Γ : TG} {y : Nat} {rf cnt nm : Int32} {x1 x2 : Int} (hd0 : 3 ≤ d) (hO : rd Γ y (tO 11 (mdF y rf cnt nm))) (hA_sizes : rd Γ (y + 2) (tI cI 121 (rg 0 16))) (hA_directs : rd Γ (y + 3) (tI cZ 121 (rg 0 1))) (hA_many : rd Γ (y + 4) (tI cI 121 (rg 0 60))) (hA_from : rd Γ (y + 5) (tI cI 7260 (rg 0 15))) (hA_to : rd Γ (y + 6) (tI cI 7260 (rg 0 15))) (hA_weight : rd Γ (y + 7) (tI cI 7260 (rg (-1000) 1000))) (hA_cost : rd Γ (y + 8) (tI cI 7260 (rg (-1000) 1000))) (hA_image : Γ (y + 42) = some (tI cI 16 (rg (-1) 15))) (ht : Tw Γ hp) (hx1 : 0 ≤ x1 ∧ x1 ≤ 120) (hx2 : 0 ≤ x2 ∧ x2 ≤ 120) : Mt (gG D cI cJ cZ cT lo b L xs) mX12_place d 0 0 [.ref y, .int (iv x1), .int (iv x2)] hp n (pR Γ n 0 1) := by
  refine Mt.of rfl (Nat.le_of_ble_eq_true rfl) ?_
  refine Rn.pick (lv' := [(0, .ref y), (1, .int (iv x1)), (2, .int (iv x2))]) [0, 1, 2] rfl ?_
  obtain ⟨F0, hF0, ht0⟩ := ht.openI (rd_of hA_image)
  have hR0 : Rfx 16 (-1) 15 F0 := fun i hi => (hF0 i hi).1
  refine r_aload_n (pc := 0) dX12_place_0 (i := 0) rfl rfl ?_
  refine t_getE (pc := 1) (.ref (y + 2)) ht0 (rd_ov (by omega) hO) fX12_13 dX12_place_1 rfl ?_
  refine r_iload_n (pc := 4) dX12_place_4 (i := 1) rfl rfl ?_
  refine t_ialdR (pc := 5) (t0 := 0) ht0 (rd_ov (by omega) hA_sizes) dX12_place_5 rfl (by decide) (by omega) (fun y1 by1 => ?_)
  refine r_istore_n (pc := 6) (lv' := [(3, .int (iv y1)), (0, .ref y), (1, .int (iv x1)), (2, .int (iv x2))]) dX12_place_6 (i := 3) rfl (by decide) rfl ?_
  refine r_iconst (pc := 7) (v := iv 0) dX12_place_7 (by decide) ?_
  refine r_istore (pc := 8) (lv' := [(4, .int (iv 0)), (3, .int (iv y1)), (0, .ref y), (1, .int (iv x1)), (2, .int (iv x2))]) dX12_place_8 (by decide) rfl ?_
  refine r_iconst (pc := 10) (v := iv 0) dX12_place_10 (by decide) ?_
  refine r_istore (pc := 11) (lv' := [(5, .int (iv 0)), (4, .int (iv 0)), (3, .int (iv y1)), (0, .ref y), (1, .int (iv x1)), (2, .int (iv x2))]) dX12_place_11 (by decide) rfl ?_
  refine r_aload_n (pc := 13) dX12_place_13 (i := 0) rfl rfl ?_
  refine t_getE (pc := 14) (.ref (y + 42)) ht0 (rd_ov (by omega) hO) fX12_136 dX12_place_14 rfl ?_
  refine r_iconst (pc := 17) (v := iv 0) dX12_place_17 (by decide) ?_
  refine r_iconst (pc := 18) (v := iv (-1)) dX12_place_18 (by decide) ?_
  refine t_iastX (pc := 19) (t0 := 0) ht0 (ov_s _ _ _) dX12_place_19 rfl (by decide) (by omega) (by omega) (fun hp2 ht3 => ?_)
  rw [ov_ov] at ht3
  have hR19 : Rfx 16 (-1) 15 (fup F0 (Int.toNat 0) (-1)) := Rfx_up (by assumption) (by omega)
  have hP19 : Pfx (fup F0 (Int.toNat 0) (-1)) 0 := Pfx_0 _
  have B20 : ∀ k : Nat, ∀ F20 : Nat → Int, ∀ hp20 : MH, Tw (ov Γ (y + 42) (xI cI 16 F20)) hp20 → ∀  (v20_4 : Int) (v20_5 : Int), (-2147483648) ≤ v20_4 ∧ v20_4 ≤ 2147483647 ∧ (-1) ≤ v20_5 ∧ v20_5 ≤ 16 ∧ v20_5 ≤ y1 ∧ Rfx 16 (-1) 15 F20 ∧ Pfx F20 v20_5 → plM F20 v20_5 y1 ≤ (k : Int) → Rn (gG D cI cJ cZ cT lo b L xs) mX12_place d 20 [(0, .ref y), (1, .int (iv x1)), (2, .int (iv x2)), (3, .int (iv y1)), (4, .int (iv v20_4)), (5, .int (iv v20_5))] [] hp20 n 0 0 (pR Γ n 0 1) := by
    refine lpS _ ?_
    intro k20 ih20 F20 hp20 ht20 v20_4 v20_5 hf20 hm20
    obtain ⟨hf20_0, hf20_1, hf20_2, hf20_3, hf20_4, ha20_5, ha20_6⟩ := hf20
    refine r_iload (pc := 20) dX12_place_20 rfl ?_
    have B174 : ∀ hp174 : MH, Tw (ov Γ (y + 42) (xI cI 16 F20)) hp174 → True → Rn (gG D cI cJ cZ cT lo b L xs) mX12_place d 174 [(3, .int (iv y1)), (5, .int (iv v20_5))] [] hp174 n 0 0 (pR Γ n 0 1) := by
      intro hp174 ht174 hf174
      refine r_iload (pc := 174) dX12_place_174 rfl ?_
      refine r_iload_n (pc := 176) dX12_place_176 (i := 3) rfl rfl ?_
      have B185 : ∀ hp185 : MH, Tw (ov Γ (y + 42) (xI cI 16 F20)) hp185 → ∀  (u185_0 : Int), 0 ≤ u185_0 ∧ u185_0 ≤ 1 → Rn (gG D cI cJ cZ cT lo b L xs) mX12_place d 185 [] [.int (iv u185_0)] hp185 n 0 0 (pR Γ n 0 1) := by
        intro hp185 ht185 u185_0 hf185
        exact r_zret (pc := 185) dX12_place_185 rfl (iv_nar (by omega)) ⟨rfl, (Tw.closeI ht185 hA_image (show Rfx 16 (-1) 15 F20 by assumption)), _, rfl, by omega, by omega⟩
      refine t_icmp_ne (pc := 177) (tgt := 184) dX12_place_177 (by decide) (by omega) (by omega) (fun c177 => ?_) (fun c177 => ?_)
      · refine r_iconst (pc := 184) (v := iv 0) dX12_place_184 (by decide) ?_
        refine Rn.pick (lv' := []) [] rfl ?_
        exact B185 _ ht174 0 ⟨by omega, by omega⟩
      · refine r_iconst (pc := 180) (v := iv 1) dX12_place_180 (by decide) ?_
        refine r_goto (pc := 181) (tgt := 185) dX12_place_181 (by decide) ?_
        refine Rn.pick (lv' := []) [] rfl ?_
        exact B185 _ ht174 1 ⟨by omega, by omega⟩
    refine t_if_lt (pc := 22) (tgt := 174) dX12_place_22 (by decide) (by omega) (fun c22 => ?_) (fun c22 => ?_)
    · refine Rn.pick (lv' := [(3, .int (iv y1)), (5, .int (iv v20_5))]) [3, 5] rfl ?_
      exact B174 _ ht20 trivial
    · refine r_iload (pc := 25) dX12_place_25 rfl ?_
      refine r_iload_n (pc := 27) dX12_place_27 (i := 3) rfl rfl ?_
      refine t_icmp_ge (pc := 28) (tgt := 174) dX12_place_28 (by decide) (by omega) (by omega) (fun c28 => ?_) (fun c28 => ?_)
      · refine Rn.pick (lv' := [(3, .int (iv y1)), (5, .int (iv v20_5))]) [3, 5] rfl ?_
        exact B174 _ ht20 trivial
      · refine r_iload (pc := 31) dX12_place_31 rfl ?_
        refine r_aload_n (pc := 33) dX12_place_33 (i := 0) rfl rfl ?_
        refine t_getE (pc := 34) (.ref (y + 42)) ht20 (rd_ov (by omega) hO) fX12_136 dX12_place_34 rfl ?_
        refine r_iload (pc := 37) dX12_place_37 rfl ?_
        refine t_ialdX (pc := 39) (t0 := 0) ht20 (rd_of (ov_s _ _ _)) dX12_place_39 rfl (by decide) (by omega) (fun b4 => ?_)
        have rb4 := (show Rfx 16 (-1) 15 F20 by assumption) (Int.toNat v20_5) (by omega)
        have B58 : ∀ hp58 : MH, Tw (ov Γ (y + 42) (xI cI 16 F20)) hp58 → ∀  (u58_1 : Int), (-2147483648) ≤ u58_1 ∧ u58_1 ≤ 2147483647 → Rn (gG D cI cJ cZ cT lo b L xs) mX12_place d 58 [(0, .ref y), (1, .int (iv x1)), (2, .int (iv x2)), (3, .int (iv y1)), (5, .int (iv v20_5))] [.int (iv u58_1), .int (iv v20_4)] hp58 n 0 0 (pR Γ n 0 1) := by
          intro hp58 ht58 u58_1 hf58
          obtain ⟨z5, hz5, bz5⟩ := any_i (iv v20_4 &&& iv u58_1)
          refine r_iand (pc := 58) (v := iv z5) dX12_place_58 hz5 ?_
          refine r_istore (pc := 59) (lv' := [(4, .int (iv z5)), (0, .ref y), (1, .int (iv x1)), (2, .int (iv x2)), (3, .int (iv y1)), (5, .int (iv v20_5))]) dX12_place_59 (by decide) rfl ?_
          refine r_aload_n (pc := 61) dX12_place_61 (i := 0) rfl rfl ?_
          refine t_getE (pc := 62) (.ref (y + 42)) ht58 (rd_ov (by omega) hO) fX12_136 dX12_place_62 rfl ?_
          refine r_iload (pc := 65) dX12_place_65 rfl ?_
          refine t_ialdX (pc := 67) (t0 := 0) ht58 (rd_of (ov_s _ _ _)) dX12_place_67 rfl (by decide) (by omega) (fun b6 => ?_)
          have rb6 := (show Rfx 16 (-1) 15 F20 by assumption) (Int.toNat v20_5) (by omega)
          refine r_iconst (pc := 68) (v := iv 1) dX12_place_68 (by decide) ?_
          refine r_iadd (pc := 69) (v := iv ((F20 (Int.toNat v20_5)) + 1)) dX12_place_69 (iv_add _ _) ?_
          refine r_istore (pc := 70) (lv' := [(6, .int (iv ((F20 (Int.toNat v20_5)) + 1))), (4, .int (iv z5)), (0, .ref y), (1, .int (iv x1)), (2, .int (iv x2)), (3, .int (iv y1)), (5, .int (iv v20_5))]) dX12_place_70 (by decide) rfl ?_
          refine r_iconst (pc := 72) (v := iv 0) dX12_place_72 (by decide) ?_
          refine r_istore (pc := 73) (lv' := [(7, .int (iv 0)), (6, .int (iv ((F20 (Int.toNat v20_5)) + 1))), (4, .int (iv z5)), (0, .ref y), (1, .int (iv x1)), (2, .int (iv x2)), (3, .int (iv y1)), (5, .int (iv v20_5))]) dX12_place_73 (by decide) rfl ?_
          have hS73 : Sm F20 F20 v20_5 := Sm_rf _ _
          have B75 : ∀ k : Nat, ∀ F75 : Nat → Int, ∀ hp75 : MH, Tw (ov Γ (y + 42) (xI cI 16 F75)) hp75 → ∀  (v75_6 : Int) (v75_7 : Int), 0 ≤ v75_6 ∧ v75_6 ≤ 16 ∧ (F20 (Int.toNat v20_5)) + 1 ≤ v75_6 ∧ 0 ≤ v75_7 ∧ v75_7 ≤ 1 ∧ F20 v20_5.toNat + 1 ≤ v75_6 ∧ (v75_7 = 1 → F75 v20_5.toNat = v75_6 - 1 ∧ F20 v20_5.toNat + 1 ≤ v75_6 - 1) ∧ Rfx 16 (-1) 15 F75 ∧ Sm F20 F75 v20_5 → 16 - v75_6 ≤ (k : Int) → Rn (gG D cI cJ cZ cT lo b L xs) mX12_place d 75 [(0, .ref y), (1, .int (iv x1)), (2, .int (iv x2)), (3, .int (iv y1)), (4, .int (iv z5)), (5, .int (iv v20_5)), (6, .int (iv v75_6)), (7, .int (iv v75_7))] [] hp75 n 0 0 (pR Γ n 0 1) := by
            refine lpS _ ?_
            intro k75 ih75 F75 hp75 ht75 v75_6 v75_7 hf75 hm75
            obtain ⟨hf75_0, hf75_1, hf75_2, hf75_3, hf75_4, hf75_5, hf75_6, ha75_7, ha75_8⟩ := hf75
            refine r_iload (pc := 75) dX12_place_75 rfl ?_
            refine r_iload_n (pc := 77) dX12_place_77 (i := 3) rfl rfl ?_
            have B129 : ∀ hp129 : MH, Tw (ov Γ (y + 42) (xI cI 16 F75)) hp129 → True → Rn (gG D cI cJ cZ cT lo b L xs) mX12_place d 129 [(0, .ref y), (1, .int (iv x1)), (2, .int (iv x2)), (3, .int (iv y1)), (4, .int (iv z5)), (5, .int (iv v20_5)), (7, .int (iv v75_7))] [] hp129 n 0 0 (pR Γ n 0 1) := by
              intro hp129 ht129 hf129
              refine r_iload (pc := 129) dX12_place_129 rfl ?_
              have B171 : ∀ F171 : Nat → Int, ∀ hp171 : MH, Tw (ov Γ (y + 42) (xI cI 16 F171)) hp171 → ∀  (v171_4 : Int) (v171_5 : Int), (-2147483648) ≤ v171_4 ∧ v171_4 ≤ 2147483647 ∧ (-1) ≤ v171_5 ∧ v171_5 ≤ 16 ∧ v171_5 ≤ y1 ∧ Rfx 16 (-1) 15 F171 ∧ Pfx F171 v171_5 ∧ plM F171 v171_5 y1 < plM F20 v20_5 y1 ∧ 0 ≤ plM F171 v171_5 y1 → Rn (gG D cI cJ cZ cT lo b L xs) mX12_place d 171 [(0, .ref y), (1, .int (iv x1)), (2, .int (iv x2)), (3, .int (iv y1)), (4, .int (iv v171_4)), (5, .int (iv v171_5))] [] hp171 n 0 0 (pR Γ n 0 1) := by
                intro F171 hp171 ht171 v171_4 v171_5 hf171
                obtain ⟨hf171_0, hf171_1, hf171_2, hf171_3, hf171_4, ha171_5, ha171_6, ha171_7, ha171_8⟩ := hf171
                refine r_goto (pc := 171) (tgt := 20) dX12_place_171 (by decide) ?_
                refine Rn.pick (lv' := [(0, .ref y), (1, .int (iv x1)), (2, .int (iv x2)), (3, .int (iv y1)), (4, .int (iv v171_4)), (5, .int (iv v171_5))]) [0, 1, 2, 3, 4, 5] rfl ?_
                exact ih20 (Int.toNat (plM F171 v171_5 y1)) (by omega) F171 _ ht171 v171_4 v171_5 ⟨by omega, by omega, by omega, by omega, by omega, by assumption, by assumption⟩ (by omega)
              refine t_if_eq (pc := 131) (tgt := 168) dX12_place_131 (by decide) (by omega) (fun c131 => ?_) (fun c131 => ?_)
              · refine r_iinc (pc := 168) (v := iv (v20_5 - 1)) (lv' := [(5, .int (iv (v20_5 - 1))), (0, .ref y), (1, .int (iv x1)), (2, .int (iv x2)), (3, .int (iv y1)), (4, .int (iv z5)), (7, .int (iv v75_7))]) dX12_place_168 rfl ((iv_add _ _).trans (congrArg iv (show v20_5 + (-1) = v20_5 - 1 by omega))) (by decide) rfl ?_
                have hP168 : Pfx F75 (v20_5 - 1) := Pfx_dn (F0 := F20) (by assumption) (by assumption)
                have hM168 : plM F75 (v20_5 - 1) y1 < plM F20 v20_5 y1 := plM_d1 (by omega) (by assumption) (by assumption) (by assumption)
                refine Rn.pick (lv' := [(0, .ref y), (1, .int (iv x1)), (2, .int (iv x2)), (3, .int (iv y1)), (4, .int (iv z5)), (5, .int (iv (v20_5 - 1)))]) [1, 2, 3, 4, 5, 0] rfl ?_
                exact B171 F75 _ ht129 z5 (v20_5 - 1) ⟨by omega, by omega, by omega, by omega, by omega, by assumption, by assumption, by first | assumption | exact plM_u1 (by omega) (by assumption) (by omega) (by omega), by exact (plM_nn (by assumption) (by assumption) (by omega)).1⟩
              · refine r_iload (pc := 134) dX12_place_134 rfl ?_
                refine r_iconst (pc := 136) (v := iv 1) dX12_place_136 (by decide) ?_
                refine r_aload_n (pc := 137) dX12_place_137 (i := 0) rfl rfl ?_
                refine t_getE (pc := 138) (.ref (y + 42)) ht129 (rd_ov (by omega) hO) fX12_136 dX12_place_138 rfl ?_
                refine r_iload (pc := 141) dX12_place_141 rfl ?_
                refine t_ialdX (pc := 143) (t0 := 0) ht129 (rd_of (ov_s _ _ _)) dX12_place_143 rfl (by decide) (by omega) (fun b7 => ?_)
                have rb7 := (show Rfx 16 (-1) 15 F75 by assumption) (Int.toNat v20_5) (by omega)
                obtain ⟨z8, hz8, bz8⟩ := any_i (iv 1 <<< (iv (F75 (Int.toNat v20_5)) &&& 31))
                refine r_ishl (pc := 144) (v := iv z8) dX12_place_144 hz8 ?_
                obtain ⟨z9, hz9, bz9⟩ := any_i (iv z5 ||| iv z8)
                refine r_ior (pc := 145) (v := iv z9) dX12_place_145 hz9 ?_
                refine r_istore (pc := 146) (lv' := [(4, .int (iv z9)), (0, .ref y), (1, .int (iv x1)), (2, .int (iv x2)), (3, .int (iv y1)), (5, .int (iv v20_5)), (7, .int (iv v75_7))]) dX12_place_146 (by decide) rfl ?_
                refine r_iinc (pc := 148) (v := iv (v20_5 + 1)) (lv' := [(5, .int (iv (v20_5 + 1))), (4, .int (iv z9)), (0, .ref y), (1, .int (iv x1)), (2, .int (iv x2)), (3, .int (iv y1)), (7, .int (iv v75_7))]) dX12_place_148 rfl (iv_add _ _) (by decide) rfl ?_
                have hP148 : Pfx F75 (v20_5 + 1) := Pfx_step (F0 := F20) (by assumption) (by assumption) (by omega) (by omega)
                refine r_iload (pc := 151) dX12_place_151 rfl ?_
                refine r_iload_n (pc := 153) dX12_place_153 (i := 3) rfl rfl ?_
                refine t_icmp_ge (pc := 154) (tgt := 171) dX12_place_154 (by decide) (by omega) (by omega) (fun c154 => ?_) (fun c154 => ?_)
                · refine Rn.pick (lv' := [(0, .ref y), (1, .int (iv x1)), (2, .int (iv x2)), (3, .int (iv y1)), (4, .int (iv z9)), (5, .int (iv (v20_5 + 1)))]) [2, 3, 4, 5, 1, 0] rfl ?_
                  exact B171 F75 _ ht129 z9 (v20_5 + 1) ⟨by omega, by omega, by omega, by omega, by omega, by assumption, by assumption, by first | assumption | exact plM_u1 (by omega) (by assumption) (by omega) (by omega), by exact (plM_nn (by assumption) (by assumption) (by omega)).1⟩
                · refine r_aload_n (pc := 157) dX12_place_157 (i := 0) rfl rfl ?_
                  refine t_getE (pc := 158) (.ref (y + 42)) ht129 (rd_ov (by omega) hO) fX12_136 dX12_place_158 rfl ?_
                  refine r_iload (pc := 161) dX12_place_161 rfl ?_
                  refine r_iconst (pc := 163) (v := iv (-1)) dX12_place_163 (by decide) ?_
                  refine t_iastX (pc := 164) (t0 := 0) ht129 (ov_s _ _ _) dX12_place_164 rfl (by decide) (by omega) (by omega) (fun hp10 ht11 => ?_)
                  rw [ov_ov] at ht11
                  have hR164 : Rfx 16 (-1) 15 (fup F75 (Int.toNat (v20_5 + 1)) (-1)) := Rfx_up (by assumption) (by omega)
                  have hP164 : Pfx (fup F75 (Int.toNat (v20_5 + 1)) (-1)) (v20_5 + 1) := Pfx_up (by assumption)
                  have hM164 : plM (fup F75 (Int.toNat (v20_5 + 1)) (-1)) (v20_5 + 1) y1 < plM F20 v20_5 y1 := plM_u2 (by omega) (by assumption) (by omega)
                  refine r_goto (pc := 165) (tgt := 171) dX12_place_165 (by decide) ?_
                  refine Rn.pick (lv' := [(0, .ref y), (1, .int (iv x1)), (2, .int (iv x2)), (3, .int (iv y1)), (4, .int (iv z9)), (5, .int (iv (v20_5 + 1)))]) [2, 3, 4, 5, 1, 0] rfl ?_
                  exact B171 (fup F75 (Int.toNat (v20_5 + 1)) (-1)) _ ht11 z9 (v20_5 + 1) ⟨by omega, by omega, by omega, by omega, by omega, by assumption, by assumption, by first | assumption | exact plM_u1 (by omega) (by assumption) (by omega) (by omega), by exact (plM_nn (by assumption) (by assumption) (by omega)).1⟩
            refine t_icmp_ge (pc := 78) (tgt := 129) dX12_place_78 (by decide) (by omega) (by omega) (fun c78 => ?_) (fun c78 => ?_)
            · refine Rn.pick (lv' := [(0, .ref y), (1, .int (iv x1)), (2, .int (iv x2)), (3, .int (iv y1)), (4, .int (iv z5)), (5, .int (iv v20_5)), (7, .int (iv v75_7))]) [0, 1, 2, 3, 4, 5, 7] rfl ?_
              exact B129 _ ht75 trivial
            · refine r_iload (pc := 81) dX12_place_81 rfl ?_
              refine t_if_ne (pc := 83) (tgt := 129) dX12_place_83 (by decide) (by omega) (fun c83 => ?_) (fun c83 => ?_)
              · refine Rn.pick (lv' := [(0, .ref y), (1, .int (iv x1)), (2, .int (iv x2)), (3, .int (iv y1)), (4, .int (iv z5)), (5, .int (iv v20_5)), (7, .int (iv v75_7))]) [0, 1, 2, 3, 4, 5, 7] rfl ?_
                exact B129 _ ht75 trivial
              · refine r_aload_n (pc := 86) dX12_place_86 (i := 0) rfl rfl ?_
                refine t_getE (pc := 87) (.ref (y + 42)) ht75 (rd_ov (by omega) hO) fX12_136 dX12_place_87 rfl ?_
                refine r_iload (pc := 90) dX12_place_90 rfl ?_
                refine r_iload (pc := 92) dX12_place_92 rfl ?_
                refine t_iastX (pc := 94) (t0 := 0) ht75 (ov_s _ _ _) dX12_place_94 rfl (by decide) (by omega) (by omega) (fun hp12 ht13 => ?_)
                rw [ov_ov] at ht13
                have hR94 : Rfx 16 (-1) 15 (fup F75 (Int.toNat v20_5) v75_6) := Rfx_up (by assumption) (by omega)
                have hS94 : Sm F20 (fup F75 (Int.toNat v20_5) v75_6) v20_5 := Sm_up (by assumption)
                have hV94 : (fup F75 (Int.toNat v20_5) v75_6) v20_5.toNat = v75_6 := fup_s _ _ _
                refine r_iload (pc := 95) dX12_place_95 rfl ?_
                refine r_iload (pc := 97) dX12_place_97 rfl ?_
                obtain ⟨z14, hz14, bz14⟩ := any_i (iv z5 >>> (iv v75_6 &&& 31))
                refine r_ishr (pc := 99) (v := iv z14) dX12_place_99 hz14 ?_
                refine r_iconst (pc := 100) (v := iv 1) dX12_place_100 (by decide) ?_
                obtain ⟨z15, hz15, bz15⟩ := and_r z14 1 (by omega) (by omega)
                refine r_iand (pc := 101) (v := iv z15) dX12_place_101 hz15 ?_
                have B121 : ∀ hp121 : MH, Tw (ov Γ (y + 42) (xI cI 16 (fup F75 (Int.toNat v20_5) v75_6))) hp121 → ∀  (u121_0 : Int), 0 ≤ u121_0 ∧ u121_0 ≤ 1 → Rn (gG D cI cJ cZ cT lo b L xs) mX12_place d 121 [(0, .ref y), (1, .int (iv x1)), (2, .int (iv x2)), (3, .int (iv y1)), (4, .int (iv z5)), (5, .int (iv v20_5)), (6, .int (iv v75_6))] [.int (iv u121_0)] hp121 n 0 0 (pR Γ n 0 1) := by
                  intro hp121 ht121 u121_0 hf121
                  refine r_istore (pc := 121) (lv' := [(7, .int (iv u121_0)), (0, .ref y), (1, .int (iv x1)), (2, .int (iv x2)), (3, .int (iv y1)), (4, .int (iv z5)), (5, .int (iv v20_5)), (6, .int (iv v75_6))]) dX12_place_121 (by decide) rfl ?_
                  refine r_iinc (pc := 123) (v := iv (v75_6 + 1)) (lv' := [(6, .int (iv (v75_6 + 1))), (7, .int (iv u121_0)), (0, .ref y), (1, .int (iv x1)), (2, .int (iv x2)), (3, .int (iv y1)), (4, .int (iv z5)), (5, .int (iv v20_5))]) dX12_place_123 rfl (iv_add _ _) (by decide) rfl ?_
                  refine r_goto (pc := 126) (tgt := 75) dX12_place_126 (by decide) ?_
                  refine Rn.pick (lv' := [(0, .ref y), (1, .int (iv x1)), (2, .int (iv x2)), (3, .int (iv y1)), (4, .int (iv z5)), (5, .int (iv v20_5)), (6, .int (iv (v75_6 + 1))), (7, .int (iv u121_0))]) [2, 3, 4, 5, 6, 7, 0, 1] rfl ?_
                  exact ih75 (Int.toNat (16 - (v75_6 + 1))) (by omega) (fup F75 (Int.toNat v20_5) v75_6) _ ht121 (v75_6 + 1) u121_0 ⟨by omega, by omega, by omega, by omega, by omega, by omega, by omega, by assumption, by assumption⟩ (by omega)
                have B120 : ∀ hp120 : MH, Tw (ov Γ (y + 42) (xI cI 16 (fup F75 (Int.toNat v20_5) v75_6))) hp120 → True → Rn (gG D cI cJ cZ cT lo b L xs) mX12_place d 120 [(0, .ref y), (1, .int (iv x1)), (2, .int (iv x2)), (3, .int (iv y1)), (4, .int (iv z5)), (5, .int (iv v20_5)), (6, .int (iv v75_6))] [] hp120 n 0 0 (pR Γ n 0 1) := by
                  intro hp120 ht120 hf120
                  refine r_iconst (pc := 120) (v := iv 0) dX12_place_120 (by decide) ?_
                  refine Rn.pick (lv' := [(0, .ref y), (1, .int (iv x1)), (2, .int (iv x2)), (3, .int (iv y1)), (4, .int (iv z5)), (5, .int (iv v20_5)), (6, .int (iv v75_6))]) [0, 1, 2, 3, 4, 5, 6] rfl ?_
                  exact B121 _ ht120 0 ⟨by omega, by omega⟩
                refine t_if_ne (pc := 102) (tgt := 120) dX12_place_102 (by decide) (by omega) (fun c102 => ?_) (fun c102 => ?_)
                · refine Rn.pick (lv' := [(0, .ref y), (1, .int (iv x1)), (2, .int (iv x2)), (3, .int (iv y1)), (4, .int (iv z5)), (5, .int (iv v20_5)), (6, .int (iv v75_6))]) [0, 1, 2, 3, 4, 5, 6] rfl ?_
                  exact B120 _ ht13 trivial
                · refine r_aload_n (pc := 105) dX12_place_105 (i := 0) rfl rfl ?_
                  refine r_iload_n (pc := 106) dX12_place_106 (i := 1) rfl rfl ?_
                  refine r_iload_n (pc := 107) dX12_place_107 (i := 2) rfl rfl ?_
                  refine r_iload (pc := 108) dX12_place_108 rfl ?_
                  refine t_callVR (pc := 110) (as := [.int (iv x1), .int (iv x2), .int (iv v20_5)]) (st := []) ht13 (rd_ov (by omega) hO) kX12_391 rfl dX12_place_110 (t_X12_fits (d := d - 1) (x1 := x1) (x2 := x2) (x3 := v20_5) (by omega) (rd_ov (by omega) hO) (rd_ov (by omega) hA_directs) (rd_ov (by omega) hA_many) (rd_ov (by omega) hA_from) (rd_ov (by omega) hA_to) (rd_ov (by omega) hA_weight) (rd_ov (by omega) hA_cost) (rd_xr (rd_of (ov_s _ _ _)) (show Rfx 16 (-1) 15 (fup F75 (Int.toNat v20_5) v75_6) by assumption)) ht13 (by omega) (by omega) (by omega)) rfl (by omega) (Nat.le_of_ble_eq_true rfl) rfl (fun hp16 y18 ht17 by18 => ?_)
                  refine t_if_eq (pc := 113) (tgt := 120) dX12_place_113 (by decide) (by omega) (fun c113 => ?_) (fun c113 => ?_)
                  · refine Rn.pick (lv' := [(0, .ref y), (1, .int (iv x1)), (2, .int (iv x2)), (3, .int (iv y1)), (4, .int (iv z5)), (5, .int (iv v20_5)), (6, .int (iv v75_6))]) [0, 1, 2, 3, 4, 5, 6] rfl ?_
                    exact B120 _ ht17 trivial
                  · refine r_iconst (pc := 116) (v := iv 1) dX12_place_116 (by decide) ?_
                    refine r_goto (pc := 117) (tgt := 121) dX12_place_117 (by decide) ?_
                    refine Rn.pick (lv' := [(0, .ref y), (1, .int (iv x1)), (2, .int (iv x2)), (3, .int (iv y1)), (4, .int (iv z5)), (5, .int (iv v20_5)), (6, .int (iv v75_6))]) [0, 1, 2, 3, 4, 5, 6] rfl ?_
                    exact B121 _ ht17 1 ⟨by omega, by omega⟩
          refine Rn.pick (lv' := [(0, .ref y), (1, .int (iv x1)), (2, .int (iv x2)), (3, .int (iv y1)), (4, .int (iv z5)), (5, .int (iv v20_5)), (6, .int (iv ((F20 (Int.toNat v20_5)) + 1))), (7, .int (iv 0))]) [3, 4, 5, 6, 2, 7, 1, 0] rfl ?_
          exact B75 (Int.toNat (16 - ((F20 (Int.toNat v20_5)) + 1))) F20 _ ht58 ((F20 (Int.toNat v20_5)) + 1) 0 ⟨by omega, by omega, by omega, by omega, by omega, by omega, by omega, by assumption, by assumption⟩ (by omega)
        refine t_if_ge (pc := 40) (tgt := 47) dX12_place_40 (by decide) (by omega) (fun c40 => ?_) (fun c40 => ?_)
        · refine r_iconst (pc := 47) (v := iv 1) dX12_place_47 (by decide) ?_
          refine r_aload_n (pc := 48) dX12_place_48 (i := 0) rfl rfl ?_
          refine t_getE (pc := 49) (.ref (y + 42)) ht20 (rd_ov (by omega) hO) fX12_136 dX12_place_49 rfl ?_
          refine r_iload (pc := 52) dX12_place_52 rfl ?_
          refine t_ialdX (pc := 54) (t0 := 0) ht20 (rd_of (ov_s _ _ _)) dX12_place_54 rfl (by decide) (by omega) (fun b19 => ?_)
          have rb19 := (show Rfx 16 (-1) 15 F20 by assumption) (Int.toNat v20_5) (by omega)
          obtain ⟨z20, hz20, bz20⟩ := any_i (iv 1 <<< (iv (F20 (Int.toNat v20_5)) &&& 31))
          refine r_ishl (pc := 55) (v := iv z20) dX12_place_55 hz20 ?_
          refine r_iconst (pc := 56) (v := iv (-1)) dX12_place_56 (by decide) ?_
          refine r_ixor (pc := 57) (v := iv (-z20 - 1)) dX12_place_57 (iv_not _) ?_
          refine Rn.pick (lv' := [(0, .ref y), (1, .int (iv x1)), (2, .int (iv x2)), (3, .int (iv y1)), (5, .int (iv v20_5))]) [0, 1, 2, 3, 5] rfl ?_
          exact B58 _ ht20 (-z20 - 1) ⟨by omega, by omega⟩
        · refine r_iconst (pc := 43) (v := iv (-1)) dX12_place_43 (by decide) ?_
          refine r_goto (pc := 44) (tgt := 58) dX12_place_44 (by decide) ?_
          refine Rn.pick (lv' := [(0, .ref y), (1, .int (iv x1)), (2, .int (iv x2)), (3, .int (iv y1)), (5, .int (iv v20_5))]) [0, 1, 2, 3, 5] rfl ?_
          exact B58 _ ht20 (-1) ⟨by omega, by omega⟩
  refine Rn.pick (lv' := [(0, .ref y), (1, .int (iv x1)), (2, .int (iv x2)), (3, .int (iv y1)), (4, .int (iv 0)), (5, .int (iv 0))]) [3, 4, 5, 2, 1, 0] rfl ?_
  exact B20 (Int.toNat (plM (fup F0 (Int.toNat 0) (-1)) 0 y1)) (fup F0 (Int.toNat 0) (-1)) _ ht3 0 0 ⟨by omega, by omega, by omega, by omega, by omega, by assumption, by assumption⟩ (by omega)
set_option maxHeartbeats 4000000 in
set_option maxRecDepth 100000 in
theorem t_X12_alike {D : va_G} {cI cJ cZ cT : ClassId} {lo b L : Nat} {xs : Nat → Int32} {hp : MH} {n d : Nat} {Γ : TG} {y : Nat} {rf cnt nm : Int32} {x1 x2 x3 x4 : Int} (hd0 : 4 ≤ d) (hO : rd Γ y (tO 11 (mdF y rf cnt nm))) (hA_sizes : rd Γ (y + 2) (tI cI 121 (rg 0 16))) (hA_directs : rd Γ (y + 3) (tI cZ 121 (rg 0 1))) (hA_many : rd Γ (y + 4) (tI cI 121 (rg 0 60))) (hA_from : rd Γ (y + 5) (tI cI 7260 (rg 0 15))) (hA_to : rd Γ (y + 6) (tI cI 7260 (rg 0 15))) (hA_weight : rd Γ (y + 7) (tI cI 7260 (rg (-1000) 1000))) (hA_cost : rd Γ (y + 8) (tI cI 7260 (rg (-1000) 1000))) (hA_image : Γ (y + 42) = some (tI cI 16 (rg (-1) 15))) (ht : Tw Γ hp) (hx1 : 0 ≤ x1 ∧ x1 ≤ 120) (hx2 : 0 ≤ x2 ∧ x2 ≤ 120) (hx3 : 0 ≤ x3 ∧ x3 ≤ 1) (hx4 : 0 ≤ x4 ∧ x4 ≤ 15) : Mt (gG D cI cJ cZ cT lo b L xs) mX12_alike d 0 0 [.ref y, .int (iv x1), .int (iv x2), .int (iv x3), .int (iv x4)] hp n (pJ Γ n yes64) := by
  refine Mt.of rfl (Nat.le_of_ble_eq_true rfl) ?_
  refine Rn.pick (lv' := [(0, .ref y), (1, .int (iv x1)), (2, .int (iv x2)), (3, .int (iv x3)), (4, .int (iv x4))]) [0, 1, 2, 3, 4] rfl ?_
  refine r_aload_n (pc := 0) dX12_alike_0 (i := 0) rfl rfl ?_
  refine t_getE (pc := 1) (.ref (y + 2)) ht hO fX12_13 dX12_alike_1 rfl ?_
  refine r_iload_n (pc := 4) dX12_alike_4 (i := 1) rfl rfl ?_
  refine t_ialdR (pc := 5) (t0 := 0) ht hA_sizes dX12_alike_5 rfl (by decide) (by omega) (fun y1 by1 => ?_)
  refine r_aload_n (pc := 6) dX12_alike_6 (i := 0) rfl rfl ?_
  refine t_getE (pc := 7) (.ref (y + 2)) ht hO fX12_13 dX12_alike_7 rfl ?_
  refine r_iload_n (pc := 10) dX12_alike_10 (i := 2) rfl rfl ?_
  refine t_ialdR (pc := 11) (t0 := 0) ht hA_sizes dX12_alike_11 rfl (by decide) (by omega) (fun y2 by2 => ?_)
  have B59 : ∀ hp59 : MH, Tw Γ hp59 → ∀  (u59_0 : Int), 0 ≤ u59_0 ∧ u59_0 ≤ 1 → Rn (gG D cI cJ cZ cT lo b L xs) mX12_alike d 59 [(0, .ref y), (3, .int (iv x3)), (4, .int (iv x4))] [.int (iv u59_0)] hp59 n 0 0 (pJ Γ n yes64) := by
    intro hp59 ht59 u59_0 hf59
    refine r_istore (pc := 59) (lv' := [(5, .int (iv u59_0)), (0, .ref y), (3, .int (iv x3)), (4, .int (iv x4))]) dX12_alike_59 (by decide) rfl ?_
    refine r_iload_n (pc := 61) dX12_alike_61 (i := 3) rfl rfl ?_
    have B97 : ∀ hp97 : MH, Tw Γ hp97 → ∀  (x97_0 : Int64), True → Rn (gG D cI cJ cZ cT lo b L xs) mX12_alike d 97 [] [.long x97_0] hp97 n 0 0 (pJ Γ n yes64) := by
      intro hp97 ht97 x97_0 hf97
      exact r_lret (pc := 97) dX12_alike_97 rfl ⟨rfl, ht97, _, rfl, trivial⟩
    refine t_if_eq (pc := 62) (tgt := 78) dX12_alike_62 (by decide) (by omega) (fun c62 => ?_) (fun c62 => ?_)
    · refine r_iload (pc := 78) dX12_alike_78 rfl ?_
      refine t_if_eq (pc := 80) (tgt := 94) dX12_alike_80 (by decide) (by omega) (fun c80 => ?_) (fun c80 => ?_)
      · refine r_ldc2 (pc := 94) (v := (-1)) dX12_alike_94 kX12_357 ?_
        refine Rn.pick (lv' := []) [] rfl ?_
        exact B97 _ ht59 ((-1) : Int64) trivial
      · refine r_aload_n (pc := 83) dX12_alike_83 (i := 0) rfl rfl ?_
        refine t_getE (pc := 84) (.ref (y + 42)) ht59 hO fX12_136 dX12_alike_84 rfl ?_
        refine r_iload (pc := 87) dX12_alike_87 rfl ?_
        refine t_ialdR (pc := 89) (t0 := 0) ht59 (rd_of hA_image) dX12_alike_89 rfl (by decide) (by omega) (fun y3 by3 => ?_)
        refine r_i2l (pc := 90) (v := (iv y3).toInt64) dX12_alike_90 rfl ?_
        refine r_goto (pc := 91) (tgt := 97) dX12_alike_91 (by decide) ?_
        refine Rn.pick (lv' := []) [] rfl ?_
        exact B97 _ ht59 ((iv y3).toInt64) trivial
    · refine r_iload (pc := 65) dX12_alike_65 rfl ?_
      refine t_if_eq (pc := 67) (tgt := 74) dX12_alike_67 (by decide) (by omega) (fun c67 => ?_) (fun c67 => ?_)
      · refine r_lconst (pc := 74) (v := 0) dX12_alike_74 (by decide) ?_
        refine r_goto (pc := 75) (tgt := 97) dX12_alike_75 (by decide) ?_
        refine Rn.pick (lv' := []) [] rfl ?_
        exact B97 _ ht59 (0 : Int64) trivial
      · refine r_lconst (pc := 70) (v := 1) dX12_alike_70 (by decide) ?_
        refine r_goto (pc := 71) (tgt := 97) dX12_alike_71 (by decide) ?_
        refine Rn.pick (lv' := []) [] rfl ?_
        exact B97 _ ht59 (1 : Int64) trivial
  have B58 : ∀ hp58 : MH, Tw Γ hp58 → True → Rn (gG D cI cJ cZ cT lo b L xs) mX12_alike d 58 [(0, .ref y), (3, .int (iv x3)), (4, .int (iv x4))] [] hp58 n 0 0 (pJ Γ n yes64) := by
    intro hp58 ht58 hf58
    refine r_iconst (pc := 58) (v := iv 0) dX12_alike_58 (by decide) ?_
    refine Rn.pick (lv' := [(0, .ref y), (3, .int (iv x3)), (4, .int (iv x4))]) [0, 1, 2] rfl ?_
    exact B59 _ ht58 0 ⟨by omega, by omega⟩
  refine t_icmp_ne (pc := 12) (tgt := 58) dX12_alike_12 (by decide) (by omega) (by omega) (fun c12 => ?_) (fun c12 => ?_)
  · refine Rn.pick (lv' := [(0, .ref y), (3, .int (iv x3)), (4, .int (iv x4))]) [0, 3, 4] rfl ?_
    exact B58 _ ht trivial
  · refine r_aload_n (pc := 15) dX12_alike_15 (i := 0) rfl rfl ?_
    refine t_getE (pc := 16) (.ref (y + 3)) ht hO fX12_16 dX12_alike_16 rfl ?_
    refine r_iload_n (pc := 19) dX12_alike_19 (i := 1) rfl rfl ?_
    refine t_zaldR (pc := 20) (t0 := 2) ht hA_directs dX12_alike_20 rfl (by decide) (by omega) (fun y4 by4 => ?_)
    refine r_aload_n (pc := 21) dX12_alike_21 (i := 0) rfl rfl ?_
    refine t_getE (pc := 22) (.ref (y + 3)) ht hO fX12_16 dX12_alike_22 rfl ?_
    refine r_iload_n (pc := 25) dX12_alike_25 (i := 2) rfl rfl ?_
    refine t_zaldR (pc := 26) (t0 := 2) ht hA_directs dX12_alike_26 rfl (by decide) (by omega) (fun y5 by5 => ?_)
    refine t_icmp_ne (pc := 27) (tgt := 58) dX12_alike_27 (by decide) (by omega) (by omega) (fun c27 => ?_) (fun c27 => ?_)
    · refine Rn.pick (lv' := [(0, .ref y), (3, .int (iv x3)), (4, .int (iv x4))]) [0, 3, 4] rfl ?_
      exact B58 _ ht trivial
    · refine r_aload_n (pc := 30) dX12_alike_30 (i := 0) rfl rfl ?_
      refine t_getE (pc := 31) (.ref (y + 4)) ht hO fX12_20 dX12_alike_31 rfl ?_
      refine r_iload_n (pc := 34) dX12_alike_34 (i := 1) rfl rfl ?_
      refine t_ialdR (pc := 35) (t0 := 0) ht hA_many dX12_alike_35 rfl (by decide) (by omega) (fun y6 by6 => ?_)
      refine r_aload_n (pc := 36) dX12_alike_36 (i := 0) rfl rfl ?_
      refine t_getE (pc := 37) (.ref (y + 4)) ht hO fX12_20 dX12_alike_37 rfl ?_
      refine r_iload_n (pc := 40) dX12_alike_40 (i := 2) rfl rfl ?_
      refine t_ialdR (pc := 41) (t0 := 0) ht hA_many dX12_alike_41 rfl (by decide) (by omega) (fun y7 by7 => ?_)
      refine t_icmp_ne (pc := 42) (tgt := 58) dX12_alike_42 (by decide) (by omega) (by omega) (fun c42 => ?_) (fun c42 => ?_)
      · refine Rn.pick (lv' := [(0, .ref y), (3, .int (iv x3)), (4, .int (iv x4))]) [0, 3, 4] rfl ?_
        exact B58 _ ht trivial
      · refine r_aload_n (pc := 45) dX12_alike_45 (i := 0) rfl rfl ?_
        refine r_iload_n (pc := 46) dX12_alike_46 (i := 1) rfl rfl ?_
        refine r_iload_n (pc := 47) dX12_alike_47 (i := 2) rfl rfl ?_
        refine t_callVR (pc := 48) (as := [.int (iv x1), .int (iv x2)]) (st := []) ht hO kX12_388 rfl dX12_alike_48 (t_X12_place (d := d - 1) (x1 := x1) (x2 := x2) (by omega) hO hA_sizes hA_directs hA_many hA_from hA_to hA_weight hA_cost hA_image ht (by omega) (by omega)) rfl (by omega) (Nat.le_of_ble_eq_true rfl) rfl (fun hp8 y10 ht9 by10 => ?_)
        refine t_if_eq (pc := 51) (tgt := 58) dX12_alike_51 (by decide) (by omega) (fun c51 => ?_) (fun c51 => ?_)
        · refine Rn.pick (lv' := [(0, .ref y), (3, .int (iv x3)), (4, .int (iv x4))]) [0, 3, 4] rfl ?_
          exact B58 _ ht9 trivial
        · refine r_iconst (pc := 54) (v := iv 1) dX12_alike_54 (by decide) ?_
          refine r_goto (pc := 55) (tgt := 59) dX12_alike_55 (by decide) ?_
          refine Rn.pick (lv' := [(0, .ref y), (3, .int (iv x3)), (4, .int (iv x4))]) [0, 3, 4] rfl ?_
          exact B59 _ ht9 1 ⟨by omega, by omega⟩
