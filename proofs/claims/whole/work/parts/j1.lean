/-- a bit of a word -/
def hbB (x : Int) (j : Nat) : Prop := (iv x).toBitVec.getLsbD j = true
theorem hb_1 {x z : Int} (hz : iv x &&& iv 1 = iv z) (hb : 0 ≤ z ∧ z ≤ 1) : z ≠ 0 ↔ hbB x 0 := by
  have h1 : (iv z).toBitVec.getLsbD 0 = ((iv x).toBitVec.getLsbD 0 && true) := by
    rw [← hz, Int32.toBitVec_and, BitVec.getLsbD_and]
    rfl
  rw [Bool.and_true] at h1
  show z ≠ 0 ↔ (iv x).toBitVec.getLsbD 0 = true
  rw [← h1]
  rcases (show z = 0 ∨ z = 1 by omega) with e | e
  · rw [e]; exact ⟨fun g => absurd rfl g, fun g => absurd g (by decide)⟩
  · rw [e]; exact ⟨fun _ => by decide, fun _ => by omega⟩
theorem hb_m : ∀ j : Fin 32, (((iv ((j : Nat) : Int) &&& 31).toBitVec).smod 32).toNat = (j : Nat) := by decide +kernel
theorem hb_shr {y z w : Int} (hz : 0 ≤ z ∧ z ≤ 31) (h : iv y >>> (iv z &&& 31) = iv w) : hbB w 0 ↔ hbB y z.toNat := by
  have h1 := hb_m ⟨z.toNat, by omega⟩
  have e : (((⟨z.toNat, by omega⟩ : Fin 32) : Nat) : Int) = z := by
    show ((z.toNat : Nat) : Int) = z
    omega
  rw [e] at h1
  show (iv w).toBitVec.getLsbD 0 = true ↔ (iv y).toBitVec.getLsbD z.toNat = true
  rw [← h, Int32.toBitVec_shiftRight, BitVec.sshiftRight_eq', h1, BitVec.getLsbD_sshiftRight]
  have h2 : (⟨z.toNat, by omega⟩ : Fin 32).val = z.toNat := rfl
  rw [h2, if_pos (by omega)]
  simp
theorem hb_s : ∀ j i : Fin 32, ((iv 1 <<< (iv ((j : Nat) : Int) &&& 31)).toBitVec.getLsbD i = true) ↔ (i : Nat) = (j : Nat) := by decide +kernel
theorem hb_or {x y z w : Int} {i : Nat} (hz : 0 ≤ z ∧ z ≤ 31) (hi : i < 32) (h1 : iv 1 <<< (iv z &&& 31) = iv y) (h2 : iv x ||| iv y = iv w) : hbB w i ↔ hbB x i ∨ i = z.toNat := by
  have h3 := hb_s ⟨z.toNat, by omega⟩ ⟨i, hi⟩
  have e : (((⟨z.toNat, by omega⟩ : Fin 32) : Nat) : Int) = z := by
    show ((z.toNat : Nat) : Int) = z
    omega
  rw [e, h1] at h3
  show (iv w).toBitVec.getLsbD i = true ↔ (iv x).toBitVec.getLsbD i = true ∨ i = z.toNat
  rw [← h2, Int32.toBitVec_or, BitVec.getLsbD_or, Bool.or_eq_true]
  exact ⟨fun g => g.imp id (fun q => h3.mp q), fun g => g.imp id (fun q => h3.mpr q)⟩
theorem hb_0 (j : Nat) : ¬ hbB 0 j := by
  show ¬ ((iv 0).toBitVec.getLsbD j = true)
  rw [show (iv 0).toBitVec = 0#32 from rfl, BitVec.getLsbD_zero]
  exact Bool.false_ne_true
/-- S is told to be hopeless -/
def hoP (f : Nat → Int) (S : Int) : Prop := hbB (f (S.toNat / 32)) (S.toNat % 32)
/-- all that are told so are -/
def hoK (R : Nat → Nat → Prop) (P : Nat → Prop) (k : Int) (f : Nat → Int) : Prop := ∀ S : Int, 0 ≤ S → S ≤ 65535 → hoP f S → ¬ gW R P k S
theorem hok_0 {R : Nat → Nat → Prop} {P : Nat → Prop} {k : Int} : hoK R P k (fun _ => 0) := fun S _ _ h => absurd h (hb_0 _)
theorem ho_i1 {x z : Int} (hx : 0 ≤ x ∧ x ≤ 65535) (h : ((iv x).toUInt32 >>> ((iv 5).toUInt32 &&& Int32.toUInt32 31)).toInt32 = iv z) (hz : -2147483648 ≤ z ∧ z ≤ 2147483647) : z = x / 32 := by
  have h1 := ushr_k (a := x.toNat) 5 (by decide) (by omega)
  rw [show ((x.toNat : Nat) : Int) = x by omega] at h1
  rw [show (iv ((5 : Nat) : Int)) = iv 5 from rfl] at h1
  rw [h1] at h
  have e : x.toNat >>> 5 = x.toNat / 32 := Nat.shiftRight_eq_div_pow _ _
  rw [e] at h
  have h2 := iv_inj h (by omega) (by omega)
  omega
theorem ho_i2 {y z : Int} (hy : 0 ≤ y ∧ y ≤ 2047) (h : iv y &&& iv 2047 = iv z) (hz : 0 ≤ z ∧ z ≤ 2047) : z = y := by
  refine Me_eqi hz.1 hy.1 (fun i => ?_)
  rw [Me_and h (by omega) (by omega) (by omega) i]
  refine ⟨fun g => g.1, fun g => ⟨g, ?_⟩⟩
  exact (Me_all (n := 11) i).mpr (Me_bd g (by omega))
theorem ho_i3 {x z : Int} (hx : 0 ≤ x ∧ x ≤ 65535) (h : iv x &&& iv 31 = iv z) (hz : 0 ≤ z ∧ z ≤ 31) : z.toNat = x.toNat % 32 := by
  have h1 : z = (((x.toNat % 32 : Nat)) : Int) := by
    refine Me_eqi hz.1 (by omega) (fun i => ?_)
    rw [Me_and h (by omega) (by omega) (by omega) i, show Me 31 i ↔ i < 5 from Me_all (n := 5) i]
    show x.toNat.testBit i = true ∧ i < 5 ↔ (((x.toNat % 32 : Nat) : Int)).toNat.testBit i = true
    rw [Int.toNat_natCast, show (32 : Nat) = 2 ^ 5 from rfl, Nat.testBit_mod_two_pow, Bool.and_eq_true, decide_eq_true_eq]
    exact ⟨fun g => ⟨g.2, g.1⟩, fun g => ⟨g.2, g.1⟩⟩
  omega
theorem ho_t {f : Nat → Int} {S z1 z2 z4 z5 z6 : Int} (hS : 0 ≤ S ∧ S ≤ 65535) (h1 : z1 = S / 32) (h2 : z2 = z1) (h4 : z4.toNat = S.toNat % 32) (b4 : 0 ≤ z4 ∧ z4 ≤ 31) (h5 : iv (f z2.toNat) >>> (iv z4 &&& 31) = iv z5) (h6 : iv z5 &&& iv 1 = iv z6) (b6 : 0 ≤ z6 ∧ z6 ≤ 1) : z6 ≠ 0 ↔ hoP f S := by
  rw [hb_1 h6 b6, hb_shr b4 h5, h4, h2, h1, show (S / 32).toNat = S.toNat / 32 by omega]
  exact Iff.rfl
theorem hok_st {R : Nat → Nat → Prop} {P : Nat → Prop} {k S w y z4 : Int} {f : Nat → Int} (h : hoK R P k f) (hS : 0 ≤ S ∧ S ≤ 65535) (h4 : z4.toNat = S.toNat % 32) (b4 : 0 ≤ z4 ∧ z4 ≤ 31) (h5 : iv 1 <<< (iv z4 &&& 31) = iv y) (h6 : iv (f (S.toNat / 32)) ||| iv y = iv w) (hn : ¬ gW R P k S) : hoK R P k (fup f (S.toNat / 32) w) := fun T t0 t1 ht => by
  by_cases e : T.toNat / 32 = S.toNat / 32
  · have h7 : hbB w (T.toNat % 32) := by
      have : hbB (fup f (S.toNat / 32) w (T.toNat / 32)) (T.toNat % 32) := ht
      rw [show fup f (S.toNat / 32) w (T.toNat / 32) = w from if_pos e] at this
      exact this
    rcases (hb_or b4 (Nat.mod_lt _ (by omega)) h5 h6).mp h7 with q | q
    · exact h T t0 t1 (by
        show hbB (f (T.toNat / 32)) (T.toNat % 32)
        rw [e]; exact q)
    · have e2 : T = S := by omega
      rw [e2]; exact hn
  · refine h T t0 t1 ?_
    have : hbB (fup f (S.toNat / 32) w (T.toNat / 32)) (T.toNat % 32) := ht
    rw [show fup f (S.toNat / 32) w (T.toNat / 32) = f (T.toNat / 32) from if_neg e] at this
    exact this
