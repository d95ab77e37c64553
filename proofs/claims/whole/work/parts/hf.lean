theorem l_subx {x y : Int64} (h : -9223372036854775808 ≤ x.toInt - y.toInt ∧ x.toInt - y.toInt ≤ 9223372036854775807) : (x - y).toInt = x.toInt - y.toInt := by
  rw [Int64.toInt_sub]
  exact Int.bmod_eq_of_le (by omega) (by omega)
theorem l_rem {x y : Int64} (hx : 0 ≤ x.toInt) (hy : 0 < y.toInt) : (x - x / y * y).toInt = x.toInt % y.toInt := by
  have hb := i64_hi x
  have q1 : 0 ≤ x.toInt / y.toInt := Int.ediv_nonneg hx (by omega)
  have q3 := Int.mul_ediv_add_emod x.toInt y.toInt
  have q4 := Int.emod_nonneg x.toInt (show y.toInt ≠ 0 by omega)
  have q2 : x.toInt / y.toInt ≤ y.toInt * (x.toInt / y.toInt) := by
    have := Int.mul_le_mul_of_nonneg_right (show (1 : Int) ≤ y.toInt by omega) q1
    rw [Int.one_mul] at this; exact this
  have h1 : (x / y).toInt = x.toInt / y.toInt := by
    rw [Int64.toInt_div, Int.tdiv_eq_ediv_of_nonneg hx]
    exact Int.bmod_eq_of_le (by omega) (by omega)
  have h2 := l_mul (x := x / y) (y := y) (by rw [h1, Int.mul_comm]; omega)
  rw [h1, Int.mul_comm] at h2
  rw [l_subx (by rw [h2]; omega), h2]
  omega
/-- how many arcs go between a node and a set -/
def ebF (F T : Nat → Int) (r : Nat) (t : Nat) (k : Nat) : Int := if (F k = (r : Int) ∧ t.testBit (T k).toNat = true) ∨ (T k = (r : Int) ∧ t.testBit (F k).toNat = true) then 1 else 0
def ebA (m : Nat) (F T : Nat → Int) (r t : Nat) : Int := sgm (ebF F T r t) m
theorem eb_b {m : Nat} {F T : Nat → Int} {r t : Nat} : ∀ k : Nat, 0 ≤ sgm (ebF F T r t) k ∧ sgm (ebF F T r t) k ≤ (k : Int)
  | 0 => by show (0 : Int) ≤ 0 ∧ (0 : Int) ≤ _; omega
  | k + 1 => by
    have ih := eb_b (m := m) (F := F) (T := T) (r := r) (t := t) k
    have h1 : 0 ≤ ebF F T r t k ∧ ebF F T r t k ≤ 1 := by
      unfold ebF
      by_cases g : (F k = (r : Int) ∧ t.testBit (T k).toNat = true) ∨ (T k = (r : Int) ∧ t.testBit (F k).toNat = true)
      · rw [if_pos g]; omega
      · rw [if_neg g]; omega
    show 0 ≤ sgm (ebF F T r t) k + ebF F T r t k ∧ sgm (ebF F T r t) k + ebF F T r t k ≤ _
    omega
/-- what one branch adds -/
def tvF (sp : Nat → Int) (e : Nat → Nat → Int) (r s S t : Nat) : Int := if t &&& (S ^^^ 2 ^ r) = t ∧ t.testBit s = true then sp t * sp (S ^^^ t) * e r t else 0
/-- the number of trees over a set, told by those of smaller sets -/
def spR (sp : Nat → Int) (e : Nat → Nat → Int) (p : Int) (S : Nat) : Prop := ∃ r, S.testBit r = true ∧ (∀ j, j < r → S.testBit j = false) ∧ ((S = 2 ^ r ∧ sp S = 1) ∨ ∃ s, r ≠ s ∧ S.testBit s = true ∧ (∀ j, j < s → j ≠ r → S.testBit j = false) ∧ sp S = sgm (tvF sp e r s S) S % p)
/-- the number of trees over the nodes below n, for a modulus -/
def stA (m : Nat) (F T : Nat → Int) (n : Nat) (p r : Int) : Prop := ∃ sp : Nat → Int, (∀ S, 0 < S → S < 2 ^ n → (0 ≤ sp S ∧ sp S < p) ∧ spR sp (ebA m F T) p S) ∧ r = sp (2 ^ n - 1)
theorem sgm_z {f : Nat → Int} {a : Nat} : ∀ {b : Nat}, a ≤ b → (∀ t, a ≤ t → t < b → f t = 0) → sgm f b = sgm f a
  | 0, h, _ => by rw [show a = 0 by omega]
  | b + 1, h, hz => by
    by_cases e : a = b + 1
    · rw [e]
    · show sgm f b + f b = _
      rw [sgm_z (b := b) (by omega) (fun t h1 h2 => hz t h1 (by omega)), hz b (by omega) (by omega)]; omega
theorem tv_x {sp sp1 : Nat → Int} {e : Nat → Nat → Int} {r s S : Nat} (hr : S.testBit r = true) (hs : S.testBit s = true) (hrs : r ≠ s) (h : ∀ t, 0 < t → t < S → sp1 t = sp t) (t : Nat) (ht : t < S) : tvF sp1 e r s S t = tvF sp e r s S t := by
  unfold tvF
  by_cases g : t &&& (S ^^^ 2 ^ r) = t ∧ t.testBit s = true
  · rw [if_pos g, if_pos g]
    have h0 : 0 < t := Nat.pos_of_ne_zero (fun e => by rw [e, Nat.zero_testBit] at g; cases g.2)
    have hsub : ∀ i, t.testBit i = true → S.testBit i = true ∧ i ≠ r := fun i hi => by
      have h9 : (t &&& (S ^^^ 2 ^ r)).testBit i = true := by rw [g.1]; exact hi
      rw [Nat.testBit_and, Bool.and_eq_true, Nat.testBit_xor, Nat.testBit_two_pow] at h9
      have h8 := h9.2
      by_cases e : r = i
      · subst e
        rw [hr] at h8; simp at h8
      · have e2 : decide (r = i) = false := decide_eq_false e
        rw [e2, Bool.xor_false] at h8
        exact ⟨h8, fun q => e q.symm⟩
    have h1 : 0 < S ^^^ t := Nat.pos_of_ne_zero (fun e => by
      have h9 : (S ^^^ t).testBit r = true := by
        rw [Nat.testBit_xor, hr]
        have : t.testBit r = false := Bool.eq_false_iff.mpr (fun q => (hsub r q).2 rfl)
        rw [this]; rfl
      rw [e, Nat.zero_testBit] at h9; cases h9)
    have h2 : S ^^^ t < S := by
      have hle : ∀ i, (S ^^^ t).testBit i = true → S.testBit i = true := fun i hi => by
        rw [Nat.testBit_xor] at hi
        cases q : t.testBit i
        · rw [q, Bool.xor_false] at hi; exact hi
        · exact (hsub i q).1
      have h9 := Me_sub_le (x := ((S ^^^ t : Nat) : Int)) (y := ((S : Nat) : Int)) (Int.natCast_nonneg _) (Int.natCast_nonneg _) hle
      have h8 : S ^^^ t ≠ S := fun e => by
        have h7 : (S ^^^ t).testBit s = S.testBit s := by rw [e]
        rw [Nat.testBit_xor, hs, g.2] at h7; cases h7
      omega
    rw [h t h0 ht, h (S ^^^ t) h1 h2]
  · rw [if_neg g, if_neg g]
