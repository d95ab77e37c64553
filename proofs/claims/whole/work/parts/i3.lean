/-- the sign of a place -/
def sgn9 (i : Nat) : Int := if i % 2 = 0 then 1 else -1
theorem sgn_s (i : Nat) : sgn9 (i + 1) = - sgn9 i := by
  unfold sgn9
  by_cases h : i % 2 = 0
  · rw [if_pos h, if_neg (by omega)]
  · rw [if_neg h, if_pos (by omega)]; rfl
/-- without a row and the first column -/
def mnr (A : Nat → Nat → Int) (i : Nat) : Nat → Nat → Int := fun a b => A (if a < i then a else a + 1) (b + 1)
/-- the determinant, by its first column -/
def dtm : Nat → (Nat → Nat → Int) → Int
  | 0, _ => 1
  | n + 1, A => sgm (fun i => sgn9 i * A i 0 * dtm n (mnr A i)) (n + 1)
theorem mnr_lt {A : Nat → Nat → Int} {i a b : Nat} (h : a < i) : mnr A i a b = A a (b + 1) := by
  unfold mnr; rw [if_pos h]
theorem mnr_ge {A : Nat → Nat → Int} {i a b : Nat} (h : ¬ a < i) : mnr A i a b = A (a + 1) (b + 1) := by
  unfold mnr; rw [if_neg h]
theorem dt_cg : ∀ {n : Nat} {A B : Nat → Nat → Int}, (∀ i j, i < n → j < n → A i j = B i j) → dtm n A = dtm n B
  | 0, _, _, _ => rfl
  | n + 1, A, B, h => sgm_cg (fun i hi => by
    show sgn9 i * A i 0 * dtm n (mnr A i) = sgn9 i * B i 0 * dtm n (mnr B i)
    rw [h i 0 hi (by omega), dt_cg (n := n) (A := mnr A i) (B := mnr B i) (fun a b ha hb => by
      by_cases g : a < i
      · rw [mnr_lt g, mnr_lt g]; exact h _ _ (by omega) (by omega)
      · rw [mnr_ge g, mnr_ge g]; exact h _ _ (by omega) (by omega))])
theorem dt_md {p : Int} : ∀ {n : Nat} {A B : Nat → Nat → Int}, (∀ i j, i < n → j < n → A i j % p = B i j % p) → dtm n A % p = dtm n B % p
  | 0, _, _, _ => rfl
  | n + 1, A, B, h => by
    have hs : ∀ k, k ≤ n + 1 → sgm (fun i => sgn9 i * A i 0 * dtm n (mnr A i)) k % p = sgm (fun i => sgn9 i * B i 0 * dtm n (mnr B i)) k % p := by
      intro k
      induction k with
      | zero => intro _; rfl
      | succ k ih =>
        intro hk
        show (sgm (fun i => sgn9 i * A i 0 * dtm n (mnr A i)) k + sgn9 k * A k 0 * dtm n (mnr A k)) % p = (sgm (fun i => sgn9 i * B i 0 * dtm n (mnr B i)) k + sgn9 k * B k 0 * dtm n (mnr B k)) % p
        have e1 := dt_md (p := p) (n := n) (A := mnr A k) (B := mnr B k) (fun a b ha hb => by
          by_cases g : a < k
          · rw [mnr_lt g, mnr_lt g]; exact h _ _ (by omega) (by omega)
          · rw [mnr_ge g, mnr_ge g]; exact h _ _ (by omega) (by omega))
        have e2 := h k 0 (by omega) (by omega)
        have e3 : (sgn9 k * A k 0 * dtm n (mnr A k)) % p = (sgn9 k * B k 0 * dtm n (mnr B k)) % p := by
          rw [Int.mul_emod, Int.mul_emod (sgn9 k) (A k 0), e1, e2, ← Int.mul_emod (sgn9 k) (B k 0), ← Int.mul_emod]
        rw [Int.add_emod, ih (by omega), e3, ← Int.add_emod]
    exact hs (n + 1) (Nat.le_refl _)
theorem sgm_lin {f g : Nat → Int} {x y : Int} : ∀ n : Nat, sgm (fun i => x * f i + y * g i) n = x * sgm f n + y * sgm g n
  | 0 => by show (0 : Int) = x * 0 + y * 0; rw [Int.mul_zero, Int.mul_zero]; rfl
  | n + 1 => by
    show sgm (fun i => x * f i + y * g i) n + (x * f n + y * g n) = x * (sgm f n + f n) + y * (sgm g n + g n)
    rw [sgm_lin n, Int.mul_add, Int.mul_add]; omega
/-- one row is a sum of two -/
theorem dt_lin : ∀ {n : Nat} {A B C : Nat → Nat → Int} {q : Nat} {x y : Int}, q < n → (∀ j, j < n → A q j = x * B q j + y * C q j) → (∀ i j, i < n → j < n → i ≠ q → B i j = A i j ∧ C i j = A i j) → dtm n A = x * dtm n B + y * dtm n C
  | 0, _, _, _, _, _, _, h, _, _ => absurd h (Nat.not_lt_zero _)
  | n + 1, A, B, C, q, x, y, hq, h1, h2 => by
    show sgm (fun i => sgn9 i * A i 0 * dtm n (mnr A i)) (n + 1) = x * sgm (fun i => sgn9 i * B i 0 * dtm n (mnr B i)) (n + 1) + y * sgm (fun i => sgn9 i * C i 0 * dtm n (mnr C i)) (n + 1)
    rw [← sgm_lin (n + 1)]
    refine sgm_cg (fun i hi => ?_)
    show sgn9 i * A i 0 * dtm n (mnr A i) = x * (sgn9 i * B i 0 * dtm n (mnr B i)) + y * (sgn9 i * C i 0 * dtm n (mnr C i))
    by_cases e : i = q
    · subst e
      have eB : dtm n (mnr B i) = dtm n (mnr A i) := dt_cg (fun a b ha hb => by
        by_cases g : a < i
        · rw [mnr_lt g, mnr_lt g]; exact (h2 _ _ (by omega) (by omega) (by omega)).1
        · rw [mnr_ge g, mnr_ge g]; exact (h2 _ _ (by omega) (by omega) (by omega)).1)
      have eC : dtm n (mnr C i) = dtm n (mnr A i) := dt_cg (fun a b ha hb => by
        by_cases g : a < i
        · rw [mnr_lt g, mnr_lt g]; exact (h2 _ _ (by omega) (by omega) (by omega)).2
        · rw [mnr_ge g, mnr_ge g]; exact (h2 _ _ (by omega) (by omega) (by omega)).2)
      rw [eB, eC, h1 0 (by omega), Int.mul_add, Int.add_mul, ← Int.mul_assoc x, ← Int.mul_assoc y, ← Int.mul_assoc x, ← Int.mul_assoc y, Int.mul_left_comm (sgn9 i) x, Int.mul_left_comm (sgn9 i) y, ← Int.mul_assoc x, ← Int.mul_assoc y]
    · have e0 := h2 i 0 hi (by omega) e
      have key : dtm n (mnr A i) = x * dtm n (mnr B i) + y * dtm n (mnr C i) := by
        by_cases g : q < i
        · refine dt_lin (q := q) (by omega) (fun j hj => ?_) (fun a b ha hb hne => ?_)
          · rw [mnr_lt g, mnr_lt g, mnr_lt g]; exact h1 _ (by omega)
          · by_cases g1 : a < i
            · rw [mnr_lt g1, mnr_lt g1, mnr_lt g1]; exact h2 _ _ (by omega) (by omega) hne
            · rw [mnr_ge g1, mnr_ge g1, mnr_ge g1]; exact h2 _ _ (by omega) (by omega) (by omega)
        · obtain ⟨q1, rfl⟩ : ∃ q1, q = q1 + 1 := ⟨q - 1, by omega⟩
          have g0 : ¬ q1 < i := by omega
          refine dt_lin (q := q1) (by omega) (fun j hj => ?_) (fun a b ha hb hne => ?_)
          · rw [mnr_ge g0, mnr_ge g0, mnr_ge g0]; exact h1 _ (by omega)
          · by_cases g1 : a < i
            · rw [mnr_lt g1, mnr_lt g1, mnr_lt g1]; exact h2 _ _ (by omega) (by omega) (by omega)
            · rw [mnr_ge g1, mnr_ge g1, mnr_ge g1]; exact h2 _ _ (by omega) (by omega) (by omega)
      rw [e0.1, e0.2, key, Int.mul_add, ← Int.mul_assoc x, ← Int.mul_assoc y, Int.mul_left_comm _ x, Int.mul_left_comm _ y, ← Int.mul_assoc x, ← Int.mul_assoc y]
theorem sgm_neg {f : Nat → Int} : ∀ n : Nat, sgm (fun i => - f i) n = - sgm f n
  | 0 => rfl
  | n + 1 => by
    show sgm (fun i => - f i) n + - f n = - (sgm f n + f n)
    rw [sgm_neg n]; omega
/-- two rows that lie beside each other change places -/
theorem dt_sw : ∀ {n : Nat} {A B : Nat → Nat → Int} {q : Nat}, q + 1 < n → (∀ j, j < n → B q j = A (q + 1) j ∧ B (q + 1) j = A q j) → (∀ i j, i < n → j < n → i ≠ q → i ≠ q + 1 → B i j = A i j) → dtm n B = - dtm n A
  | 0, _, _, _, h, _, _ => absurd h (Nat.not_lt_zero _)
  | n + 1, A, B, q, hq, h1, h2 => by
    show sgm (fun i => sgn9 i * B i 0 * dtm n (mnr B i)) (n + 1) = - sgm (fun i => sgn9 i * A i 0 * dtm n (mnr A i)) (n + 1)
    rw [← sgm_neg]
    refine sgm_pm (σ := fun i => if i = q then q + 1 else if i = q + 1 then q else i) (fun i hi => ?_) (fun i j hi hj e => ?_) (fun i hi => ?_)
    · show (if i = q then q + 1 else if i = q + 1 then q else i) < n + 1
      split
      · omega
      · split <;> omega
    · have e1 : (if i = q then q + 1 else if i = q + 1 then q else i) = (if j = q then q + 1 else if j = q + 1 then q else j) := e
      revert e1
      split
      · split
        · intro; omega
        · split <;> (intro; omega)
      · split
        · split
          · intro; omega
          · split <;> (intro; omega)
        · split
          · intro; omega
          · split <;> (intro; omega)
    · show sgn9 (if i = q then q + 1 else if i = q + 1 then q else i) * B (if i = q then q + 1 else if i = q + 1 then q else i) 0 * dtm n (mnr B (if i = q then q + 1 else if i = q + 1 then q else i)) = - (sgn9 i * A i 0 * dtm n (mnr A i))
      by_cases e : i = q
      · rw [if_pos e]
        subst e
        have ed : dtm n (mnr B (i + 1)) = dtm n (mnr A i) := dt_cg (fun a b ha hb => by
          by_cases g : a < i
          · rw [mnr_lt g, mnr_lt (show a < i + 1 by omega)]; exact h2 _ _ (by omega) (by omega) (by omega) (by omega)
          · by_cases g1 : a = i
            · rw [mnr_lt (show a < i + 1 by omega), mnr_ge g, g1]; exact (h1 _ (by omega)).1
            · rw [mnr_ge (show ¬ a < i + 1 by omega), mnr_ge g]; exact h2 _ _ (by omega) (by omega) (by omega) (by omega))
        rw [ed, (h1 0 (by omega)).2, sgn_s, Int.neg_mul, Int.neg_mul]
      · rw [if_neg e]
        by_cases e1 : i = q + 1
        · rw [if_pos e1]
          subst e1
          have ed : dtm n (mnr B q) = dtm n (mnr A (q + 1)) := dt_cg (fun a b ha hb => by
            by_cases g : a < q
            · rw [mnr_lt g, mnr_lt (show a < q + 1 by omega)]; exact h2 _ _ (by omega) (by omega) (by omega) (by omega)
            · by_cases g1 : a = q
              · rw [mnr_ge g, mnr_lt (show a < q + 1 by omega), g1]; exact (h1 _ (by omega)).2
              · rw [mnr_ge g, mnr_ge (show ¬ a < q + 1 by omega)]; exact h2 _ _ (by omega) (by omega) (by omega) (by omega))
          rw [ed, (h1 0 (by omega)).1, sgn_s, Int.neg_mul, Int.neg_mul, Int.neg_neg]
        · rw [if_neg e1]
          have key : dtm n (mnr B i) = - dtm n (mnr A i) := by
            by_cases g : q + 1 < i
            · refine dt_sw (q := q) (by omega) (fun j hj => ?_) (fun a b ha hb n1 n2 => ?_)
              · rw [mnr_lt (show q < i by omega), mnr_lt (show q < i by omega), mnr_lt g, mnr_lt g]
                exact h1 _ (by omega)
              · by_cases g1 : a < i
                · rw [mnr_lt g1, mnr_lt g1]; exact h2 _ _ (by omega) (by omega) n1 n2
                · rw [mnr_ge g1, mnr_ge g1]; exact h2 _ _ (by omega) (by omega) (by omega) (by omega)
            · obtain ⟨q1, rfl⟩ : ∃ q1, q = q1 + 1 := ⟨q - 1, by omega⟩
              refine dt_sw (q := q1) (by omega) (fun j hj => ?_) (fun a b ha hb n1 n2 => ?_)
              · rw [mnr_ge (show ¬ q1 < i by omega), mnr_ge (show ¬ q1 < i by omega), mnr_ge (show ¬ q1 + 1 < i by omega), mnr_ge (show ¬ q1 + 1 < i by omega)]
                exact h1 _ (by omega)
              · by_cases g1 : a < i
                · rw [mnr_lt g1, mnr_lt g1]; exact h2 _ _ (by omega) (by omega) (by omega) (by omega)
                · rw [mnr_ge g1, mnr_ge g1]; exact h2 _ _ (by omega) (by omega) (by omega) (by omega)
          rw [h2 i 0 hi (by omega) e e1, key, Int.mul_neg]
/-- two rows that are the same -/
theorem dt_eq {n : Nat} : ∀ {k : Nat} {A : Nat → Nat → Int} {q : Nat}, q + 1 + k < n → (∀ j, j < n → A q j = A (q + 1 + k) j) → dtm n A = 0
  | 0, A, q, hq, h => by
    have := dt_sw (n := n) (A := A) (B := A) (q := q) (by omega) (fun j hj => ⟨h j hj, (h j hj).symm⟩) (fun _ _ _ _ _ _ => rfl)
    omega
  | k + 1, A, q, hq, h => by
    have e1 := dt_sw (n := n) (A := A) (B := fun i j => if i = q + 1 + k then A (q + 1 + k + 1) j else if i = q + 1 + k + 1 then A (q + 1 + k) j else A i j) (q := q + 1 + k) (by omega) (fun j hj => ⟨if_pos rfl, by
      show (if q + 1 + k + 1 = q + 1 + k then A (q + 1 + k + 1) j else if q + 1 + k + 1 = q + 1 + k + 1 then A (q + 1 + k) j else A (q + 1 + k + 1) j) = _
      rw [if_neg (by omega), if_pos rfl]⟩) (fun i j hi hj n1 n2 => by
      show (if i = q + 1 + k then A (q + 1 + k + 1) j else if i = q + 1 + k + 1 then A (q + 1 + k) j else A i j) = _
      rw [if_neg n1, if_neg n2])
    have e2 := dt_eq (n := n) (k := k) (A := fun i j => if i = q + 1 + k then A (q + 1 + k + 1) j else if i = q + 1 + k + 1 then A (q + 1 + k) j else A i j) (q := q) (by omega) (fun j hj => by
      show (if q = q + 1 + k then A (q + 1 + k + 1) j else if q = q + 1 + k + 1 then A (q + 1 + k) j else A q j) = (if q + 1 + k = q + 1 + k then A (q + 1 + k + 1) j else _)
      rw [if_neg (by omega), if_neg (by omega), if_pos rfl]
      exact h j hj)
    omega
theorem dt_ee {n : Nat} {A : Nat → Nat → Int} {a b : Nat} (ha : a < n) (hb : b < n) (hne : a ≠ b) (h : ∀ j, j < n → A a j = A b j) : dtm n A = 0 := by
  by_cases g : a < b
  · exact dt_eq (k := b - a - 1) (q := a) (by omega) (fun j hj => by rw [show a + 1 + (b - a - 1) = b by omega]; exact h j hj)
  · exact dt_eq (k := a - b - 1) (q := b) (by omega) (fun j hj => by rw [show b + 1 + (a - b - 1) = a by omega]; exact (h j hj).symm)
/-- a matrix with another row -/
def rpl (A : Nat → Nat → Int) (q : Nat) (v : Nat → Int) : Nat → Nat → Int := fun i j => if i = q then v j else A i j
theorem rpl_s {A : Nat → Nat → Int} {q j : Nat} {v : Nat → Int} : rpl A q v q j = v j := if_pos rfl
theorem rpl_o {A : Nat → Nat → Int} {q i j : Nat} {v : Nat → Int} (h : i ≠ q) : rpl A q v i j = A i j := if_neg h
theorem dt_l2 {n : Nat} {A : Nat → Nat → Int} {q : Nat} {x y : Int} {u v : Nat → Int} (hq : q < n) : dtm n (rpl A q (fun j => x * u j + y * v j)) = x * dtm n (rpl A q u) + y * dtm n (rpl A q v) :=
  dt_lin hq (fun j _ => by rw [rpl_s, rpl_s, rpl_s]) (fun i j _ _ hi => by rw [rpl_o hi, rpl_o hi, rpl_o hi]; exact ⟨rfl, rfl⟩)
theorem dt_z {n : Nat} {A : Nat → Nat → Int} {q : Nat} (hq : q < n) : dtm n (rpl A q (fun _ => 0)) = 0 := by
  have e := dt_l2 (n := n) (A := A) (q := q) (x := 0) (y := 0) (u := fun _ => 0) (v := fun _ => 0) hq
  have e1 : dtm n (rpl A q (fun j => 0 * (fun _ => (0 : Int)) j + 0 * (fun _ => (0 : Int)) j)) = dtm n (rpl A q (fun _ => 0)) := dt_cg (fun i j _ _ => by
    by_cases c : i = q
    · rw [c, rpl_s, rpl_s]; rfl
    · rw [rpl_o c, rpl_o c])
  rw [e1] at e
  omega
/-- a row that is a sum of rows -/
theorem dt_sum {n : Nat} {A : Nat → Nat → Int} {q : Nat} {c : Nat → Int} {v : Nat → Nat → Int} (hq : q < n) : ∀ m : Nat, dtm n (rpl A q (fun j => sgm (fun i => c i * v i j) m)) = sgm (fun i => c i * dtm n (rpl A q (v i))) m
  | 0 => dt_z hq
  | m + 1 => by
    have e := dt_l2 (n := n) (A := A) (q := q) (x := 1) (y := c m) (u := fun j => sgm (fun i => c i * v i j) m) (v := v m) hq
    rw [Int.one_mul, dt_sum hq m] at e
    show _ = sgm (fun i => c i * dtm n (rpl A q (v i))) m + c m * dtm n (rpl A q (v m))
    rw [← e]
    exact dt_cg (fun i j _ _ => by
      by_cases e1 : i = q
      · rw [e1, rpl_s, rpl_s, Int.one_mul]; rfl
      · rw [rpl_o e1, rpl_o e1])
theorem rpl_id {n : Nat} {A : Nat → Nat → Int} {q : Nat} {v : Nat → Int} (h : ∀ j, j < n → v j = A q j) : dtm n (rpl A q v) = dtm n A := dt_cg (fun i j _ hj => by
  by_cases e : i = q
  · rw [e, rpl_s]; exact h j hj
  · exact rpl_o e)
/-- a multiple of another row may be added -/
theorem dt_ad {n : Nat} {A : Nat → Nat → Int} {q r : Nat} {c : Int} (hq : q < n) (hr : r < n) (hne : q ≠ r) : dtm n (rpl A q (fun j => A q j + c * A r j)) = dtm n A := by
  have e := dt_l2 (n := n) (A := A) (q := q) (x := 1) (y := c) (u := A q) (v := A r) hq
  have e0 : dtm n (rpl A q (A r)) = 0 := dt_ee hq hr hne (fun j _ => by rw [rpl_s, rpl_o (fun e => hne e.symm)])
  rw [e0, Int.mul_zero, Int.add_zero, Int.one_mul, rpl_id (v := A q) (fun _ _ => rfl)] at e
  rw [← e]
  exact dt_cg (fun i j _ _ => by
    by_cases e1 : i = q
    · rw [e1, rpl_s, rpl_s, Int.one_mul]
    · rw [rpl_o e1, rpl_o e1])
/-- two rows change places -/
theorem dt_ex {n : Nat} {A : Nat → Nat → Int} {a b : Nat} (ha : a < n) (hb : b < n) (hne : a ≠ b) : dtm n (rpl (rpl A a (A b)) b (A a)) = - dtm n A := by
  have z : ∀ u : Nat → Int, dtm n (rpl (rpl A a u) b u) = 0 := fun u => dt_ee ha hb hne (fun j _ => by rw [rpl_s, rpl_o hne, rpl_s])
  have L1 : ∀ (X : Nat → Nat → Int) (u v : Nat → Int), dtm n (rpl X b (fun j => u j + v j)) = dtm n (rpl X b u) + dtm n (rpl X b v) := fun X u v => by
    have e := dt_l2 (n := n) (A := X) (q := b) (x := 1) (y := 1) (u := u) (v := v) hb
    rw [Int.one_mul, Int.one_mul] at e
    rw [← e]
    exact dt_cg (fun i j _ _ => by
      by_cases e1 : i = b
      · rw [e1, rpl_s, rpl_s, Int.one_mul, Int.one_mul]
      · rw [rpl_o e1, rpl_o e1])
  have L2 : ∀ (w u v : Nat → Int), dtm n (rpl (rpl A a (fun j => u j + v j)) b w) = dtm n (rpl (rpl A a u) b w) + dtm n (rpl (rpl A a v) b w) := fun w u v => by
    have e := dt_l2 (n := n) (A := rpl A b w) (q := a) (x := 1) (y := 1) (u := u) (v := v) ha
    rw [Int.one_mul, Int.one_mul] at e
    have sw : ∀ x : Nat → Int, dtm n (rpl (rpl A b w) a x) = dtm n (rpl (rpl A a x) b w) := fun x => dt_cg (fun i j _ _ => by
      by_cases e1 : i = a
      · rw [e1, rpl_s, rpl_o hne, rpl_s]
      · rw [rpl_o e1]
        by_cases e2 : i = b
        · rw [e2, rpl_s, rpl_s]
        · rw [rpl_o e2, rpl_o e2, rpl_o e1])
    rw [sw, sw, sw] at e
    rw [← e]
    exact dt_cg (fun i j _ _ => by
      by_cases e2 : i = b
      · rw [e2, rpl_s, rpl_s]
      · rw [rpl_o e2, rpl_o e2]
        by_cases e1 : i = a
        · rw [e1, rpl_s, rpl_s, Int.one_mul, Int.one_mul]
        · rw [rpl_o e1, rpl_o e1])
  have z1 := z (fun j => A a j + A b j)
  rw [L1, L2, L2, z (A a), z (A b)] at z1
  have i1 : dtm n (rpl (rpl A a (A a)) b (A b)) = dtm n A := dt_cg (fun i j _ _ => by
    by_cases e2 : i = b
    · rw [e2, rpl_s]
    · rw [rpl_o e2]
      by_cases e1 : i = a
      · rw [e1, rpl_s]
      · rw [rpl_o e1])
  rw [i1] at z1
  omega
/-- the first column has but its first entry -/
theorem dt_c0 {n : Nat} {A : Nat → Nat → Int} (h : ∀ i, 0 < i → i < n + 1 → A i 0 = 0) : dtm (n + 1) A = A 0 0 * dtm n (fun a b => A (a + 1) (b + 1)) := by
  show sgm (fun i => sgn9 i * A i 0 * dtm n (mnr A i)) (n + 1) = _
  have e : ∀ k, k ≤ n → sgm (fun i => sgn9 i * A i 0 * dtm n (mnr A i)) (k + 1) = A 0 0 * dtm n (mnr A 0) := by
    intro k
    induction k with
    | zero =>
      intro _
      show 0 + sgn9 0 * A 0 0 * dtm n (mnr A 0) = _
      rw [show sgn9 0 = 1 from rfl, Int.one_mul, Int.zero_add]
    | succ k ih =>
      intro hk
      show sgm (fun i => sgn9 i * A i 0 * dtm n (mnr A i)) (k + 1) + sgn9 (k + 1) * A (k + 1) 0 * dtm n (mnr A (k + 1)) = _
      rw [ih (by omega), h (k + 1) (by omega) (by omega), Int.mul_zero, Int.zero_mul, Int.add_zero]
  rw [e n (Nat.le_refl n)]
  rw [dt_cg (n := n) (A := mnr A 0) (B := fun a b => A (a + 1) (b + 1)) (fun a b _ _ => mnr_ge (Nat.not_lt_zero a))]
theorem dt_00 {n : Nat} {A : Nat → Nat → Int} (h : ∀ i, i < n + 1 → A i 0 = 0) : dtm (n + 1) A = 0 := by
  rw [dt_c0 (fun i _ hi => h i hi), h 0 (by omega), Int.zero_mul]
/-- the last row and column are those of the unit -/
theorem dt_la : ∀ {n : Nat} {A : Nat → Nat → Int}, (∀ j, j < n → A n j = 0) → A n n = 1 → (∀ i, i < n → A i n = 0) → dtm (n + 1) A = dtm n A
  | 0, A, _, h1, _ => by
    show 0 + sgn9 0 * A 0 0 * 1 = 1
    rw [h1]; rfl
  | n + 1, A, h0, h1, h2 => by
    show sgm (fun i => sgn9 i * A i 0 * dtm (n + 1) (mnr A i)) (n + 1) + sgn9 (n + 1) * A (n + 1) 0 * dtm (n + 1) (mnr A (n + 1)) = sgm (fun i => sgn9 i * A i 0 * dtm n (mnr A i)) (n + 1)
    rw [h0 0 (by omega), Int.mul_zero, Int.zero_mul, Int.add_zero]
    refine sgm_cg (fun i hi => ?_)
    show sgn9 i * A i 0 * dtm (n + 1) (mnr A i) = sgn9 i * A i 0 * dtm n (mnr A i)
    rw [dt_la (n := n) (A := mnr A i) (fun j hj => by rw [mnr_ge (by omega)]; exact h0 _ (by omega)) (by rw [mnr_ge (by omega)]; exact h1) (fun a ha => by
      by_cases g : a < i
      · rw [mnr_lt g]; exact h2 _ (by omega)
      · rw [mnr_ge g]; exact h2 _ (by omega))]
/-- a row of the unit: the column does not matter -/
theorem dt_clr {n : Nat} {A B : Nat → Nat → Int} {q : Nat} (hq : q < n) (hA : ∀ j, j < n → A q j = if j = q then 1 else 0) (hB : ∀ j, j < n → B q j = A q j) (h : ∀ i j, i < n → j < n → j ≠ q → B i j = A i j) : dtm n B = dtm n A := by
  have key : ∀ k, k ≤ n → dtm n (fun i j => if i < k then B i j else A i j) = dtm n A := by
    intro k
    induction k with
    | zero => intro _; exact dt_cg (fun i j _ _ => if_neg (Nat.not_lt_zero i))
    | succ k ih =>
      intro hk
      rw [← ih (by omega)]
      by_cases e : k = q
      · exact dt_cg (fun i j hi hj => by
          show (if i < k + 1 then B i j else A i j) = (if i < k then B i j else A i j)
          by_cases e1 : i = k
          · rw [if_pos (by omega), if_neg (by omega), e1, e]; exact hB j hj
          · by_cases e2 : i < k
            · rw [if_pos (by omega), if_pos e2]
            · rw [if_neg (by omega), if_neg e2])
      · rw [← dt_ad (n := n) (A := fun i j => if i < k then B i j else A i j) (q := k) (r := q) (c := B k q - A k q) (by omega) hq e]
        exact dt_cg (fun i j hi hj => by
          show (if i < k + 1 then B i j else A i j) = rpl (fun i j => if i < k then B i j else A i j) k (fun j => (if k < k then B k j else A k j) + (B k q - A k q) * (if q < k then B q j else A q j)) i j
          by_cases e1 : i = k
          · rw [e1, rpl_s, if_pos (by omega), if_neg (by omega)]
            have hqj : (if q < k then B q j else A q j) = if j = q then 1 else 0 := by
              by_cases g : q < k
              · rw [if_pos g, hB j hj]; exact hA j hj
              · rw [if_neg g]; exact hA j hj
            rw [hqj]
            by_cases e3 : j = q
            · rw [if_pos e3, e3, Int.mul_one]; omega
            · rw [if_neg e3, Int.mul_zero, Int.add_zero]; exact h k j (by omega) hj e3
          · rw [rpl_o e1]
            by_cases e2 : i < k
            · rw [if_pos (by omega), if_pos e2]
            · rw [if_neg (by omega), if_neg e2])
  rw [← key n (Nat.le_refl n)]
  exact dt_cg (fun i j hi _ => (if_pos hi).symm)
/-- rows out of fewer vectors than rows -/
theorem dt_few {n : Nat} {f : Nat → Nat → Int} {k : Nat} (hk : k < n) : ∀ {m : Nat} {A : Nat → Nat → Int}, m ≤ n → (∀ i, m ≤ i → i < n → ∃ s, s < n ∧ s ≠ k ∧ ∀ j, j < n → A i j = f s j) → (∀ i, i < m → ∃ c : Nat → Int, c k = 0 ∧ ∀ j, j < n → A i j = sgm (fun s => c s * f s j) n) → dtm n A = 0
  | 0, A, _, h1, _ => by
    have hch : ∃ σ : Nat → Nat, ∀ i, i < n → σ i < n ∧ σ i ≠ k ∧ ∀ j, j < n → A i j = f (σ i) j := by
      refine ⟨fun i => if h : i < n then (h1 i (Nat.zero_le _) h).choose else 0, fun i hi => ?_⟩
      show (if h : i < n then (h1 i (Nat.zero_le _) h).choose else 0) < n ∧ (if h : i < n then (h1 i (Nat.zero_le _) h).choose else 0) ≠ k ∧ ∀ j, j < n → A i j = f (if h : i < n then (h1 i (Nat.zero_le _) h).choose else 0) j
      rw [dif_pos hi]
      exact (h1 i (Nat.zero_le _) hi).choose_spec
    obtain ⟨σ, hσ⟩ := hch
    have hex : ∃ a b, a < n ∧ b < n ∧ a ≠ b ∧ σ a = σ b := Classical.byContradiction (fun g => by
      obtain ⟨i, hi, e⟩ := inj_sj (σ := σ) (n := n) (fun i hi => (hσ i hi).1) (fun i j hi hj e => Classical.byContradiction (fun q => g ⟨i, j, hi, hj, q, e⟩)) hk
      exact (hσ i hi).2.1 e)
    obtain ⟨a, b, ha, hb, hne, e⟩ := hex
    exact dt_ee ha hb hne (fun j hj => by rw [(hσ a ha).2.2 j hj, (hσ b hb).2.2 j hj, e])
  | m + 1, A, hm, h1, h2 => by
    obtain ⟨c, c1, c2⟩ := h2 m (by omega)
    have e := dt_sum (n := n) (A := A) (q := m) (c := c) (v := f) (by omega) n
    rw [rpl_id (v := fun j => sgm (fun s => c s * f s j) n) (fun j hj => (c2 j hj).symm)] at e
    rw [e]
    have z : ∀ s, s < n → c s * dtm n (rpl A m (f s)) = (fun _ => (0 : Int)) s := fun s hs => by
      show c s * dtm n (rpl A m (f s)) = 0
      by_cases e1 : s = k
      · rw [e1, c1, Int.zero_mul]
      · rw [dt_few hk (m := m) (A := rpl A m (f s)) (by omega) (fun i h3 h4 => by
          by_cases e2 : i = m
          · exact ⟨s, hs, e1, fun j _ => by rw [e2, rpl_s]⟩
          · obtain ⟨t, t1, t2, t3⟩ := h1 i (by omega) h4
            exact ⟨t, t1, t2, fun j hj => by rw [rpl_o e2]; exact t3 j hj⟩) (fun i h3 => by
          obtain ⟨d, d1, d2⟩ := h2 i (by omega)
          exact ⟨d, d1, fun j hj => by rw [rpl_o (by omega)]; exact d2 j hj⟩), Int.mul_zero]
    rw [sgm_cg z, sgm_0]
theorem sgm_one {f : Nat → Int} {a : Nat} : ∀ {n : Nat}, a < n → (∀ i, i < n → i ≠ a → f i = 0) → sgm f n = f a
  | 0, h, _ => absurd h (Nat.not_lt_zero _)
  | n + 1, h, hz => by
    show sgm f n + f n = f a
    by_cases e : a = n
    · rw [sgm_cg (f := f) (g := fun _ => 0) (n := n) (fun i hi => hz i (by omega) (by omega)), sgm_0, e, Int.zero_add]
    · rw [sgm_one (n := n) (by omega) (fun i hi hne => hz i (by omega) hne), hz n (by omega) (fun q => e q.symm), Int.add_zero]
/-- columns that depend on one another -/
theorem dt_ker {n : Nat} {A : Nat → Nat → Int} {v : Nat → Int} {k : Nat} (hk : k < n) (hv : v k = 1) (h : ∀ i, i < n → sgm (fun j => A i j * v j) n = 0) : dtm n A = 0 := by
  refine dt_few (f := fun s j => (if j = s then 1 else 0) + (if j = k then - v s else 0)) hk (m := n) (Nat.le_refl n) (fun i h1 h2 => absurd h2 (by omega)) (fun i hi => ⟨fun s => if s = k then 0 else A i s, if_pos rfl, fun j hj => ?_⟩)
  show A i j = sgm (fun s => (if s = k then 0 else A i s) * ((if j = s then 1 else 0) + (if j = k then - v s else 0))) n
  by_cases e : j = k
  · have h0 := h i hi
    have hs : ∀ s, s < n → (if s = k then 0 else A i s) * ((if j = s then 1 else 0) + (if j = k then - v s else 0)) = (if s = k then A i k else 0) - A i s * v s := fun s _ => by
      rw [if_pos e]
      by_cases e1 : s = k
      · rw [if_pos e1, if_pos e1, e1, hv, Int.zero_mul]; omega
      · rw [if_neg e1, if_neg e1, if_neg (by omega), Int.zero_add, Int.mul_neg]; omega
    rw [sgm_cg hs, sgm_sub (f := fun s => if s = k then A i k else 0) (g := fun s => A i s * v s), h0, sgm_one (f := fun s => if s = k then A i k else 0) hk (fun s _ hne => if_neg hne), e]
    show A i k = (if k = k then A i k else 0) - 0
    rw [if_pos rfl]; omega
  · rw [sgm_one (f := fun s => (if s = k then 0 else A i s) * ((if j = s then 1 else 0) + (if j = k then - v s else 0))) hj (fun s _ hne => by
      show (if s = k then 0 else A i s) * ((if j = s then 1 else 0) + (if j = k then - v s else 0)) = 0
      rw [if_neg (fun q => hne (Eq.symm q)), if_neg e]; omega)]
    show A i j = (if j = k then 0 else A i j) * ((if j = j then 1 else 0) + (if j = k then - v j else 0))
    rw [if_neg e, if_pos rfl, if_neg e]; omega
