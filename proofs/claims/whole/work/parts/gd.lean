/-- what the reference says of cliques, in the words of the class -/
theorem cl_ref1 {be : Nat → Int} {m n : Nat} {F T : Nat → Int} {r : Int} (hn : n ≤ 16) (hbe : ∀ i, i < 16 → ∀ j, Me (be i) j ↔ joA m F T i j) (h : clA (clR be 1) (((2 ^ n : Nat) : Int) - 1) r) : clA (fun i j => ¬ joA m F T i j) (((2 ^ n : Nat) : Int) - 1) r :=
  cl_cg (fun i j hi _ _ => by
    have h1 := (Me_all i).mp hi
    exact ⟨fun g q => clR_1 rfl g ((hbe i (by omega) j).mpr q), fun g => Or.inl ⟨rfl, fun q => g ((hbe i (by omega) j).mp q)⟩⟩) h
theorem cl_ref0 {be : Nat → Int} {m n : Nat} {F T : Nat → Int} {r : Int} (hn : n ≤ 16) (hbe : ∀ i, i < 16 → ∀ j, Me (be i) j ↔ joA m F T i j) (h : clA (clR be 0) (((2 ^ n : Nat) : Int) - 1) r) : clA (joA m F T) (((2 ^ n : Nat) : Int) - 1) r :=
  cl_cg (fun i j hi _ _ => by
    have h1 := (Me_all i).mp hi
    exact ⟨fun g => (hbe i (by omega) j).mp (clR_0 rfl g), fun g => Or.inr ⟨rfl, (hbe i (by omega) j).mpr g⟩⟩) h
theorem cl_uqn {R : Nat → Nat → Prop} {n : Nat} {r q : Int} (hn : n ≤ 16) (h : clA R (((2 ^ n : Nat) : Int) - 1) r) (h' : clA R (((2 ^ n : Nat) : Int) - 1) q) : r = q := by
  have h1 : 1 ≤ 2 ^ n := Nat.one_le_two_pow
  have h2 : 2 ^ n ≤ 2 ^ 16 := Nat.pow_le_pow_right (by omega) hn
  exact cl_uq ⟨by omega, by omega⟩ h h'
/-- the lightest arcs by which all hangs together: weight by weight, arc by arc: labels, and which were taken -/
abbrev LgS := (Nat → Int) × (Nat → Bool)
def lgT (F T W : Nat → Int) (w : Int) (k : Nat) (s : LgS) : LgS := if W k = w ∧ s.1 (F k).toNat ≠ s.1 (T k).toNat then ⟨fun v => if s.1 v = s.1 (T k).toNat then s.1 (F k).toNat else s.1 v, fun i => if i = k then true else s.2 i⟩ else s
def lgI (F T W : Nat → Int) (w : Int) (s : LgS) : Nat → LgS
  | 0 => s
  | k + 1 => lgT F T W w k (lgI F T W w s k)
def lgO (m : Nat) (F T W : Nat → Int) : Nat → LgS
  | 0 => ⟨fun v => (v : Int), fun _ => false⟩
  | j + 1 => lgI F T W ((j : Int) - 1000) (lgO m F T W j) m
/-- when weight w and the arcs below k of it are done -/
def lgA (m : Nat) (F T W : Nat → Int) (w : Int) (k : Nat) : LgS := lgI F T W w (lgO m F T W (w + 1000).toNat) k
theorem lg_00 {m : Nat} {F T W : Nat → Int} : lgA m F T W (-1000) 0 = ⟨fun v => (v : Int), fun _ => false⟩ := rfl
theorem lgn_k {m : Nat} {F T W : Nat → Int} {w : Int} {k : Nat} : lgA m F T W w (k + 1) = lgT F T W w k (lgA m F T W w k) := rfl
theorem lgn_w {m : Nat} {F T W : Nat → Int} {w : Int} (hw : -1000 ≤ w) : lgA m F T W (w + 1) 0 = lgA m F T W w m := by
  unfold lgA
  rw [show (w + 1 + 1000).toNat = (w + 1000).toNat + 1 by omega]
  show lgI F T W (((w + 1000).toNat : Int) - 1000) (lgO m F T W (w + 1000).toNat) m = _
  rw [show (((w + 1000).toNat : Nat) : Int) - 1000 = w by omega]
theorem lgt_no {F T W : Nat → Int} {w : Int} {k : Nat} {s : LgS} (h : W k ≠ w) : lgT F T W w k s = s := if_neg (fun g => h g.1)
/-- nothing between: k arcs of weight w on -/
theorem lgn_sk {m : Nat} {F T W : Nat → Int} {w : Int} {k : Nat} : ∀ d : Nat, (∀ i, k ≤ i → i < k + d → W i ≠ w) → lgA m F T W w (k + d) = lgA m F T W w k
  | 0, _ => rfl
  | d + 1, h => by
    rw [show k + (d + 1) = (k + d) + 1 by omega, lgn_k, lgt_no (h (k + d) (by omega) (by omega))]
    exact lgn_sk d (fun i h1 h2 => h i h1 (by omega))
/-- nothing between: whole weights on -/
theorem lgn_sw {m : Nat} {F T W : Nat → Int} {w : Int} (hw : -1000 ≤ w) : ∀ d : Nat, (∀ i, i < m → ¬ (w ≤ W i ∧ W i < w + (d : Int))) → lgA m F T W (w + (d : Int)) 0 = lgA m F T W w 0
  | 0, _ => by rw [show w + ((0 : Nat) : Int) = w by omega]
  | d + 1, h => by
    rw [show w + ((d + 1 : Nat) : Int) = (w + (d : Int)) + 1 by omega, lgn_w (by omega)]
    have h1 := lgn_sk (m := m) (F := F) (T := T) (W := W) (w := w + (d : Int)) (k := 0) m (fun i _ hi e => h i (by omega) (by omega))
    rw [show 0 + m = m by omega] at h1
    rw [h1]
    exact lgn_sw hw d (fun i hi g => h i hi (by omega))
/-- the next arc: nothing between (w, k) and (v, i) -/
theorem lgn_to {m : Nat} {F T W : Nat → Int} {w v : Int} {k i : Nat} (hw : -1000 ≤ w) (hk : k ≤ m) (hi : i ≤ m) (h : w < v ∨ (w = v ∧ k ≤ i)) (hn : ∀ j, j < m → ¬ ((w < W j ∨ (W j = w ∧ k ≤ j)) ∧ (W j < v ∨ (W j = v ∧ j < i)))) : lgA m F T W v i = lgA m F T W w k := by
  rcases h with h | ⟨h, hki⟩
  · have e1 : lgA m F T W v i = lgA m F T W v 0 := by
      have h1 := lgn_sk (m := m) (F := F) (T := T) (W := W) (w := v) (k := 0) i (fun j _ hj e => hn j (by omega) ⟨Or.inl (by omega), Or.inr ⟨e, by omega⟩⟩)
      rw [show 0 + i = i by omega] at h1; exact h1
    have e2 : lgA m F T W v 0 = lgA m F T W (w + 1) 0 := by
      have h1 := lgn_sw (m := m) (F := F) (T := T) (W := W) (w := w + 1) (by omega) (v - (w + 1)).toNat (fun j hj g => hn j hj ⟨Or.inl (by omega), Or.inl (by omega)⟩)
      rw [show w + 1 + (((v - (w + 1)).toNat : Nat) : Int) = v by omega] at h1; exact h1
    have e3 : lgA m F T W w m = lgA m F T W w k := by
      have h1 := lgn_sk (m := m) (F := F) (T := T) (W := W) (w := w) (k := k) (m - k) (fun j hj1 hj2 e => hn j (by omega) ⟨Or.inr ⟨e, hj1⟩, Or.inl (by omega)⟩)
      rw [show k + (m - k) = m by omega] at h1; exact h1
    rw [e1, e2, lgn_w hw, e3]
  · subst h
    have h1 := lgn_sk (m := m) (F := F) (T := T) (W := W) (w := w) (k := k) (i - k) (fun j hj1 hj2 e => hn j (by omega) ⟨Or.inr ⟨e, hj1⟩, Or.inr ⟨e, by omega⟩⟩)
    rw [show k + (i - k) = i by omega] at h1; exact h1
/-- the weights of those that were taken -/
def lgW (W : Nat → Int) (g : Nat → Bool) : Nat → Int
  | 0 => 0
  | k + 1 => lgW W g k + (if g k then W k else 0)
theorem lgw_ins {W : Nat → Int} {g : Nat → Bool} {i : Nat} (h : g i = false) : ∀ k : Nat, lgW W (fun j => if j = i then true else g j) k = lgW W g k + (if i < k then W i else 0)
  | 0 => by rw [if_neg (by omega)]; rfl
  | k + 1 => by
    have ih := lgw_ins (W := W) h k
    show lgW W (fun j => if j = i then true else g j) k + (if (if k = i then true else g k) then W k else 0) = (lgW W g k + (if g k then W k else 0)) + (if i < k + 1 then W i else 0)
    rw [ih]
    by_cases e : k = i
    · subst e
      rw [if_neg (show ¬ k < k by omega), if_pos (show k < k + 1 by omega), h]
      simp
    · rw [if_neg e]
      by_cases g1 : i < k
      · rw [if_pos g1, if_pos (show i < k + 1 by omega)]; omega
      · rw [if_neg g1, if_neg (show ¬ i < k + 1 by omega)]; omega
theorem lgw_b {W : Nat → Int} {g : Nat → Bool} {m : Nat} (h : ∀ k, k < m → -1000 ≤ W k ∧ W k ≤ 1000) : ∀ k : Nat, k ≤ m → -(1000 * (k : Int)) ≤ lgW W g k ∧ lgW W g k ≤ 1000 * (k : Int)
  | 0, _ => ⟨by show -(1000 * ((0 : Nat) : Int)) ≤ 0; omega, by show (0 : Int) ≤ 1000 * ((0 : Nat) : Int); omega⟩
  | k + 1, hk => by
    have ih := lgw_b (g := g) h k (by omega)
    have h1 := h k (by omega)
    show -(1000 * ((k + 1 : Nat) : Int)) ≤ lgW W g k + (if g k then W k else 0) ∧ lgW W g k + (if g k then W k else 0) ≤ 1000 * ((k + 1 : Nat) : Int)
    by_cases e : g k = true
    · rw [if_pos e]; omega
    · rw [if_neg e]; omega
