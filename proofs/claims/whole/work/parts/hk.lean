theorem cnt_up {f : Nat → Int} {k c b : Int} (h0 : 0 ≤ k) (hc : c = sgm f (Int.toNat k)) (hb : b = f (Int.toNat k)) : c + b = sgm f (Int.toNat (k + 1)) := by
  rw [show Int.toNat (k + 1) = Int.toNat k + 1 by omega, hc, hb]; rfl
/-- how often an arc of a kind goes from a to b -/
def tmF (d : Int) (F T W C : Nat → Int) (a b w c : Int) (k : Nat) : Int := if ((F k = a ∧ T k = b) ∨ (d = 0 ∧ F k = b ∧ T k = a)) ∧ W k = w ∧ C k = c then 1 else 0
def tmA (m : Nat) (d : Int) (F T W C : Nat → Int) (a b w c : Int) : Int := sgm (tmF d F T W C a b w c) m
theorem tmf_b {d : Int} {F T W C : Nat → Int} {a b w c x : Int} {k : Nat} (h : (x = 1 ∧ ((F k = a ∧ T k = b) ∨ (d = 0 ∧ F k = b ∧ T k = a)) ∧ W k = w ∧ C k = c) ∨ (x = 0 ∧ ¬ (((F k = a ∧ T k = b) ∨ (d = 0 ∧ F k = b ∧ T k = a)) ∧ W k = w ∧ C k = c))) : x = tmF d F T W C a b w c k := by
  unfold tmF
  rcases h with ⟨e, g⟩ | ⟨e, g⟩
  · rw [if_pos g, e]
  · rw [if_neg g, e]
/-- the ends of arcs at a node -/
def edF (d : Int) (F T : Nat → Int) (v : Int) (k : Nat) : Int := (if F k = v then 1 else 0) + (if T k = v then (if d = 0 then 1 else 1000) else 0)
def edA (m : Nat) (d : Int) (F T : Nat → Int) (v : Int) : Int := sgm (edF d F T v) m
theorem edf_b {d : Int} {F T : Nat → Int} {v x y : Int} {k : Nat} (h : (x = 1 ∧ F k = v) ∨ (x = 0 ∧ F k ≠ v)) (h' : (T k ≠ v ∧ y = 0) ∨ (T k = v ∧ d ≠ 0 ∧ y = 1000) ∨ (T k = v ∧ d = 0 ∧ y = 1)) : x + y = edF d F T v k := by
  unfold edF
  have e1 : x = if F k = v then 1 else 0 := by
    rcases h with ⟨e, g⟩ | ⟨e, g⟩
    · rw [if_pos g, e]
    · rw [if_neg g, e]
  have e2 : y = if T k = v then (if d = 0 then 1 else 1000) else 0 := by
    rcases h' with ⟨g, e⟩ | ⟨g, q, e⟩ | ⟨g, q, e⟩
    · rw [if_neg g, e]
    · rw [if_pos g, if_neg q, e]
    · rw [if_pos g, if_pos q, e]
  rw [e1, e2]
/-- an arc between two nodes -/
def bwF (F T : Nat → Int) (u v : Int) (k : Nat) : Int := if (F k = u ∧ T k = v) ∨ (F k = v ∧ T k = u) then 1 else 0
def bwA (m : Nat) (F T : Nat → Int) (u v : Int) : Int := sgm (bwF F T u v) m
theorem bwf_b {F T : Nat → Int} {u v x : Int} {k : Nat} (h : (x = 1 ∧ ((F k = u ∧ T k = v) ∨ (F k = v ∧ T k = u))) ∨ (x = 0 ∧ ¬ ((F k = u ∧ T k = v) ∨ (F k = v ∧ T k = u)))) : x = bwF F T u v k := by
  unfold bwF
  rcases h with ⟨e, g⟩ | ⟨e, g⟩
  · rw [if_pos g, e]
  · rw [if_neg g, e]
/-- what is between u and v is the same under a numbering, in kinds and in number -/
def prP (m : Nat) (d : Int) (F T W C F' T' W' C' im : Nat → Int) (u v : Int) : Prop := (∀ k, k < m → ((F k = u ∧ T k = v) ∨ (F k = v ∧ T k = u)) → tmA m d F T W C (F k) (T k) (W k) (C k) = tmA m d F' T' W' C' (im (F k).toNat) (im (T k).toNat) (W k) (C k)) ∧ bwA m F T u v = bwA m F' T' (im u.toNat) (im v.toNat)
/-- a node fits with those before it -/
def ftP (m : Nat) (d : Int) (F T W C F' T' W' C' im : Nat → Int) (v : Int) : Prop := edA m d F T v = edA m d F' T' (im v.toNat) ∧ ∀ u : Nat, (u : Int) ≤ v → prP m d F T W C F' T' W' C' im (u : Int) v
