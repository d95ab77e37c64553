/-- how many of the arcs below k a long has -/
def cnL (x : Int64) : Nat → Nat
  | 0 => 0
  | k + 1 => cnL x k + (if x.toBitVec.getLsbD k = true then 1 else 0)
theorem cnl_y {x : Int64} {k : Nat} (h : MeL x k) : cnL x (k + 1) = cnL x k + 1 := by
  show cnL x k + (if x.toBitVec.getLsbD k = true then 1 else 0) = _
  rw [if_pos (show x.toBitVec.getLsbD k = true from h)]
theorem cnl_n {x : Int64} {k : Nat} (h : ¬ MeL x k) : cnL x (k + 1) = cnL x k := by
  show cnL x k + (if x.toBitVec.getLsbD k = true then 1 else 0) = _
  rw [if_neg (show ¬ x.toBitVec.getLsbD k = true from h)]; rfl
theorem cnl_le (x : Int64) : ∀ k : Nat, cnL x k ≤ k
  | 0 => Nat.le_refl _
  | k + 1 => by
    have ih := cnl_le x k
    by_cases h : MeL x k
    · rw [cnl_y h]; omega
    · rw [cnl_n h]; omega
theorem cnl_ins {x z : Int64} {v : Nat} (h : ∀ i, MeL z i ↔ MeL x i ∨ i = v) (hv : ¬ MeL x v) : ∀ k : Nat, (k ≤ v → cnL z k = cnL x k) ∧ (v < k → cnL z k = cnL x k + 1)
  | 0 => ⟨fun _ => rfl, fun g => by omega⟩
  | k + 1 => by
    have ih := cnl_ins h hv k
    by_cases e : k = v
    · subst e
      have h1 := ih.1 (Nat.le_refl _)
      refine ⟨fun g => by omega, fun _ => ?_⟩
      rw [cnl_y ((h k).mpr (Or.inr rfl)), cnl_n hv, h1]
    · by_cases hm : MeL x k
      · rw [cnl_y hm, cnl_y ((h k).mpr (Or.inl hm))]
        exact ⟨fun g => by rw [ih.1 (by omega)], fun g => by rw [ih.2 (by omega)]⟩
      · rw [cnl_n hm, cnl_n (fun g => ((h k).mp g).elim hm e)]
        exact ⟨fun g => ih.1 (by omega), fun g => ih.2 (by omega)⟩
theorem cnl_all {x : Int64} : ∀ {m : Nat}, m ≤ cnL x m → ∀ j, j < m → MeL x j
  | 0, _ => fun j h => by omega
  | m + 1, h => by
    have hl := cnl_le x m
    intro j hj
    by_cases hm : MeL x m
    · rw [cnl_y hm] at h
      by_cases e : j = m
      · rw [e]; exact hm
      · exact cnl_all (m := m) (by omega) j (by omega)
    · rw [cnl_n hm] at h; omega
/-- r rounds are over: so many have been looked at, or all -/
def lkD (x : Int64) (m : Nat) (r : Int) : Prop := r ≤ ((cnL x m : Nat) : Int) ∨ ∀ j, j < m → MeL x j
theorem lkd_0 {m : Nat} : lkD 0 m 0 := Or.inl (by omega)
theorem lkd_y {x z : Int64} {m : Nat} {r : Int} {v : Nat} (h : lkD x m r) (hz : ∀ i, MeL z i ↔ MeL x i ∨ i = v) (hv : ¬ MeL x v) (hm : v < m) : lkD z m (r + 1) := by
  rcases h with h | h
  · have := (cnl_ins hz hv m).2 hm
    exact Or.inl (by omega)
  · exact absurd (h v hm) hv
theorem lkd_n {x : Int64} {m : Nat} {r : Int} (h : ∀ j, j < m → MeL x j) : lkD x m r := Or.inr h
theorem lkd_e {x : Int64} {m : Nat} {r : Int} (h : lkD x m r) (hr : (m : Int) ≤ r) : ∀ j, j < m → MeL x j := by
  rcases h with h | h
  · exact cnl_all (by omega)
  · exact h
theorem lgw_cg {W : Nat → Int} {g g1 : Nat → Bool} : ∀ {m : Nat}, (∀ i, i < m → g i = g1 i) → lgW W g m = lgW W g1 m
  | 0, _ => rfl
  | m + 1, h => by
    show lgW W g m + (if g m then W m else 0) = lgW W g1 m + (if g1 m then W m else 0)
    rw [lgw_cg (m := m) (fun i hi => h i (by omega)), h m (by omega)]
