/-- the class: which arcs have been looked at, when weight w and the arcs below k of it are done -/
def lkS (m : Nat) (W : Nat → Int) (L : Nat → Prop) (w : Int) (k : Nat) : Prop := ∀ j, j < m → (L j ↔ W j < w ∨ (W j = w ∧ j < k))
theorem lks_0 {m : Nat} {W : Nat → Int} {L : Nat → Prop} (hW : ∀ k, k < m → -1000 ≤ W k ∧ W k ≤ 1000) (hL : ∀ j, ¬ L j) : lkS m W L (-1000) 0 := fun j hj => ⟨fun g => absurd g (hL j), fun g => by have := hW j hj; omega⟩
/-- the lightest that has not been looked at, of several the first -/
def lmP (m : Nat) (W : Nat → Int) (L : Nat → Prop) (i : Nat) : Prop := (i < m ∧ ¬ L i) ∧ ∀ j, j < m → ¬ L j → W i < W j ∨ (W i = W j ∧ i ≤ j)
theorem lks_st {m : Nat} {F T W : Nat → Int} {L L1 : Nat → Prop} {w : Int} {k i : Nat} (hS : lkS m W L w k) (hw : -1000 ≤ w) (hk : k ≤ m) (hm : lmP m W L i) (h1 : ∀ j, L1 j ↔ L j ∨ j = i) : lkS m W L1 (W i) (i + 1) ∧ lgA m F T W (W i) i = lgA m F T W w k := by
  obtain ⟨⟨hi, hn⟩, hmin⟩ := hm
  have hi9 : ¬ (W i < w ∨ (W i = w ∧ i < k)) := fun g => hn ((hS i hi).mpr g)
  refine ⟨fun j hj => ?_, lgn_to hw hk (by omega) (by omega) (fun j hj g => ?_)⟩
  · rw [h1 j]
    constructor
    · rintro (g | g)
      · have := (hS j hj).mp g
        omega
      · subst g; exact Or.inr ⟨rfl, by omega⟩
    · intro g
      by_cases e : j = i
      · exact Or.inr e
      · refine Or.inl (Classical.byContradiction (fun q => ?_))
        have := hmin j hj q
        omega
  · have q : ¬ L j := fun q => by
      have := (hS j hj).mp q
      omega
    have := hmin j hj q
    omega
theorem lks_end {m : Nat} {F T W : Nat → Int} {L : Nat → Prop} {w : Int} {k : Nat} (hS : lkS m W L w k) (hw : -1000 ≤ w ∧ w ≤ 1000) (hk : k ≤ m) (hL : ∀ j, j < m → L j) : lgA m F T W 1001 0 = lgA m F T W w k :=
  lgn_to hw.1 hk (Nat.zero_le m) (Or.inl (by omega)) (fun j hj g => by
    have := (hS j hj).mp (hL j hj)
    omega)
/-- the class's rows -/
def lgC (m : Nat) (F T W : Nat → Int) (n : Nat) (L C : Nat → Prop) (lb : Nat → Int) : Prop := ∃ (w : Int) (k : Nat), (-1000 ≤ w ∧ w ≤ 1000) ∧ k ≤ m ∧ lkS m W L w k ∧ (∀ v, v < n → lb v = (lgA m F T W w k).1 v) ∧ ∀ i, C i ↔ (lgA m F T W w k).2 i = true
theorem lgc_0 {m : Nat} {F T W : Nat → Int} {n : Nat} {L C : Nat → Prop} {lb : Nat → Int} (hW : ∀ k, k < m → -1000 ≤ W k ∧ W k ≤ 1000) (hL : ∀ j, ¬ L j) (hC : ∀ j, ¬ C j) (hl : ∀ v, v < n → lb v = (v : Int)) : lgC m F T W n L C lb := ⟨-1000, 0, by omega, Nat.zero_le m, lks_0 hW hL, hl, fun i => ⟨fun g => absurd g (hC i), fun g => by cases g⟩⟩
theorem lgc_eq {m : Nat} {F T W : Nat → Int} {n : Nat} {L L1 C : Nat → Prop} {lb : Nat → Int} {i : Nat} (hW : ∀ k, k < m → -1000 ≤ W k ∧ W k ≤ 1000) (h : lgC m F T W n L C lb) (hm : lmP m W L i) (h1 : ∀ j, L1 j ↔ L j ∨ j = i) (hF : (F i).toNat < n ∧ (T i).toNat < n) (he : lb (F i).toNat = lb (T i).toNat) : lgC m F T W n L1 C lb := by
  obtain ⟨w, k, hw, hk, hS, hl, hC⟩ := h
  obtain ⟨s1, s2⟩ := lks_st (F := F) (T := T) hS hw.1 hk hm h1
  have hb := hW i hm.1.1
  have e : lgA m F T W (W i) (i + 1) = lgA m F T W w k := by
    rw [lgn_k, s2]
    exact if_neg (fun g => g.2 (by rw [← hl _ hF.1, ← hl _ hF.2]; exact he))
  exact ⟨W i, i + 1, hb, hm.1.1, s1, fun v hv => by rw [e]; exact hl v hv, fun j => by rw [e]; exact hC j⟩
theorem lgc_ne {m : Nat} {F T W : Nat → Int} {n : Nat} {L L1 C C1 : Nat → Prop} {lb lb1 : Nat → Int} {i : Nat} (hW : ∀ k, k < m → -1000 ≤ W k ∧ W k ≤ 1000) (h : lgC m F T W n L C lb) (hm : lmP m W L i) (h1 : ∀ j, L1 j ↔ L j ∨ j = i) (h2 : ∀ j, C1 j ↔ C j ∨ j = i) (hF : (F i).toNat < n ∧ (T i).toNat < n) (he : lb (F i).toNat ≠ lb (T i).toNat) (h3 : ∀ v, v < n → lb1 v = if lb v = lb (T i).toNat then lb (F i).toNat else lb v) : lgC m F T W n L1 C1 lb1 := by
  obtain ⟨w, k, hw, hk, hS, hl, hC⟩ := h
  obtain ⟨s1, s2⟩ := lks_st (F := F) (T := T) hS hw.1 hk hm h1
  have hb := hW i hm.1.1
  have e : lgA m F T W (W i) (i + 1) = ⟨fun v => if (lgA m F T W w k).1 v = (lgA m F T W w k).1 (T i).toNat then (lgA m F T W w k).1 (F i).toNat else (lgA m F T W w k).1 v, fun j => if j = i then true else (lgA m F T W w k).2 j⟩ := by
    rw [lgn_k, s2]
    exact if_pos ⟨rfl, by rw [← hl _ hF.1, ← hl _ hF.2]; exact he⟩
  refine ⟨W i, i + 1, hb, hm.1.1, s1, fun v hv => ?_, fun j => ?_⟩
  · rw [e, h3 v hv, hl v hv, hl _ hF.1, hl _ hF.2]
  · rw [e, h2 j, hC j]
    show ((lgA m F T W w k).2 j = true ∨ j = i) ↔ (if j = i then true else (lgA m F T W w k).2 j) = true
    by_cases q : j = i
    · rw [if_pos q]; exact ⟨fun _ => rfl, fun _ => Or.inr q⟩
    · rw [if_neg q]; exact ⟨fun g => g.elim id (fun g => absurd g q), Or.inl⟩
theorem lgc_end {m : Nat} {F T W : Nat → Int} {n : Nat} {L C : Nat → Prop} {lb : Nat → Int} (h : lgC m F T W n L C lb) (hL : ∀ j, j < m → L j) (i : Nat) : C i ↔ (lgA m F T W 1001 0).2 i = true := by
  obtain ⟨w, k, hw, hk, hS, hl, hC⟩ := h
  rw [lks_end (F := F) (T := T) hS hw hk hL]; exact hC i
