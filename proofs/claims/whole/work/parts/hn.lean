section PL
variable {P : (Nat → Int) → Int → Prop} {n : Int}
/-- a numbering that keeps to P -/
def vaP (P : (Nat → Int) → Int → Prop) (n : Int) (im : Nat → Int) : Prop := (∀ v : Nat, (v : Int) < n → (0 ≤ im v ∧ im v < n) ∧ P im (v : Int)) ∧ ∀ i j : Nat, (i : Int) < n → (j : Int) < n → im i = im j → i = j
/-- the first v are numbered so -/
def pfP (P : (Nat → Int) → Int → Prop) (n : Int) (im : Nat → Int) (v : Int) : Prop := (∀ i : Nat, (i : Int) < v → (0 ≤ im i ∧ im i < n) ∧ P im (i : Int)) ∧ ∀ i j : Nat, (i : Int) < v → (j : Int) < v → im i = im j → i = j
/-- every numbering comes behind this one, or is it -/
def bfP (P : (Nat → Int) → Int → Prop) (n : Int) (im : Nat → Int) (v : Int) : Prop := ∀ im', vaP P n im' → ∃ j : Nat, (j : Int) ≤ v ∧ (∀ i, i < j → im' i = im i) ∧ ((j : Int) = n ∨ im j < im' j)
def plI (P : (Nat → Int) → Int → Prop) (n : Int) (im : Nat → Int) (v us : Int) : Prop := pfP P n im v ∧ bfP P n im v ∧ (∀ b : Nat, Me us b ↔ ((∃ i : Nat, (i : Int) < v ∧ im i = (b : Int)) ∨ ((0 ≤ v ∧ v < n) ∧ im v.toNat = (b : Int)))) ∧ ((0 ≤ v ∧ v < n) → 0 ≤ im v.toNat → ∀ i : Nat, (i : Int) < v → im i ≠ im v.toNat)
theorem pli_0 {im : Nat → Int} (hn : 0 < n) (h : im 0 = -1) : plI P n im 0 0 :=
  ⟨⟨fun i hi => by omega, fun i j hi => by omega⟩, fun im' h' => ⟨0, by omega, fun i hi => by omega, Or.inr (by have := (h'.1 0 (by omega)).1; omega)⟩, fun b => ⟨fun g => absurd g (Me_0 b), fun g => by
    rcases g with ⟨i, h1, -⟩ | ⟨-, h2⟩
    · omega
    · have h3 : im 0 = (b : Int) := h2
      omega⟩, fun _ h0 => by
    have h3 : 0 ≤ im 0 := h0
    omega⟩
/-- those used by the nodes before v -/
def usW (im : Nat → Int) (v us : Int) : Prop := ∀ b : Nat, Me us b ↔ ∃ i : Nat, (i : Int) < v ∧ im i = (b : Int)
theorem us_n {im : Nat → Int} {v us : Int} (h : plI P n im v us) (hv : im v.toNat < 0) : usW im v us := fun b => by
  rw [h.2.2.1 b]
  exact ⟨fun g => g.elim id (fun g => by omega), Or.inl⟩
theorem us_y {im : Nat → Int} {v us z : Int} (h : plI P n im v us) (hv : 0 ≤ v ∧ v < n) (h0 : 0 ≤ im v.toNat) (hz : ∀ b, Me z b ↔ Me us b ∧ b ≠ Int.toNat (im v.toNat)) : usW im v z := fun b => by
  rw [hz b, h.2.2.1 b]
  constructor
  · rintro ⟨g | g, g1⟩
    · exact g
    · exact absurd (by omega) g1
  · rintro ⟨i, i1, i2⟩
    refine ⟨Or.inl ⟨i, i1, i2⟩, fun e => h.2.2.2 hv h0 i i1 (by omega)⟩
/-- all numberings that go on from the first v give v a number from u on, or come behind -/
def flU (P : (Nat → Int) → Int → Prop) (n : Int) (im : Nat → Int) (v u : Int) : Prop := ∀ im', vaP P n im' → (∃ j : Nat, (j : Int) < v ∧ (∀ i, i < j → im' i = im i) ∧ im j < im' j) ∨ ((∀ i : Nat, (i : Int) < v → im' i = im i) ∧ u ≤ im' v.toNat)
theorem flu_0 {im : Nat → Int} {v us : Int} (h : plI P n im v us) (hv : 0 ≤ v ∧ v < n) : flU P n im v (im v.toNat + 1) := fun im' h' => by
  obtain ⟨j, j1, j2, j3⟩ := h.2.1 im' h'
  have j4 := j3.resolve_left (by omega)
  by_cases e : (j : Int) < v
  · exact Or.inl ⟨j, e, j2, j4⟩
  · have e1 : j = v.toNat := by omega
    subst e1
    exact Or.inr ⟨fun i hi => j2 i (by omega), by omega⟩
theorem fl_up {im im1 : Nat → Int} {v u us : Int} (hloc : ∀ (a b : Nat → Int) (w : Int), (∀ i : Nat, (i : Int) ≤ w → a i = b i) → P a w → P b w) (h : flU P n im v u) (hv : 0 ≤ v ∧ v < n) (hu : usW im v us) (hs : Sm im im1 v) (h1 : im1 v.toNat = u) (hn : ¬ Me us (Int.toNat u) → ¬ P im1 v) : flU P n im v (u + 1) := fun im' h' => by
  rcases h im' h' with g | ⟨g1, g2⟩
  · exact Or.inl g
  · refine Or.inr ⟨g1, ?_⟩
    refine Classical.byContradiction (fun g3 => ?_)
    have e : im' v.toNat = u := by omega
    have hv9 := h'.1 v.toNat (by omega)
    refine hn (fun g => ?_) (hloc im' im1 v (fun i hi => ?_) (by rw [show ((v.toNat : Nat) : Int) = v by omega] at hv9; exact hv9.2))
    · obtain ⟨i, i1, i2⟩ := (hu _).mp g
      have := h'.2 i v.toNat (by omega) (by omega) (by rw [g1 i i1, i2, e]; have := hv9.1; omega)
      omega
    · by_cases q : i = v.toNat
      · rw [q, e, h1]
      · rw [hs i q, g1 i (by omega)]
theorem pl_y {im im1 im2 : Nat → Int} {v u us us2 : Int} (hloc : ∀ (a b : Nat → Int) (w : Int), (∀ i : Nat, (i : Int) ≤ w → a i = b i) → P a w → P b w) (hp : pfP P n im v) (hf : flU P n im v u) (hv : 0 ≤ v ∧ v < n) (hu : usW im v us) (hs : Sm im im1 v) (h1 : im1 v.toNat = u) (hun : 0 ≤ u ∧ u < n) (hnu : ¬ Me us (Int.toNat u)) (hP : P im1 v) (h2 : ∀ i : Nat, (i : Int) ≤ v → im2 i = im1 i) (h3 : v + 1 < n → im2 (v + 1).toNat = -1) (hu2 : ∀ b, Me us2 b ↔ Me us b ∨ b = Int.toNat u) : plI P n im2 (v + 1) us2 := by
  have e0 : ∀ i : Nat, (i : Int) < v → im2 i = im i := fun i hi => by rw [h2 i (by omega), hs i (by omega)]
  have ev : im2 v.toNat = u := by rw [h2 v.toNat (by omega), h1]
  have hne : ∀ i : Nat, (i : Int) < v → im i ≠ u := fun i hi e => hnu ((hu _).mpr ⟨i, hi, by omega⟩)
  refine ⟨⟨fun i hi => ?_, fun i j hi hj e => ?_⟩, fun im' h' => ?_, fun b => ?_, fun hv9 h0 => ?_⟩
  · by_cases e : i = v.toNat
    · subst e
      rw [ev]
      refine ⟨hun, hloc im1 im2 _ (fun i hi => (h2 i (by omega)).symm) ?_⟩
      rw [show ((v.toNat : Nat) : Int) = v by omega]; exact hP
    · have := hp.1 i (by omega)
      rw [e0 i (by omega)]
      exact ⟨this.1, hloc im im2 _ (fun q hq => (e0 q (by omega)).symm) this.2⟩
  · by_cases ei : i = v.toNat
    · by_cases ej : j = v.toNat
      · omega
      · rw [ei, ev, e0 j (by omega)] at e
        exact absurd e.symm (hne j (by omega))
    · by_cases ej : j = v.toNat
      · rw [ej, ev, e0 i (by omega)] at e
        exact absurd e (hne i (by omega))
      · rw [e0 i (by omega), e0 j (by omega)] at e
        exact hp.2 i j (by omega) (by omega) e
  · rcases hf im' h' with ⟨j, j1, j2, j3⟩ | ⟨g1, g2⟩
    · exact ⟨j, by omega, fun i hi => by rw [e0 i (by omega)]; exact j2 i hi, Or.inr (by rw [e0 j j1]; exact j3)⟩
    · by_cases e : im' v.toNat = u
      · refine ⟨(v + 1).toNat, by omega, fun i hi => ?_, ?_⟩
        · by_cases q : i = v.toNat
          · rw [q, ev, e]
          · rw [e0 i (by omega), g1 i (by omega)]
        · by_cases q : v + 1 < n
          · have := (h'.1 (v + 1).toNat (by omega)).1
            exact Or.inr (by rw [h3 q]; omega)
          · exact Or.inl (by omega)
      · exact ⟨v.toNat, by omega, fun i hi => by rw [e0 i (by omega), g1 i (by omega)], Or.inr (by rw [ev]; omega)⟩
  · rw [hu2 b, hu b]
    constructor
    · rintro (⟨i, i1, i2⟩ | g)
      · exact Or.inl ⟨i, by omega, by rw [e0 i i1]; exact i2⟩
      · exact Or.inl ⟨v.toNat, by omega, by rw [ev]; omega⟩
    · rintro (⟨i, i1, i2⟩ | ⟨g, g1⟩)
      · by_cases q : i = v.toNat
        · rw [q, ev] at i2
          exact Or.inr (by omega)
        · rw [e0 i (by omega)] at i2
          exact Or.inl ⟨i, by omega, i2⟩
      · rw [h3 g.2] at g1; omega
  · rw [h3 hv9.2] at h0; omega
theorem pl_n {im im1 : Nat → Int} {v u us : Int} (hloc : ∀ (a b : Nat → Int) (w : Int), (∀ i : Nat, (i : Int) ≤ w → a i = b i) → P a w → P b w) (hp : pfP P n im v) (hf : flU P n im v u) (hv : 0 ≤ v ∧ v < n) (hu : usW im v us) (hs : Sm im im1 v) (hn : n ≤ u) : plI P n im1 (v - 1) us := by
  have e0 : ∀ i : Nat, (i : Int) < v → im1 i = im i := fun i hi => hs i (by omega)
  refine ⟨⟨fun i hi => ?_, fun i j hi hj e => ?_⟩, fun im' h' => ?_, fun b => ?_, fun hv9 h0 i hi e => ?_⟩
  · have := hp.1 i (by omega)
    rw [e0 i (by omega)]
    exact ⟨this.1, hloc im im1 _ (fun q hq => (e0 q (by omega)).symm) this.2⟩
  · rw [e0 i (by omega), e0 j (by omega)] at e
    exact hp.2 i j (by omega) (by omega) e
  · rcases hf im' h' with ⟨j, j1, j2, j3⟩ | ⟨g1, g2⟩
    · exact ⟨j, by omega, fun i hi => by rw [e0 i (by omega)]; exact j2 i hi, Or.inr (by rw [e0 j j1]; exact j3)⟩
    · have := (h'.1 v.toNat (by omega)).1
      omega
  · rw [hu b]
    constructor
    · rintro ⟨i, i1, i2⟩
      by_cases q : (i : Int) < v - 1
      · exact Or.inl ⟨i, q, by rw [e0 i i1]; exact i2⟩
      · exact Or.inr ⟨by omega, by rw [show (v - 1).toNat = i by omega, e0 i i1]; exact i2⟩
    · rintro (⟨i, i1, i2⟩ | ⟨g, g1⟩)
      · exact ⟨i, by omega, by rw [← e0 i (by omega)]; exact i2⟩
      · exact ⟨(v - 1).toNat, by omega, by rw [← e0 _ (by omega)]; exact g1⟩
  · rw [e0 i (by omega), e0 (v - 1).toNat (by omega)] at e
    have := hp.2 i (v - 1).toNat (by omega) (by omega) e
    omega
/-- the first numbering of all -/
def lxA (P : (Nat → Int) → Int → Prop) (n : Int) (im : Nat → Int) : Prop := vaP P n im ∧ bfP P n im n
theorem lx_uq {im im' : Nat → Int} (h : lxA P n im) (h' : lxA P n im') : ∀ i : Nat, (i : Int) < n → im i = im' i := by
  obtain ⟨j, j1, j2, j3⟩ := h.2 im' h'.1
  obtain ⟨k, k1, k2, k3⟩ := h'.2 im h.1
  intro i hi
  rcases j3 with j3 | j3
  · exact (j2 i (by omega)).symm
  · rcases k3 with k3 | k3
    · exact k2 i (by omega)
    · by_cases e : j < k
      · have := k2 j e
        omega
      · by_cases e1 : k < j
        · have := j2 k e1
          omega
        · rw [show k = j by omega] at k3
          omega
theorem pl_e1 {im : Nat → Int} {v us : Int} (h : plI P n im v us) (hv : v = n) : lxA P n im := by
  subst hv; exact ⟨⟨h.1.1, h.1.2⟩, h.2.1⟩
theorem pl_e0 {im : Nat → Int} {v us : Int} (h : plI P n im v us) (hv : v < 0) : ∀ im', ¬ vaP P n im' := fun im' h' => by
  obtain ⟨j, j1, -⟩ := h.2.1 im' h'
  omega
end PL
theorem ft_cg {m : Nat} {d : Int} {F T W C F' T' W' C' : Nat → Int} (a b : Nat → Int) (w : Int) (h : ∀ i : Nat, (i : Int) ≤ w → a i = b i) (hw : 0 ≤ w) (hf : ftP m d F T W C F' T' W' C' a w) : ftP m d F T W C F' T' W' C' b w := by
  have hw9 := h w.toNat (by omega)
  refine ⟨by rw [← hw9]; exact hf.1, fun u hu => ?_⟩
  have hu9 := h u hu
  obtain ⟨g1, g2⟩ := hf.2 u hu
  refine ⟨fun k hk hb => ?_, ?_⟩
  · have e1 : a (F k).toNat = b (F k).toNat := by
      rcases hb with ⟨q1, q2⟩ | ⟨q1, q2⟩
      · rw [q1]; exact hu9
      · rw [q1]; exact hw9
    have e2 : a (T k).toNat = b (T k).toNat := by
      rcases hb with ⟨q1, q2⟩ | ⟨q1, q2⟩
      · rw [q2]; exact hw9
      · rw [q2]; exact hu9
    rw [← e1, ← e2]; exact g1 k hk hb
  · rw [← hw9]
    have e3 : a ((u : Int)).toNat = b ((u : Int)).toNat := hu9
    rw [← e3]; exact g2
/-- the numbering keeps to both graphs -/
def isP (m : Nat) (d : Int) (F T W C F' T' W' C' im : Nat → Int) (v : Int) : Prop := 0 ≤ v → ftP m d F T W C F' T' W' C' im v
theorem is_cg {m : Nat} {d : Int} {F T W C F' T' W' C' : Nat → Int} (a b : Nat → Int) (w : Int) (h : ∀ i : Nat, (i : Int) ≤ w → a i = b i) (hf : isP m d F T W C F' T' W' C' a w) : isP m d F T W C F' T' W' C' b w := fun hw => ft_cg a b w h hw (hf hw)
