/-- a bit more -/
theorem orb {x : Int32} {z : Int} {v : Nat} (hz : x = iv z) (h0 : 0 ≤ z) (h1 : z ≤ 65535) (hv : v < 16) (j : Nat) : Me (x ||| ((1 : Int32) <<< (nI v &&& 31))).toInt j ↔ Me x.toInt j ∨ j = v := by
  have o1 : (1 : Int32) = iv 1 := by decide
  have e : (1 : Int32) <<< (nI v &&& 31) = iv ((2 ^ v : Nat) : Int) := by
    rw [o1, nI_iv, shl_e (v := (v : Int)) (by omega), Int.toNat_natCast]
  have pw : (2 : Nat) ^ v ≤ 2 ^ 15 := Nat.pow_le_pow_right (by decide) (by omega)
  have hs := Me_shl v
  generalize hP : (2 : Nat) ^ v = P at e pw hs
  obtain ⟨w, hw, w0, w1, w2⟩ := or_2 16 z (P : Int) ⟨h0, by omega⟩ ⟨by omega, by omega⟩ (by decide)
  have hme := Me_or hw ⟨h0, h1⟩ ⟨by omega, by omega⟩ ⟨by omega, by omega⟩
  rw [hz, e, hw, iv_toInt (by omega) (by omega), iv_toInt (by omega) (by omega), hme j, hs j]
theorem nbF_iff {A B : Nat → Nat} : ∀ k : Nat, (∀ j, j < k → B j < 16) → ∀ u j, Me (nbF A B k u).toInt j ↔ ∃ i, i < k ∧ A i = u ∧ B i = j := by
  intro k
  induction k with
  | zero =>
    intro _ u j
    constructor
    · intro h
      have e : (0 : Int32).toInt = 0 := by decide
      exact absurd (show Me 0 j from e ▸ h) (Me_0 j)
    · rintro ⟨i, h, _⟩; omega
  | succ k ih =>
    intro h u j
    have ih := ih (fun j hj => h j (by omega))
    obtain ⟨z, hz, h0, h1⟩ := nbF_r (A := A) (B := B) k (fun j hj => h j (by omega)) (A k)
    show Me (upd (nbF A B k) (A k) (nbF A B k (A k) ||| (1 <<< (nI (B k) &&& 31))) u).toInt j ↔ _
    by_cases hA : u = A k
    · rw [hA, upd_s', orb hz h0 h1 (h k (by omega)) j, ih (A k) j]
      constructor
      · rintro (⟨i, g1, g2, g3⟩ | g)
        · exact ⟨i, by omega, g2, g3⟩
        · exact ⟨k, by omega, rfl, g.symm⟩
      · rintro ⟨i, g1, g2, g3⟩
        by_cases e : i = k
        · subst e; exact Or.inr g3.symm
        · exact Or.inl ⟨i, by omega, g2, g3⟩
    · rw [upd_o' _ _ hA, ih u j]
      constructor
      · rintro ⟨i, g1, g2, g3⟩; exact ⟨i, by omega, g2, g3⟩
      · rintro ⟨i, g1, g2, g3⟩
        by_cases e : i = k
        · subst e; exact absurd g2.symm hA
        · exact ⟨i, by omega, g2, g3⟩
theorem goF_at {q : Bool} {f t v w : Nat → Int32} : ∀ n i : Nat, i < n → goF q f t v w n (i + gc q f t i) = v i ∧ ((q = false ∧ f i ≠ t i) → goF q f t v w n (i + gc q f t i + 1) = w i) := by
  intro n
  induction n with
  | zero => intro i h; omega
  | succ n ih =>
    intro i hi
    by_cases hin : i = n
    · subst hin
      by_cases hc : q = false ∧ f i ≠ t i
      · rw [goF_t hc.1 hc.2]
        exact ⟨by rw [upd_o' _ _ (by omega), upd_s'], fun _ => by rw [upd_s']⟩
      · rw [goF_f hc]
        exact ⟨by rw [upd_s'], fun h => absurd h hc⟩
    · have hlt : i < n := by omega
      obtain ⟨g1, g2⟩ := ih i hlt
      have mo := gc_mono q f t (show i + 1 ≤ n by omega)
      have gi : gc q f t i ≤ gc q f t (i + 1) := gc_mono q f t (show i ≤ i + 1 by omega)
      by_cases hc : q = false ∧ f n ≠ t n
      · rw [goF_t hc.1 hc.2]
        refine ⟨by rw [upd_o' _ _ (by omega), upd_o' _ _ (by omega)]; exact g1, fun h => ?_⟩
        have e1 := gc_t (q := q) (f := f) (t := t) (i := i) h.1 h.2
        rw [upd_o' _ _ (by omega), upd_o' _ _ (by omega)]; exact g2 h
      · rw [goF_f hc]
        refine ⟨by rw [upd_o' _ _ (by omega)]; exact g1, fun h => ?_⟩
        have e1 := gc_t (q := q) (f := f) (t := t) (i := i) h.1 h.2
        rw [upd_o' _ _ (by omega)]; exact g2 h
/-- the class's goings are goings of the arcs -/
theorem go_GoS {q : Bool} {f t : Nat → Int32} {m : Nat} {d : Int} (hd : d = 0 ↔ q = false) (hm : m ≤ 60) : GoS m (m + gc q f t m) d (fun i => (f i).toInt) (fun i => (t i).toInt) (fun k => (goF q f t f t m k).toInt) (fun k => (goF q f t t f m k).toInt) (fun k => (goF q f t nI nI m k).toInt) (fun i => i + gc q f t i) := by
  have iff : ∀ i, (d = 0 ∧ (f i).toInt ≠ (t i).toInt) ↔ (q = false ∧ f i ≠ t i) := fun i => by
    rw [hd]
    exact ⟨fun h => ⟨h.1, fun e => h.2 (by rw [e])⟩, fun h => ⟨h.1, fun e => h.2 (Int32.toInt_inj.mp e)⟩⟩
  refine ⟨rfl, rfl, fun i hi => ?_⟩
  have a1 := goF_at (q := q) (f := f) (t := t) (v := f) (w := t) m i hi
  have a2 := goF_at (q := q) (f := f) (t := t) (v := t) (w := f) m i hi
  have a3 := goF_at (q := q) (f := f) (t := t) (v := nI) (w := nI) m i hi
  have ni : (nI i).toInt = (i : Int) := by rw [nI_iv, iv_toInt (by omega) (by omega)]
  refine ⟨by show (goF q f t f t m (i + gc q f t i)).toInt = _; rw [a1.1], by show (goF q f t t f m (i + gc q f t i)).toInt = _; rw [a2.1], by show (goF q f t nI nI m (i + gc q f t i)).toInt = _; rw [a3.1]; exact ni, fun h => ?_, fun h => ?_⟩
  · have h9 := (iff i).mp h
    refine ⟨?_, ?_, ?_, ?_⟩
    · show i + 1 + gc q f t (i + 1) = i + gc q f t i + 2
      rw [gc_t h9.1 h9.2]; omega
    · show (goF q f t f t m (i + gc q f t i + 1)).toInt = _
      rw [a1.2 h9]
    · show (goF q f t t f m (i + gc q f t i + 1)).toInt = _
      rw [a2.2 h9]
    · show (goF q f t nI nI m (i + gc q f t i + 1)).toInt = _
      rw [a3.2 h9]; exact ni
  · have h9 : ¬ (q = false ∧ f i ≠ t i) := fun g => h ((iff i).mpr g)
    show i + 1 + gc q f t (i + 1) = i + gc q f t i + 1
    rw [gc_f h9]; omega
theorem gos_lt {m q : Nat} {d : Int} {F T Tl Hd By : Nat → Int} {pos : Nat → Nat} (h : GoS m q d F T Tl Hd By pos) : ∀ i, i < m → pos i + 1 ≤ pos (i + 1) := by
  intro i hi
  by_cases hc : d = 0 ∧ F i ≠ T i
  · have := ((h.2.2 i hi).2.2.2.1 hc).1; omega
  · have := (h.2.2 i hi).2.2.2.2 hc; omega
theorem gos_mo {m q : Nat} {d : Int} {F T Tl Hd By : Nat → Int} {pos : Nat → Nat} (h : GoS m q d F T Tl Hd By pos) : ∀ j i : Nat, i + j ≤ m → pos i + j ≤ pos (i + j) := by
  intro j
  induction j with
  | zero => intro i _; exact Nat.le_refl _
  | succ j ih =>
    intro i hi
    have h1 := ih i (by omega)
    have h2 := gos_lt h (i + j) (by omega)
    show pos i + (j + 1) ≤ pos (i + j + 1)
    omega
theorem gos_cov {m q : Nat} {d : Int} {F T Tl Hd By : Nat → Int} {pos : Nat → Nat} (h : GoS m q d F T Tl Hd By pos) : ∀ i, i ≤ m → ∀ k, k < pos i → ∃ j, j < i ∧ (k = pos j ∨ ((d = 0 ∧ F j ≠ T j) ∧ k = pos j + 1)) := by
  intro i
  induction i with
  | zero => intro _ k hk; rw [h.1] at hk; omega
  | succ i ih =>
    intro hi k hk
    rcases Nat.lt_or_ge k (pos i) with g | g
    · obtain ⟨j, g1, g2⟩ := ih (by omega) k g
      exact ⟨j, by omega, g2⟩
    · by_cases hc : d = 0 ∧ F i ≠ T i
      · have h1 := ((h.2.2 i (by omega)).2.2.2.1 hc).1
        by_cases e : k = pos i
        · exact ⟨i, by omega, Or.inl e⟩
        · exact ⟨i, by omega, Or.inr ⟨hc, by omega⟩⟩
      · have h1 := (h.2.2 i (by omega)).2.2.2.2 hc
        exact ⟨i, by omega, Or.inl (by omega)⟩
/-- whom goings join -/
theorem gos_st {m q : Nat} {d : Int} {F T Tl Hd By : Nat → Int} {pos : Nat → Nat} (h : GoS m q d F T Tl Hd By pos) (a b : Int) : (∃ k, k < q ∧ Tl k = a ∧ Hd k = b) ↔ ∃ i, i < m ∧ goP d F T i a b := by
  constructor
  · rintro ⟨k, g1, g2, g3⟩
    obtain ⟨j, g4, g5⟩ := gos_cov h m (Nat.le_refl _) k (by rw [h.2.1]; exact g1)
    obtain ⟨p1, p2, p3, p4, p5⟩ := h.2.2 j g4
    refine ⟨j, g4, ?_⟩
    rcases g5 with e | ⟨hc, e⟩
    · subst e; exact Or.inl ⟨by rw [← p1]; exact g2, by rw [← p2]; exact g3⟩
    · subst e
      obtain ⟨-, r1, r2, -⟩ := p4 hc
      exact Or.inr ⟨hc.1, by rw [← r1]; exact g2, by rw [← r2]; exact g3⟩
  · rintro ⟨i, g1, g2⟩
    obtain ⟨p1, p2, p3, p4, p5⟩ := h.2.2 i g1
    have lt : pos (i + 1) ≤ q := by
      have := gos_mo h (m - (i + 1)) (i + 1) (by omega)
      rw [show i + 1 + (m - (i + 1)) = m by omega, h.2.1] at this
      omega
    have l1 := gos_lt h i g1
    rcases g2 with ⟨g2, g3⟩ | ⟨g0, g2, g3⟩
    · exact ⟨pos i, by omega, by rw [p1]; exact g2, by rw [p2]; exact g3⟩
    · by_cases hc : d = 0 ∧ F i ≠ T i
      · obtain ⟨r0, r1, r2, -⟩ := p4 hc
        exact ⟨pos i + 1, by omega, by rw [r1]; exact g2, by rw [r2]; exact g3⟩
      · have e : F i = T i := Classical.byContradiction (fun g => hc ⟨g0, g⟩)
        exact ⟨pos i, by omega, by rw [p1, e]; exact g2, by rw [p2, ← e]; exact g3⟩
theorem gos_jo {m q : Nat} {d : Int} {F T Tl Hd By : Nat → Int} {pos : Nat → Nat} (h : GoS m q d F T Tl Hd By pos) (a b : Nat) : (∃ k, k < q ∧ Tl k ≠ Hd k ∧ ((Tl k = (a : Int) ∧ Hd k = (b : Int)) ∨ (Hd k = (a : Int) ∧ Tl k = (b : Int)))) ↔ joX m F T (fun _ => True) a b := by
  constructor
  · rintro ⟨k, g1, g2, g3⟩
    have key : ∀ x y : Int, Tl k = x ∧ Hd k = y → ∃ i, i < m ∧ goP d F T i x y := fun x y g => (gos_st h x y).mp ⟨k, g1, g.1, g.2⟩
    rcases g3 with g3 | g3
    · obtain ⟨i, r1, r2⟩ := key _ _ g3
      refine ⟨i, r1, trivial, ?_, ?_⟩
      · rcases r2 with r | r <;> omega
      · rcases r2 with r | r
        · exact Or.inl r
        · exact Or.inr r.2
    · obtain ⟨i, r1, r2⟩ := key _ _ ⟨g3.2, g3.1⟩
      refine ⟨i, r1, trivial, ?_, ?_⟩
      · rcases r2 with r | r <;> omega
      · rcases r2 with r | r
        · exact Or.inr ⟨r.2, r.1⟩
        · exact Or.inl ⟨r.2.2, r.2.1⟩
  · rintro ⟨i, r1, -, r2, r3⟩
    rcases r3 with r3 | r3
    · obtain ⟨k, g1, g2, g3⟩ := (gos_st h (a : Int) (b : Int)).mpr ⟨i, r1, Or.inl r3⟩
      exact ⟨k, g1, by omega, Or.inl ⟨g2, g3⟩⟩
    · obtain ⟨k, g1, g2, g3⟩ := (gos_st h (b : Int) (a : Int)).mpr ⟨i, r1, Or.inl ⟨r3.2, r3.1⟩⟩
      exact ⟨k, g1, by omega, Or.inr ⟨g3, g2⟩⟩
theorem joF_iff {A B : Nat → Nat} : ∀ k : Nat, (∀ j, j < k → A j < 16 ∧ B j < 16) → ∀ u j, Me (joF A B k u).toInt j ↔ ∃ i, i < k ∧ A i ≠ B i ∧ ((A i = u ∧ B i = j) ∨ (B i = u ∧ A i = j)) := by
  intro k
  induction k with
  | zero =>
    intro _ u j
    constructor
    · intro h
      have e : (0 : Int32).toInt = 0 := by decide
      exact absurd (show Me 0 j from e ▸ h) (Me_0 j)
    · rintro ⟨i, h, _⟩; omega
  | succ k ih =>
    intro h u j
    have ih := ih (fun j hj => h j (by omega))
    have lift : (∃ i, i < k ∧ A i ≠ B i ∧ ((A i = u ∧ B i = j) ∨ (B i = u ∧ A i = j))) → ∃ i, i < k + 1 ∧ A i ≠ B i ∧ ((A i = u ∧ B i = j) ∨ (B i = u ∧ A i = j)) := fun ⟨i, g1, g2⟩ => ⟨i, by omega, g2⟩
    by_cases hab : A k = B k
    · rw [joF_e hab, ih u j]
      refine ⟨lift, ?_⟩
      rintro ⟨i, g1, g2, g3⟩
      by_cases e : i = k
      · subst e; exact absurd hab g2
      · exact ⟨i, by omega, g2, g3⟩
    · rw [joF_n hab]
      obtain ⟨z, hz, z0, z1⟩ := joF_r (A := A) (B := B) k (fun j hj => h j (by omega)) (A k)
      obtain ⟨y, hy, y0, y1⟩ := joF_r (A := A) (B := B) k (fun j hj => h j (by omega)) (B k)
      have hk := h k (by omega)
      by_cases eB : u = B k
      · rw [eB, upd_s', orb hy y0 y1 hk.1 j, ih (B k) j]
        constructor
        · rintro (⟨i, g1, g2, g3⟩ | g)
          · exact ⟨i, by omega, g2, g3⟩
          · exact ⟨k, by omega, hab, Or.inr ⟨rfl, g.symm⟩⟩
        · rintro ⟨i, g1, g2, g3⟩
          by_cases e : i = k
          · subst e
            rcases g3 with g3 | g3
            · exact absurd g3.1 hab
            · exact Or.inr g3.2.symm
          · exact Or.inl ⟨i, by omega, g2, g3⟩
      · rw [upd_o' _ _ eB]
        by_cases eA : u = A k
        · rw [eA, upd_s', orb hz z0 z1 hk.2 j, ih (A k) j]
          constructor
          · rintro (⟨i, g1, g2, g3⟩ | g)
            · exact ⟨i, by omega, g2, g3⟩
            · exact ⟨k, by omega, hab, Or.inl ⟨rfl, g.symm⟩⟩
          · rintro ⟨i, g1, g2, g3⟩
            by_cases e : i = k
            · subst e
              rcases g3 with g3 | g3
              · exact Or.inr g3.2.symm
              · exact absurd g3.1.symm hab
            · exact Or.inl ⟨i, by omega, g2, g3⟩
        · rw [upd_o' _ _ eA, ih u j]
          refine ⟨lift, ?_⟩
          rintro ⟨i, g1, g2, g3⟩
          by_cases e : i = k
          · subst e
            rcases g3 with g3 | g3
            · exact absurd g3.1.symm eA
            · exact absurd g3.1.symm eB
          · exact ⟨i, by omega, g2, g3⟩
