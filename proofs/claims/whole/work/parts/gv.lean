theorem bc_sing {z : Int} {x : Nat} (h : ∀ i, Me z i ↔ i = x) (hx : x < 16) : bcI z 16 = 1 := by
  have := bc_ins (s := 0) (z := z) (v := x) (fun i => (h i).trans ⟨Or.inr, fun g => g.elim (fun g => absurd g (Me_0 i)) id⟩) (Me_0 x) 16
  rw [if_pos hx, show bcI 0 16 = 0 by decide] at this
  omega
theorem bc_lt16 {R : Int} {v : Nat} (hR : 0 ≤ R ∧ R ≤ 65535) (hv : v < 16) (hn : ¬ Me R v) : bcI R 16 < 16 := by
  obtain ⟨z, z1, z2⟩ := ins_ex hR hv
  have h1 := bc_ins z2 hn 16
  rw [if_pos hv] at h1
  have h2 := bc_le z 16
  omega
/-- what the search has reached: the row in which they came, and from where -/
def bqI (r : Nat → Int) (n x : Nat) (R : Int) (B Q : Nat → Int) (w : Int) : Prop := (Q 0 = (x : Int) ∧ 1 ≤ w ∧ bcI R 16 = w) ∧ (∀ j : Nat, (j : Int) < w → 0 ≤ Q j ∧ Q j < (n : Int) ∧ Me R (Q j).toNat) ∧ (∀ v, Me R v → ∃ j : Nat, (j : Int) < w ∧ Q j = (v : Int)) ∧ (∀ i j : Nat, (i : Int) < w → (j : Int) < w → Q i = Q j → i = j) ∧ ∀ j : Nat, 0 < j → (j : Int) < w → ∃ i, i < j ∧ B (Q j).toNat = Q i ∧ 0 < r (16 * (Q i).toNat + (Q j).toNat)
theorem bqi_0 {r : Nat → Int} {n x : Nat} {R : Int} {B Q : Nat → Int} (hR : ∀ i, Me R i ↔ i = x) (hx : x < n) (hn : n ≤ 16) (hQ : Q 0 = (x : Int)) : bqI r n x R B Q 1 :=
  ⟨⟨hQ, by omega, bc_sing hR (by omega)⟩, fun j hj => by
    rw [show j = 0 by omega, hQ]
    exact ⟨by omega, by omega, (hR _).mpr (by omega)⟩, fun v hv => ⟨0, by omega, by rw [hQ, (hR v).mp hv]⟩, fun i j hi hj _ => by omega, fun j h0 hj => by omega⟩
theorem bqi_st {r : Nat → Int} {n x : Nat} {R R1 : Int} {B Q : Nat → Int} {w u v : Int} {i : Nat} (h : bqI r n x R B Q w) (hv : 0 ≤ v ∧ v < (n : Int)) (hn : n ≤ 16) (hnv : ¬ Me R v.toNat) (hR : ∀ j, Me R1 j ↔ Me R j ∨ j = v.toNat) (hi : (i : Int) < w) (hu : u = Q i) (hr : 0 < r (16 * u.toNat + v.toNat)) : bqI r n x R1 (fup B v.toNat u) (fup Q w.toNat v) (w + 1) := by
  obtain ⟨⟨h1, h2, h3⟩, h4, h5, h6, h7⟩ := h
  have e1 : ∀ j : Nat, (j : Int) < w → fup Q w.toNat v j = Q j := fun j hj => if_neg (by omega)
  have e2 : fup Q w.toNat v w.toNat = v := if_pos rfl
  have hne : ∀ j : Nat, (j : Int) < w → Q j ≠ v := fun j hj e => hnv (by have := (h4 j hj).2.2; rw [e] at this; exact this)
  refine ⟨⟨by rw [e1 0 (by omega)]; exact h1, by omega, ?_⟩, fun j hj => ?_, fun y hy => ?_, fun a b ha hb e => ?_, fun j h0 hj => ?_⟩
  · have := bc_ins hR hnv 16
    rw [if_pos (by omega)] at this
    omega
  · by_cases e : j = w.toNat
    · rw [e, e2]; exact ⟨hv.1, hv.2, (hR _).mpr (Or.inr rfl)⟩
    · rw [e1 j (by omega)]
      have := h4 j (by omega)
      exact ⟨this.1, this.2.1, (hR _).mpr (Or.inl this.2.2)⟩
  · rcases (hR y).mp hy with g | g
    · obtain ⟨j, j1, j2⟩ := h5 y g
      exact ⟨j, by omega, by rw [e1 j j1]; exact j2⟩
    · exact ⟨w.toNat, by omega, by rw [e2, g]; omega⟩
  · by_cases ea : a = w.toNat
    · by_cases eb : b = w.toNat
      · omega
      · rw [ea, e2, e1 b (by omega)] at e
        exact absurd e.symm (hne b (by omega))
    · by_cases eb : b = w.toNat
      · rw [eb, e2, e1 a (by omega)] at e
        exact absurd e (hne a (by omega))
      · rw [e1 a (by omega), e1 b (by omega)] at e
        exact h6 a b (by omega) (by omega) e
  · by_cases e : j = w.toNat
    · refine ⟨i, by omega, ?_, ?_⟩
      · rw [e, e2, e1 i hi, ← hu]; exact if_pos rfl
      · rw [e, e2, e1 i hi, ← hu]; exact hr
    · obtain ⟨q, q1, q2, q3⟩ := h7 j h0 (by omega)
      have hq := h4 j (by omega)
      refine ⟨q, q1, ?_, ?_⟩
      · rw [e1 j (by omega), e1 q (by omega), ← q2]
        refine if_neg (fun g => hne j (by omega) (by omega))
      · rw [e1 j (by omega), e1 q (by omega)]; exact q3
/-- the first i that came have been looked at -/
def cjI (r : Nat → Int) (n : Nat) (R : Int) (Q : Nat → Int) (i : Int) : Prop := ∀ j : Nat, (j : Int) < i → ∀ v, v < n → 0 < r (16 * (Q j).toNat + v) → Me R v
theorem cj_0 {r : Nat → Int} {n : Nat} {R : Int} {Q : Nat → Int} : cjI r n R Q 0 := fun j hj => by omega
theorem cj_up {r : Nat → Int} {n : Nat} {R R1 : Int} {Q : Nat → Int} {i w v : Int} (h : cjI r n R Q i) (hR : ∀ j, Me R j → Me R1 j) (hi : i ≤ w) : cjI r n R1 (fup Q w.toNat v) i := fun j hj y hy hr => by
  rw [show fup Q w.toNat v j = Q j from if_neg (by omega)] at hr
  exact hR y (h j hj y hy hr)
/-- of one node those below v -/
def cvI (r : Nat → Int) (R : Int) (u : Nat) (v : Int) : Prop := ∀ y : Nat, (y : Int) < v → 0 < r (16 * u + y) → Me R y
theorem cv_0 {r : Nat → Int} {R : Int} {u : Nat} : cvI r R u 0 := fun j hj => by omega
theorem cv_st {r : Nat → Int} {R R1 : Int} {u : Nat} {v : Int} (h : cvI r R u v) (hR : ∀ j, Me R j → Me R1 j) (hv : 0 ≤ v) (hn : 0 < r (16 * u + v.toNat) → Me R1 v.toNat) : cvI r R1 u (v + 1) := fun y hy hr => by
  by_cases e : (y : Int) < v
  · exact hR y (h y e hr)
  · have e1 : y = v.toNat := by omega
    subst e1; exact hn hr
theorem cj_st {r : Nat → Int} {n : Nat} {R : Int} {Q : Nat → Int} {i u v : Int} (h : cjI r n R Q i) (h0 : 0 ≤ i) (hu : u = Q i.toNat) (hc : cvI r R u.toNat v) (hv : (n : Int) ≤ v) : cjI r n R Q (i + 1) := fun j hj y hy hr => by
  by_cases e : (j : Int) < i
  · exact h j e y hy hr
  · have e1 : j = i.toNat := by omega
    subst e1
    rw [← hu] at hr
    exact hc y (by omega) hr
/-- what a search has found -/
def fdP (r : Nat → Int) (n x : Nat) (R : Int) (B : Nat → Int) : Prop := Me R x ∧ (∀ v, Me R v → v < n) ∧ (∀ u, Me R u → ∀ v, v < n → 0 < r (16 * u + v) → Me R v) ∧ ∃ rk : Nat → Nat, (∀ v, Me R v → rk v ≤ 15) ∧ ∀ v, Me R v → v ≠ x → ∃ u, B v = ((u : Nat) : Int) ∧ Me R u ∧ rk u < rk v ∧ 0 < r (16 * u + v)
theorem fd_end {r : Nat → Int} {n x : Nat} {R : Int} {B Q : Nat → Int} {w i : Int} (hb : bqI r n x R B Q w) (hc : cjI r n R Q i) (hi : w ≤ i) (hw : w ≤ 16) : fdP r n x R B := by
  obtain ⟨⟨h1, h2, h3⟩, h4, h5, h6, h7⟩ := hb
  have hex : ∀ v, ∃ j : Nat, Me R v → (j : Int) < w ∧ Q j = (v : Int) := fun v => by
    by_cases g : Me R v
    · obtain ⟨j, j1⟩ := h5 v g
      exact ⟨j, fun _ => j1⟩
    · exact ⟨0, fun q => absurd q g⟩
  have hn : ∀ v, Me R v → v < n := fun v hv => by
    obtain ⟨j, j1, j2⟩ := h5 v hv
    have := (h4 j j1).2.1
    omega
  refine ⟨by have := (h4 0 (by omega)).2.2; rw [h1] at this; exact this, hn, fun u hu v hv hr => ?_, fun v => Classical.choose (hex v), fun v hv => ?_, fun v hv hne => ?_⟩
  · obtain ⟨j, j1, j2⟩ := h5 u hu
    exact hc j (by omega) v hv (by rw [j2]; exact hr)
  · have := (Classical.choose_spec (hex v) hv).1
    show Classical.choose (hex v) ≤ 15
    omega
  · have hv9 := Classical.choose_spec (hex v) hv
    obtain ⟨q, q1, q2, q3⟩ := h7 (Classical.choose (hex v)) (Nat.pos_of_ne_zero (fun e => by
      have := hv9.2
      rw [e, h1] at this
      exact hne (by omega))) hv9.1
    rw [hv9.2] at q2 q3
    have hq := h4 q (by omega)
    have hu9 := Classical.choose_spec (hex (Q q).toNat) hq.2.2
    refine ⟨(Q q).toNat, by rw [show (((v : Nat) : Int)).toNat = v from rfl] at q2; rw [q2]; omega, hq.2.2, ?_, q3⟩
    have := h6 _ _ hu9.1 (show (q : Int) < w by omega) (by rw [hu9.2]; omega)
    show Classical.choose (hex (Q q).toNat) < Classical.choose (hex v)
    omega
theorem fd_min {r : Nat → Int} {n x : Nat} {R S : Int} {B : Nat → Int} (h : fdP r n x R B) (hx : Me S x) (hc : ∀ u, Me S u → ∀ v, v < n → 0 < r (16 * u + v) → Me S v) : suP R S := by
  obtain ⟨h1, h2, h3, rk, h4, h5⟩ := h
  have hh : ∀ k v, rk v < k → Me R v → Me S v := by
    intro k
    induction k with
    | zero => intro v h; omega
    | succ k ih =>
      intro v hk hv
      by_cases e : v = x
      · rw [e]; exact hx
      · obtain ⟨u, u1, u2, u3, u4⟩ := h5 v hv e
        exact hc u (ih u (by omega) u2) v (h2 v hv) u4
  exact fun v hv => hh (rk v + 1) v (by omega) hv
/-- the way back -/
def itB (B : Nat → Int) (y : Nat) : Nat → Nat
  | 0 => y
  | k + 1 => (B (itB B y k)).toNat
/-- how much goes over the way so far -/
def paI (r B : Nat → Int) (R : Int) (rk : Nat → Nat) (x y : Nat) (a v i : Int) : Prop := (0 ≤ v ∧ Me R v.toNat) ∧ ((rk v.toNat : Nat) : Int) + i ≤ 15 ∧ v.toNat = itB B y i.toNat ∧ 0 < a ∧ ∀ k : Nat, (k : Int) < i → itB B y k ≠ x ∧ a ≤ r (16 * itB B y (k + 1) + itB B y k)
theorem pa_0 {r B : Nat → Int} {R : Int} {rk : Nat → Nat} {x y : Nat} {a v : Int} (hy : v = (y : Int)) (hm : Me R y) (hr : rk y ≤ 15) (ha : 0 < a) : paI r B R rk x y a v 0 := by
  subst hy
  exact ⟨⟨by omega, hm⟩, by show ((rk y : Nat) : Int) + 0 ≤ 15; omega, rfl, ha, fun k hk => by omega⟩
theorem pa_st {r B : Nat → Int} {R : Int} {rk : Nat → Nat} {x y : Nat} {a b v i : Int} (h : paI r B R rk x y a v i) (h0 : 0 ≤ i) (hB : ∀ v, Me R v → v ≠ x → ∃ u, B v = ((u : Nat) : Int) ∧ Me R u ∧ rk u < rk v ∧ 0 < r (16 * u + v)) (hv : v.toNat ≠ x) (hb : b ≤ a ∧ b ≤ r (16 * (B v.toNat).toNat + v.toNat)) (hb0 : b = a ∨ b = r (16 * (B v.toNat).toNat + v.toNat)) : paI r B R rk x y b (B v.toNat) (i + 1) := by
  obtain ⟨h1, h2, h3, h4, h5⟩ := h
  obtain ⟨u, u1, u2, u3, u4⟩ := hB _ h1.2 hv
  have e1 : (B v.toNat).toNat = u := by rw [u1]; rfl
  have e2 : itB B y (i + 1).toNat = u := by
    rw [show (i + 1).toNat = i.toNat + 1 by omega]
    show (B (itB B y i.toNat)).toNat = u
    rw [← h3]; exact e1
  refine ⟨⟨by rw [u1]; omega, by rw [e1]; exact u2⟩, by rw [e1]; omega, by rw [e1, e2], ?_, fun k hk => ?_⟩
  · rw [e1] at hb0
    rcases hb0 with g | g
    · omega
    · rw [g]; exact u4
  · by_cases e : (k : Int) < i
    · have := h5 k e
      exact ⟨this.1, by omega⟩
    · have ek : k = i.toNat := by omega
      subst ek
      refine ⟨by rw [← h3]; exact hv, ?_⟩
      show b ≤ r (16 * (B (itB B y i.toNat)).toNat + itB B y i.toNat)
      rw [← h3]; exact hb.2
/-- what has been moved so far -/
def puI (r0 r : Nat → Int) (n : Nat) (R : Int) (rk : Nat → Nat) (a : Int) (v y : Nat) : Prop := (∀ s, csF r s n = csF r0 s n - bw s v a + bw s y a) ∧ toF r n = toF r0 n ∧ (∀ p q, p < n → q < n → 0 ≤ r (16 * p + q)) ∧ ∀ p q, p < n → q < n → Me R q → rk q ≤ rk v → r0 (16 * p + q) ≤ r (16 * p + q)
theorem pu_0 {r : Nat → Int} {n : Nat} {R : Int} {rk : Nat → Nat} {a c : Int} {y : Nat} (h : rmP r n c) : puI r r n R rk a y y := ⟨fun s => by omega, rfl, h.1, fun _ _ _ _ _ _ => Int.le_refl _⟩
theorem pu_rm {r0 r : Nat → Int} {n : Nat} {R : Int} {rk : Nat → Nat} {a c : Int} {v y : Nat} (h : puI r0 r n R rk a v y) (h0 : rmP r0 n c) : rmP r n c := ⟨h.2.2.1, by rw [h.2.1]; exact h0.2⟩
theorem xw_neg (s : Nat → Bool) (a b : Nat) (w : Int) : xw s a b (-w) = - xw s a b w := by
  unfold xw
  by_cases g : s a = true ∧ s b = false
  · rw [if_pos g, if_pos g]
  · rw [if_neg g, if_neg g]; rfl
theorem pui_st {r0 r : Nat → Int} {n u v y : Nat} {R : Int} {rk : Nat → Nat} {a : Int} (h : puI r0 r n R rk a v y) (hn : n ≤ 16) (hu : u < n) (hv : v < n) (hvR : Me R v) (hk : rk u < rk v) (ha : 0 < a) (har : a ≤ r0 (16 * u + v)) : puI r0 (fup (fup r (16 * u + v) (r (16 * u + v) - a)) (16 * v + u) (fup r (16 * u + v) (r (16 * u + v) - a) (16 * v + u) + a)) n R rk a u y := by
  obtain ⟨h1, h2, h3, h4⟩ := h
  have huv : u ≠ v := fun e => by rw [e] at hk; omega
  have hr9 := h4 u v hu hv hvR (Nat.le_refl _)
  have e9 : r (16 * u + v) - a = r (16 * u + v) + (-a) := by omega
  rw [e9]
  refine ⟨fun s => ?_, ?_, fun p q hp hq => ?_, fun p q hp hq hm hk9 => ?_⟩
  · rw [cs_upd hn hv hu, cs_upd hn hu hv, h1 s, xw_neg]
    have := xw_bw s u v a
    omega
  · rw [to_upd hn hv hu, to_upd hn hu hv, h2]; omega
  · have hp9 := h3 p q hp hq
    rw [fu_at (by omega) (by omega)]
    by_cases g : p = v ∧ q = u
    · rw [if_pos g, fu_at (by omega) (by omega), if_neg (by omega)]
      have := h3 v u hv hu
      omega
    · rw [if_neg g, fu_at (by omega) (by omega)]
      by_cases g1 : p = u ∧ q = v
      · rw [if_pos g1]; omega
      · rw [if_neg g1]; exact hp9
  · have hp9 := h4 p q hp hq hm (by omega)
    rw [fu_at (by omega) (by omega)]
    by_cases g : p = v ∧ q = u
    · rw [if_pos g, fu_at (by omega) (by omega), if_neg (by omega)]
      rw [g.1, g.2] at hp9 ⊢
      omega
    · rw [if_neg g, fu_at (by omega) (by omega)]
      by_cases g1 : p = u ∧ q = v
      · rw [g1.2] at hk9; omega
      · rw [if_neg g1]; exact hp9
theorem cs_nn {r : Nat → Int} {s : Nat → Bool} {n : Nat} (h : ∀ p q, p < n → q < n → 0 ≤ r (16 * p + q)) : 0 ≤ csF r s n := sgm_nn (fun a ha => sgm_nn (fun b hb => by
  show 0 ≤ (if s a = true ∧ s b = false then r (16 * a + b) else 0)
  by_cases g : s a = true ∧ s b = false
  · rw [if_pos g]; exact h a b ha hb
  · rw [if_neg g]; omega))
theorem cs_ge {r : Nat → Int} {s : Nat → Bool} {n u v : Nat} (h : ∀ p q, p < n → q < n → 0 ≤ r (16 * p + q)) (hu : u < n) (hv : v < n) (hs : s u = true ∧ s v = false) : r (16 * u + v) ≤ csF r s n := by
  have hp : ∀ a b, a < n → b < n → 0 ≤ (if s a = true ∧ s b = false then r (16 * a + b) else 0) := fun a b ha hb => by
    by_cases g : s a = true ∧ s b = false
    · rw [if_pos g]; exact h a b ha hb
    · rw [if_neg g]; omega
  have h1 : sgm (fun b => if s u = true ∧ s b = false then r (16 * u + b) else 0) n ≤ csF r s n := sgm_ge (f := fun a => sgm (fun b => if s a = true ∧ s b = false then r (16 * a + b) else 0) n) (fun a ha => sgm_nn (fun b hb => hp a b ha hb)) u hu
  have h2 : (if s u = true ∧ s v = false then r (16 * u + v) else 0) ≤ sgm (fun b => if s u = true ∧ s b = false then r (16 * u + b) else 0) n := sgm_ge (f := fun b => if s u = true ∧ s b = false then r (16 * u + b) else 0) (fun b hb => hp u b hu hb) v hv
  rw [if_pos hs] at h2
  omega
theorem cs_zero {r : Nat → Int} {s : Nat → Bool} {n : Nat} (h : ∀ p q, p < n → q < n → s p = true → s q = false → r (16 * p + q) = 0) : csF r s n = 0 := by
  unfold csF
  rw [sgm_cg (g := fun _ => 0) (fun a ha => by
    rw [sgm_cg (g := fun _ => 0) (fun b hb => by
      show (if s a = true ∧ s b = false then r (16 * a + b) else 0) = 0
      by_cases g : s a = true ∧ s b = false
      · rw [if_pos g]; exact h a b ha hb g.1 g.2
      · exact if_neg g)]
    exact sgm_0 n)]
  exact sgm_0 n
