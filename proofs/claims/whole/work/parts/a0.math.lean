/-- the least set with the nodes of S that is closed under R -/
def RC (R : Nat → Nat → Prop) (S : Nat → Prop) (x : Nat) : Prop := ∀ C : Nat → Prop, (∀ i, S i → C i) → (∀ i j, C i → R i j → C j) → C x
theorem RC_in {R : Nat → Nat → Prop} {S : Nat → Prop} {x : Nat} (h : S x) : RC R S x := fun _ h1 _ => h1 x h
theorem RC_st {R : Nat → Nat → Prop} {S : Nat → Prop} {i j : Nat} (h : RC R S i) (hr : R i j) : RC R S j := fun C h1 h2 => h2 i j (h C h1 h2) hr
theorem RC_mono {R R' : Nat → Nat → Prop} {S S' : Nat → Prop} {x : Nat} (hR : ∀ i j, R i j → R' i j) (hS : ∀ i, S i → S' i) (h : RC R S x) : RC R' S' x :=
  fun C h1 h2 => h C (fun i hi => h1 i (hS i hi)) (fun i j hi hr => h2 i j hi (hR i j hr))
theorem RC_tr {R : Nat → Nat → Prop} {S : Nat → Prop} {b c : Nat} (h1 : RC R S b) (h2 : RC R (fun x => x = b) c) : RC R S c :=
  h2 (RC R S) (fun i hi => by rw [hi]; exact h1) (fun i j hi hr => RC_st hi hr)
theorem RC_sym {R : Nat → Nat → Prop} (hs : ∀ i j, R i j → R j i) {a b : Nat} (h : RC R (fun x => x = a) b) : RC R (fun x => x = b) a :=
  h (fun x => RC R (fun y => y = x) a) (fun i hi => by subst hi; exact RC_in rfl) (fun i j hi hr => RC_tr (RC_st (RC_in rfl) (hs i j hr)) hi)
theorem RC_inv {R : Nat → Nat → Prop} {a b : Nat} (h : RC R (fun x => x = a) b) : RC (fun i j => R j i) (fun x => x = b) a :=
  h (fun x => RC (fun i j => R j i) (fun y => y = x) a) (fun i hi => by subst hi; exact RC_in rfl) (fun i j hi hr => RC_tr (RC_st (RC_in rfl) hr) hi)
theorem RC_iff {R R' : Nat → Nat → Prop} {S : Nat → Prop} (hR : ∀ i j, R i j ↔ R' i j) (x : Nat) : RC R S x ↔ RC R' S x :=
  ⟨RC_mono (fun i j => (hR i j).mp) (fun _ h => h), RC_mono (fun i j => (hR i j).mpr) (fun _ h => h)⟩
/-- one leaves a set over some step, if one leaves it at all -/
theorem RC_out {R : Nat → Nat → Prop} {S X : Nat → Prop} {b : Nat} (h : RC R S b) (hS : ∀ i, S i → X i) (hb : ¬ X b) : ∃ i j, X i ∧ ¬ X j ∧ R i j := by
  apply Classical.byContradiction
  intro hn
  exact hb (h X hS (fun i j hi hr => Classical.byContradiction (fun hj => hn ⟨i, j, hi, hj, hr⟩)))
/-- how many numbers below k are so -/
noncomputable def cnP (p : Nat → Prop) : Nat → Nat
  | 0 => 0
  | k + 1 => cnP p k + @ite Nat (p k) (Classical.propDecidable _) 1 0
theorem cnP_y {p : Nat → Prop} {k : Nat} (h : p k) : cnP p (k + 1) = cnP p k + 1 := by
  show cnP p k + @ite Nat (p k) (Classical.propDecidable _) 1 0 = _
  rw [if_pos h]
theorem cnP_n {p : Nat → Prop} {k : Nat} (h : ¬ p k) : cnP p (k + 1) = cnP p k := by
  show cnP p k + @ite Nat (p k) (Classical.propDecidable _) 1 0 = _
  rw [if_neg h]; rfl
theorem cnP_le (p : Nat → Prop) : ∀ k, cnP p k ≤ k := by
  intro k
  induction k with
  | zero => exact Nat.le_refl _
  | succ k ih =>
    by_cases h : p k
    · rw [cnP_y h]; omega
    · rw [cnP_n h]; omega
theorem cnP_eq {p q : Nat → Prop} : ∀ {k : Nat}, (∀ i, i < k → (p i ↔ q i)) → cnP p k = cnP q k := by
  intro k
  induction k with
  | zero => intro _; rfl
  | succ k ih =>
    intro h
    have e := ih (fun i hi => h i (by omega))
    by_cases hp : p k
    · rw [cnP_y hp, cnP_y ((h k (by omega)).mp hp), e]
    · rw [cnP_n hp, cnP_n (fun hq => hp ((h k (by omega)).mpr hq)), e]
theorem cnP_mono {p : Nat → Prop} {j k : Nat} (h : j ≤ k) : cnP p j ≤ cnP p k := by
  induction k with
  | zero => have : j = 0 := by omega
            rw [this]; exact Nat.le_refl _
  | succ k ih =>
    by_cases hj : j = k + 1
    · rw [hj]; exact Nat.le_refl _
    · have h1 := ih (by omega)
      by_cases hp : p k
      · rw [cnP_y hp]; omega
      · rw [cnP_n hp]; exact h1
/-- without one of them it is one less -/
theorem cnP_rm {p : Nat → Prop} {a : Nat} : ∀ {k : Nat}, a < k → p a → cnP p k = cnP (fun i => p i ∧ i ≠ a) k + 1 := by
  intro k
  induction k with
  | zero => intro h; omega
  | succ k ih =>
    intro h hp
    by_cases hk : a = k
    · subst hk
      rw [cnP_y hp, cnP_n (p := fun i => p i ∧ i ≠ a) (k := a) (fun h9 => h9.2 rfl)]
      rw [cnP_eq (p := p) (q := fun i => p i ∧ i ≠ a) (k := a) (fun i hi => ⟨fun h9 => ⟨h9, by omega⟩, fun h9 => h9.1⟩)]
    · have e := ih (by omega) hp
      by_cases hq : p k
      · rw [cnP_y hq, cnP_y (p := fun i => p i ∧ i ≠ a) (k := k) ⟨hq, by omega⟩, e]
      · rw [cnP_n hq, cnP_n (p := fun i => p i ∧ i ≠ a) (k := k) (fun h9 => hq h9.1), e]
theorem cnP_inj {p : Nat → Prop} {N : Nat} : ∀ {k : Nat} {q : Nat → Prop} {φ : Nat → Nat}, (∀ i, i < k → p i → φ i < N ∧ q (φ i)) → (∀ i j, i < k → j < k → p i → p j → φ i = φ j → i = j) → cnP p k ≤ cnP q N := by
  intro k
  induction k with
  | zero => intro q φ _ _; exact Nat.zero_le _
  | succ k ih =>
    intro q φ h1 h2
    by_cases hp : p k
    · have h3 := h1 k (by omega) hp
      rw [cnP_y hp, cnP_rm h3.1 h3.2]
      have h4 := ih (q := fun i => q i ∧ i ≠ φ k) (φ := φ) (fun i hi hpi => ⟨(h1 i (by omega) hpi).1, (h1 i (by omega) hpi).2, fun e => by have := h2 i k (by omega) (by omega) hpi hp e; omega⟩) (fun i j hi hj => h2 i j (by omega) (by omega))
      omega
    · rw [cnP_n hp]
      exact ih (fun i hi => h1 i (by omega)) (fun i j hi hj => h2 i j (by omega) (by omega))
/-- as many, if each has its own on the other side -/
theorem cnP_bij {p q : Nat → Prop} {k N : Nat} {φ ψ : Nat → Nat} (h1 : ∀ i, i < k → p i → φ i < N ∧ q (φ i)) (h2 : ∀ i j, i < k → j < k → p i → p j → φ i = φ j → i = j) (h3 : ∀ i, i < N → q i → ψ i < k ∧ p (ψ i)) (h4 : ∀ i j, i < N → j < N → q i → q j → ψ i = ψ j → i = j) : cnP p k = cnP q N :=
  Nat.le_antisymm (cnP_inj h1 h2) (cnP_inj h3 h4)
/-- the first of its class -/
def fsP (E : Nat → Nat → Prop) (u : Nat) : Prop := ∀ w, w < u → ¬ E w u
/-- nodes numbered by classes, in the order of their first nodes -/
def nuP2 (E : Nat → Nat → Prop) (f : Nat → Int) (N : Nat) : Prop := ∀ v, v < N → (∃ u, u < v ∧ E u v ∧ (∀ w, w < u → ¬ E w v) ∧ f v = f u) ∨ (fsP E v ∧ f v = (cnP (fsP E) v : Int))
theorem nu_uniq {E E' : Nat → Nat → Prop} {f f' : Nat → Int} {N : Nat} (hE : ∀ u v, u < N → v < N → (E u v ↔ E' u v)) (h : nuP2 E f N) (h' : nuP2 E' f' N) : ∀ v, v < N → f v = f' v := by
  intro v
  induction v using Nat.strongRecOn with
  | _ v ih =>
    intro hv
    have hc : cnP (fsP E) v = cnP (fsP E') v := cnP_eq (fun i hi => ⟨fun h9 w hw he => h9 w hw ((hE w i (by omega) (by omega)).mpr he), fun h9 w hw he => h9 w hw ((hE w i (by omega) (by omega)).mp he)⟩)
    rcases h v hv with ⟨u, q1, q2, q3, q4⟩ | ⟨q1, q2⟩
    · rcases h' v hv with ⟨u', r1, r2, r3, r4⟩ | ⟨r1, r2⟩
      · have e : u = u' := by
          rcases Nat.lt_trichotomy u u' with h9 | h9 | h9
          · exact absurd ((hE u v (by omega) hv).mp q2) (r3 u h9)
          · exact h9
          · exact absurd ((hE u' v (by omega) hv).mpr r2) (q3 u' h9)
        subst e
        rw [q4, r4]; exact ih u q1 (by omega)
      · exact absurd ((hE u v (by omega) hv).mp q2) (r1 u q1)
    · rcases h' v hv with ⟨u', r1, r2, r3, r4⟩ | ⟨r1, r2⟩
      · exact absurd ((hE u' v (by omega) hv).mpr r2) (q1 u' r1)
      · rw [q2, r2, hc]
theorem nu_cnt {E E' : Nat → Nat → Prop} {N : Nat} (hE : ∀ u v, u < N → v < N → (E u v ↔ E' u v)) : cnP (fsP E) N = cnP (fsP E') N :=
  cnP_eq (fun i hi => ⟨fun h9 w hw he => h9 w hw ((hE w i (by omega) (by omega)).mpr he), fun h9 w hw he => h9 w hw ((hE w i (by omega) (by omega)).mp he)⟩)
/-- nodes that arcs of X join; directions and loops do not count -/
def joX (m : Nat) (F T : Nat → Int) (X : Nat → Prop) (a b : Nat) : Prop := ∃ k, k < m ∧ X k ∧ F k ≠ T k ∧ ((F k = (a : Int) ∧ T k = (b : Int)) ∨ (T k = (a : Int) ∧ F k = (b : Int)))
theorem joX_sym {m : Nat} {F T : Nat → Int} {X : Nat → Prop} (a b : Nat) (h : joX m F T X a b) : joX m F T X b a := by
  obtain ⟨k, h1, h2, h3, h4⟩ := h
  exact ⟨k, h1, h2, h3, h4.elim (fun q => Or.inr ⟨q.2, q.1⟩) (fun q => Or.inl ⟨q.2, q.1⟩)⟩
theorem joX_mono {m : Nat} {F T : Nat → Int} {X Y : Nat → Prop} (h : ∀ k, X k → Y k) (a b : Nat) (q : joX m F T X a b) : joX m F T Y a b := by
  obtain ⟨k, h1, h2, h3⟩ := q
  exact ⟨k, h1, h k h2, h3⟩
/-- an arc without which its ends no longer hang together, of the arcs of X -/
def brX (m : Nat) (F T : Nat → Int) (X : Nat → Prop) (k : Nat) : Prop := F k ≠ T k ∧ ∀ a b : Nat, F k = (a : Int) → T k = (b : Int) → ¬ RC (joX m F T (fun j => X j ∧ j ≠ k)) (fun x => x = a) b
/-- that one bridge is gone makes no other arc a bridge -/
theorem br_step {m : Nat} {F T : Nat → Int} {X : Nat → Prop} {i e : Nat} {a b c d : Nat} (hi : F i = (a : Int) ∧ T i = (b : Int)) (hXi : X i ∧ i < m) (hab : a ≠ b) (he : F e = (c : Int) ∧ T e = (d : Int)) (hie : i ≠ e) (hbr : ¬ RC (joX m F T (fun j => X j ∧ j ≠ e)) (fun x => x = c) d) (h : RC (joX m F T (fun j => X j ∧ j ≠ i)) (fun x => x = a) b) : RC (joX m F T (fun j => (X j ∧ j ≠ e) ∧ j ≠ i)) (fun x => x = a) b := by
  apply Classical.byContradiction
  intro hn
  have up : ∀ p q, RC (joX m F T (fun j => (X j ∧ j ≠ e) ∧ j ≠ i)) (fun x => x = p) q → RC (joX m F T (fun j => X j ∧ j ≠ e)) (fun x => x = p) q := fun p q hq => RC_mono (joX_mono (fun k hk => hk.1)) (fun _ h9 => h9) hq
  -- the arc i
  have ji : joX m F T (fun j => X j ∧ j ≠ e) a b := ⟨i, hXi.2, ⟨hXi.1, hie⟩, by rw [hi.1, hi.2]; omega, Or.inl hi⟩
  have jib : joX m F T (fun j => X j ∧ j ≠ e) b a := joX_sym _ _ ji
  -- leaving the part of a
  obtain ⟨p, q, hp, hq, k, hk1, hk2, hk3, hk4⟩ := RC_out (X := RC (joX m F T (fun j => (X j ∧ j ≠ e) ∧ j ≠ i)) (fun x => x = a)) h (fun j hj => RC_in hj) hn
  have ek : k = e := by
    apply Classical.byContradiction
    intro hke
    exact hq (RC_st hp ⟨k, hk1, ⟨⟨hk2.1, hke⟩, hk2.2⟩, hk3, hk4⟩)
  -- leaving the part of b
  have hs : ∀ i' j', joX m F T (fun j => X j ∧ j ≠ i) i' j' → joX m F T (fun j => X j ∧ j ≠ i) j' i' := fun _ _ => joX_sym _ _
  have hs2 : ∀ i' j', joX m F T (fun j => (X j ∧ j ≠ e) ∧ j ≠ i) i' j' → joX m F T (fun j => (X j ∧ j ≠ e) ∧ j ≠ i) j' i' := fun _ _ => joX_sym _ _
  have hn2 : ¬ RC (joX m F T (fun j => (X j ∧ j ≠ e) ∧ j ≠ i)) (fun x => x = b) a := fun h9 => hn (RC_sym hs2 h9)
  obtain ⟨p2, q2, hp2, hq2, k2, gk1, gk2, gk3, gk4⟩ := RC_out (X := RC (joX m F T (fun j => (X j ∧ j ≠ e) ∧ j ≠ i)) (fun x => x = b)) (RC_sym hs h) (fun j hj => RC_in hj) hn2
  have ek2 : k2 = e := by
    apply Classical.byContradiction
    intro hke
    exact hq2 (RC_st hp2 ⟨k2, gk1, ⟨⟨gk2.1, hke⟩, gk2.2⟩, gk3, gk4⟩)
  subst ek
  subst ek2
  -- no node is in both parts
  have dis : ∀ x, RC (joX m F T (fun j => (X j ∧ j ≠ k2) ∧ j ≠ i)) (fun y => y = a) x → RC (joX m F T (fun j => (X j ∧ j ≠ k2) ∧ j ≠ i)) (fun y => y = b) x → False := fun x h1 h2 => hn (RC_tr h1 (RC_sym hs2 h2))
  have cd : ∀ x : Nat, ∀ y : Nat, RC (joX m F T (fun j => (X j ∧ j ≠ k2) ∧ j ≠ i)) (fun z => z = a) x → RC (joX m F T (fun j => (X j ∧ j ≠ k2) ∧ j ≠ i)) (fun z => z = b) y → RC (joX m F T (fun j => X j ∧ j ≠ k2)) (fun z => z = x) y ∧ RC (joX m F T (fun j => X j ∧ j ≠ k2)) (fun z => z = y) x := by
    intro x y h1 h2
    have hs3 : ∀ i' j', joX m F T (fun j => X j ∧ j ≠ k2) i' j' → joX m F T (fun j => X j ∧ j ≠ k2) j' i' := fun _ _ => joX_sym _ _
    have g : RC (joX m F T (fun j => X j ∧ j ≠ k2)) (fun z => z = x) y := RC_tr (RC_st (RC_sym hs3 (up _ _ h1)) ji) (up _ _ h2)
    exact ⟨g, RC_sym hs3 g⟩
  rw [he.1, he.2] at hk4 gk4
  rcases hk4 with ⟨e1, e2⟩ | ⟨e1, e2⟩
  · have e1' : c = p := by omega
    have e2' : d = q := by omega
    rcases gk4 with ⟨e3, e4⟩ | ⟨e3, e4⟩
    · have e3' : c = p2 := by omega
      rw [← e1'] at hp; rw [← e3'] at hp2
      exact dis c hp hp2
    · have e3' : d = p2 := by omega
      rw [← e1'] at hp; rw [← e3'] at hp2
      exact hbr (cd c d hp hp2).1
  · have e1' : d = p := by omega
    rcases gk4 with ⟨e3, e4⟩ | ⟨e3, e4⟩
    · have e3' : c = p2 := by omega
      rw [← e1'] at hp; rw [← e3'] at hp2
      exact hbr (cd d c hp hp2).2
    · have e3' : d = p2 := by omega
      rw [← e1'] at hp; rw [← e3'] at hp2
      exact dis d hp hp2
/-- what is left of the arcs when the bridges among the first i are gone -/
def wbX (m : Nat) (F T : Nat → Int) (i : Nat) (k : Nat) : Prop := ¬ (k < i ∧ brX m F T (fun _ => True) k)
/-- an arc is a bridge of what is left just if it is one of all -/
theorem br_left {m : Nat} {F T : Nat → Int} {n : Nat} (hF : ∀ k, k < m → ∃ a b : Nat, F k = (a : Int) ∧ T k = (b : Int)) {i a b : Nat} (hi : i < m) (ha : F i = (a : Int) ∧ T i = (b : Int)) (hab : a ≠ b) : ∀ j, j ≤ m → RC (joX m F T (fun k => True ∧ k ≠ i)) (fun x => x = a) b → RC (joX m F T (fun k => wbX m F T j k ∧ k ≠ i)) (fun x => x = a) b := by
  intro j
  induction j with
  | zero => intro _ h; exact RC_mono (joX_mono (fun k hk => ⟨fun h9 => by omega, hk.2⟩)) (fun _ h9 => h9) h
  | succ j ih =>
    intro hj h
    have h1 := ih (by omega) h
    by_cases hb : brX m F T (fun _ => True) j
    · by_cases hij : i = j
      · -- the arc itself
        subst hij
        exact absurd h (hb.2 a b ha.1 ha.2)
      · obtain ⟨c, d, hc, hd⟩ := hF j (by omega)
        have hwi : wbX m F T j i := fun h9 => absurd (RC_mono (joX_mono (fun k hk => hk)) (fun _ q => q) h) (h9.2.2 a b ha.1 ha.2)
        have h2 := br_step (X := wbX m F T j) (i := i) (e := j) (c := c) (d := d) ha ⟨hwi, hi⟩ hab ⟨hc, hd⟩ hij (fun h9 => hb.2 c d hc hd (RC_mono (joX_mono (fun k hk => ⟨trivial, hk.2⟩)) (fun _ q => q) h9)) h1
        exact RC_mono (joX_mono (fun k hk => ⟨fun h9 => (by
          rcases Nat.lt_or_ge k j with h8 | h8
          · exact hk.1.1 ⟨h8, h9.2⟩
          · exact hk.1.2 (by omega)), hk.2⟩)) (fun _ q => q) h2
    · exact RC_mono (joX_mono (fun k hk => ⟨fun h9 => (by
          rcases Nat.lt_or_ge k j with h8 | h8
          · exact hk.1 ⟨h8, h9.2⟩
          · have e : k = j := by omega
            exact hb (e ▸ h9.2)), hk.2⟩)) (fun _ q => q) h1
theorem lst {p : Nat → Prop} : ∀ {a : Nat}, p a → ∃ u, u ≤ a ∧ p u ∧ ∀ w, w < u → ¬ p w := by
  intro a
  induction a using Nat.strongRecOn with
  | _ a ih =>
    intro h
    by_cases hn : ∃ w, w < a ∧ p w
    · obtain ⟨w, h1, h2⟩ := hn
      obtain ⟨u, q1, q2, q3⟩ := ih w h1 h2
      exact ⟨u, by omega, q2, q3⟩
    · exact ⟨a, Nat.le_refl _, h, fun w hw hp => hn ⟨w, hw, hp⟩⟩
theorem cnP_sub {p q : Nat → Prop} : ∀ {k : Nat}, (∀ i, i < k → p i → q i) → cnP p k ≤ cnP q k := by
  intro k
  induction k with
  | zero => intro _; exact Nat.le_refl _
  | succ k ih =>
    intro h
    have e := ih (fun i hi => h i (by omega))
    by_cases hp : p k
    · rw [cnP_y hp, cnP_y (h k (by omega) hp)]; omega
    · rw [cnP_n hp]
      exact Nat.le_trans e (cnP_mono (by omega))
theorem cnP_lt {p q : Nat → Prop} {k u : Nat} (h : ∀ i, i < k → p i → q i) (hu : u < k) (hq : q u) (hp : ¬ p u) : cnP p k < cnP q k := by
  rw [cnP_rm hu hq]
  have := cnP_sub (p := p) (q := fun i => q i ∧ i ≠ u) (k := k) (fun i hi hpi => ⟨h i hi hpi, fun e => hp (e ▸ hpi)⟩)
  omega
theorem cnP_rel {R : Nat → Nat → Prop} {p : Nat → Prop} {N : Nat} : ∀ {k : Nat} {q : Nat → Prop}, (∀ i, i < k → p i → ∃ j, j < N ∧ q j ∧ R i j) → (∀ i i' j, i < k → i' < k → p i → p i' → R i j → R i' j → i = i') → cnP p k ≤ cnP q N := by
  intro k
  induction k with
  | zero => intro q _ _; exact Nat.zero_le _
  | succ k ih =>
    intro q h1 h2
    by_cases hp : p k
    · obtain ⟨j, h3, h4, h5⟩ := h1 k (by omega) hp
      rw [cnP_y hp, cnP_rm h3 h4]
      have h6 := ih (q := fun i => q i ∧ i ≠ j) (fun i hi hpi => (by
        obtain ⟨j', r1, r2, r3⟩ := h1 i (by omega) hpi
        exact ⟨j', r1, ⟨r2, fun e => by subst e; have := h2 i k j' (by omega) (by omega) hpi hp r3 h5; omega⟩, r3⟩)) (fun i i' j' hi hi' => h2 i i' j' (by omega) (by omega))
      omega
    · rw [cnP_n hp]
      exact ih (fun i hi => h1 i (by omega)) (fun i i' j' hi hi' => h2 i i' j' (by omega) (by omega))
/-- how many parts there are grows just when a bridge goes -/
theorem br_cnt {m : Nat} {F T : Nat → Int} {n k a b : Nat} (hk : k < m) (ha : F k = (a : Int) ∧ T k = (b : Int)) (hn : a < n ∧ b < n) : cnP (fsP (fun u v => RC (joX m F T (fun _ => True)) (fun x => x = v) u)) n < cnP (fsP (fun u v => RC (joX m F T (fun j => True ∧ j ≠ k)) (fun x => x = v) u)) n ↔ brX m F T (fun _ => True) k := by
  have hs : ∀ i j, joX m F T (fun j => True ∧ j ≠ k) i j → joX m F T (fun j => True ∧ j ≠ k) j i := fun _ _ => joX_sym _ _
  have hs1 : ∀ i j, joX m F T (fun _ => True) i j → joX m F T (fun _ => True) j i := fun _ _ => joX_sym _ _
  have up : ∀ p q, RC (joX m F T (fun j => True ∧ j ≠ k)) (fun x => x = p) q → RC (joX m F T (fun _ => True)) (fun x => x = p) q := fun p q => RC_mono (joX_mono (fun _ _ => trivial)) (fun _ h => h)
  constructor
  · intro h
    apply Classical.byContradiction
    intro hb
    have hc : RC (joX m F T (fun j => True ∧ j ≠ k)) (fun x => x = a) b := by
      by_cases he : F k = T k
      · have e : a = b := by omega
        subst e; exact RC_in rfl
      · apply Classical.byContradiction
        intro h9
        exact hb ⟨he, fun a' b' e1 e2 => by
          have ea : a = a' := by omega
          have eb : b = b' := by omega
          subst ea; subst eb; exact h9⟩
    have dn : ∀ p q, RC (joX m F T (fun _ => True)) (fun x => x = p) q → RC (joX m F T (fun j => True ∧ j ≠ k)) (fun x => x = p) q := by
      intro p q hq
      refine hq _ (fun i hi => RC_in hi) (fun i j hi hr => ?_)
      obtain ⟨k', r1, r2, r3, r4⟩ := hr
      by_cases ek : k' = k
      · subst ek
        rw [ha.1, ha.2] at r4
        rcases r4 with ⟨e1, e2⟩ | ⟨e1, e2⟩
        · have e1' : a = i := by omega
          have e2' : b = j := by omega
          subst e1'; subst e2'; exact RC_tr hi hc
        · have e1' : b = i := by omega
          have e2' : a = j := by omega
          subst e1'; subst e2'; exact RC_tr hi (RC_sym hs hc)
      · exact RC_st hi ⟨k', r1, ⟨trivial, ek⟩, r3, r4⟩
    have e := nu_cnt (E := fun u v => RC (joX m F T (fun _ => True)) (fun x => x = v) u) (E' := fun u v => RC (joX m F T (fun j => True ∧ j ≠ k)) (fun x => x = v) u) (N := n) (fun u v _ _ => ⟨dn v u, up v u⟩)
    omega
  · intro hb
    have hnc := hb.2 a b ha.1 ha.2
    have hj : joX m F T (fun _ => True) a b := ⟨k, hk, trivial, hb.1, Or.inl ha⟩
    obtain ⟨la, p1, p2, p3⟩ := lst (p := fun u => RC (joX m F T (fun j => True ∧ j ≠ k)) (fun x => x = a) u) (a := a) (RC_in rfl)
    obtain ⟨lb, q1, q2, q3⟩ := lst (p := fun u => RC (joX m F T (fun j => True ∧ j ≠ k)) (fun x => x = b) u) (a := b) (RC_in rfl)
    have hne : la ≠ lb := fun e => by subst e; exact hnc (RC_tr p2 (RC_sym hs q2))
    have fa : fsP (fun u v => RC (joX m F T (fun j => True ∧ j ≠ k)) (fun x => x = v) u) la := fun w hw h9 => p3 w hw (RC_tr p2 h9)
    have fb : fsP (fun u v => RC (joX m F T (fun j => True ∧ j ≠ k)) (fun x => x = v) u) lb := fun w hw h9 => q3 w hw (RC_tr q2 h9)
    have lab : RC (joX m F T (fun _ => True)) (fun x => x = la) lb := RC_tr (RC_st (RC_sym hs1 (up _ _ p2)) hj) (up _ _ q2)
    have sub : ∀ i, i < n → fsP (fun u v => RC (joX m F T (fun _ => True)) (fun x => x = v) u) i → fsP (fun u v => RC (joX m F T (fun j => True ∧ j ≠ k)) (fun x => x = v) u) i := fun i _ h9 w hw h8 => h9 w hw (up _ _ h8)
    rcases Nat.lt_or_ge la lb with h9 | h9
    · exact cnP_lt sub (show lb < n by omega) fb (fun h8 => h8 la h9 (RC_sym hs1 lab))
    · exact cnP_lt sub (show la < n by omega) fa (fun h8 => h8 lb (by omega) lab)
/-- steps within a set -/
def wi (J : Nat → Nat → Prop) (S : Nat → Prop) (i j : Nat) : Prop := J i j ∧ S i ∧ S j
theorem wi_sym {J : Nat → Nat → Prop} (hs : ∀ i j, J i j → J j i) {S : Nat → Prop} (i j : Nat) (h : wi J S i j) : wi J S j i := ⟨hs i j h.1, h.2.2, h.2.1⟩
theorem wi_mono {J : Nat → Nat → Prop} {S S' : Nat → Prop} (h : ∀ i, S i → S' i) (i j : Nat) (q : wi J S i j) : wi J S' i j := ⟨q.1, h i q.2.1, h j q.2.2⟩
/-- a set that hangs together -/
def cnS (J : Nat → Nat → Prop) (S : Nat → Prop) : Prop := ∀ u w, S u → S w → RC (wi J S) (fun x => x = u) w
/-- without a node -/
def mi (S : Nat → Prop) (x : Nat) (i : Nat) : Prop := S i ∧ i ≠ x
/-- two nodes or more that hang together also without any one of them -/
def soP (J : Nat → Nat → Prop) (S : Nat → Prop) : Prop := (∃ u w, S u ∧ S w ∧ u ≠ w) ∧ cnS J S ∧ ∀ x, S x → cnS J (mi S x)
theorem cn_hub {J : Nat → Nat → Prop} (hs : ∀ i j, J i j → J j i) {S : Nat → Prop} {h : Nat} (hh : ∀ y, S y → RC (wi J S) (fun x => x = h) y) : cnS J S := fun u w hu hw => RC_tr (RC_sym (wi_sym hs) (hh u hu)) (hh w hw)
theorem so_mi {J : Nat → Nat → Prop} {S : Nat → Prop} (h : soP J S) (x : Nat) : cnS J (mi S x) := by
  by_cases hx : S x
  · exact h.2.2 x hx
  · intro u w hu hw
    exact RC_mono (wi_mono (fun i hi => ⟨hi, fun e => hx (e ▸ hi)⟩)) (fun _ q => q) (h.2.1 u w hu.1 hw.1)
/-- two such sets and a way between them that does not go over what they share -/
theorem so_un {J : Nat → Nat → Prop} (hs : ∀ i j, J i j → J j i) {S S' Q : Nat → Prop} {v w w' : Nat} (h : soP J S) (h' : soP J S') (hv : S v) (hv' : S' v) (hw : S w) (hw' : S' w') (nw : w ≠ v) (nw' : w' ≠ v) (qw : Q w) (qw' : Q w') (qv : ¬ Q v) (hQ : ∀ x y, Q y → y ≠ x → (w ≠ x ∧ RC (wi J (mi Q x)) (fun z => z = w) y) ∨ (w' ≠ x ∧ RC (wi J (mi Q x)) (fun z => z = w') y)) (hQc : RC (wi J Q) (fun z => z = w) w') : soP J (fun i => S i ∨ S' i ∨ Q i) := by
  have iS : ∀ x i, mi S x i → mi (fun i => S i ∨ S' i ∨ Q i) x i := fun x i q => ⟨Or.inl q.1, q.2⟩
  have iS' : ∀ x i, mi S' x i → mi (fun i => S i ∨ S' i ∨ Q i) x i := fun x i q => ⟨Or.inr (Or.inl q.1), q.2⟩
  have iQ : ∀ x i, mi Q x i → mi (fun i => S i ∨ S' i ∨ Q i) x i := fun x i q => ⟨Or.inr (Or.inr q.1), q.2⟩
  have nQ : ∀ i, Q i → i ≠ v := fun i q e => qv (e ▸ q)
  have key : ∀ x, x ≠ v → cnS J (mi (fun i => S i ∨ S' i ∨ Q i) x) := by
    intro x hx
    refine cn_hub hs (h := v) (fun y hy => ?_)
    have rS : ∀ y, S y → y ≠ x → RC (wi J (mi (fun i => S i ∨ S' i ∨ Q i) x)) (fun z => z = v) y := fun y q1 q2 => RC_mono (wi_mono (iS x)) (fun _ q => q) (so_mi h x v y ⟨hv, fun e => hx e.symm⟩ ⟨q1, q2⟩)
    have rS' : ∀ y, S' y → y ≠ x → RC (wi J (mi (fun i => S i ∨ S' i ∨ Q i) x)) (fun z => z = v) y := fun y q1 q2 => RC_mono (wi_mono (iS' x)) (fun _ q => q) (so_mi h' x v y ⟨hv', fun e => hx e.symm⟩ ⟨q1, q2⟩)
    rcases hy.1 with q | q | q
    · exact rS y q hy.2
    · exact rS' y q hy.2
    · rcases hQ x y q hy.2 with ⟨g1, g2⟩ | ⟨g1, g2⟩
      · exact RC_tr (rS w hw g1) (RC_mono (wi_mono (iQ x)) (fun _ q => q) g2)
      · exact RC_tr (rS' w' hw' g1) (RC_mono (wi_mono (iQ x)) (fun _ q => q) g2)
  have keyv : cnS J (mi (fun i => S i ∨ S' i ∨ Q i) v) := by
    refine cn_hub hs (h := w) (fun y hy => ?_)
    have qq : ∀ i, Q i → mi (fun i => S i ∨ S' i ∨ Q i) v i := fun i q => ⟨Or.inr (Or.inr q), nQ i q⟩
    have ww : RC (wi J (mi (fun i => S i ∨ S' i ∨ Q i) v)) (fun z => z = w) w' := RC_mono (wi_mono qq) (fun _ q => q) hQc
    rcases hy.1 with q | q | q
    · exact RC_mono (wi_mono (iS v)) (fun _ q => q) (so_mi h v w y ⟨hw, nw⟩ ⟨q, hy.2⟩)
    · exact RC_tr ww (RC_mono (wi_mono (iS' v)) (fun _ q => q) (so_mi h' v w' y ⟨hw', nw'⟩ ⟨q, hy.2⟩))
    · rcases hQ v y q hy.2 with ⟨g1, g2⟩ | ⟨g1, g2⟩
      · exact RC_mono (wi_mono (iQ v)) (fun _ q => q) g2
      · exact RC_tr ww (RC_mono (wi_mono (iQ v)) (fun _ q => q) g2)
  refine ⟨⟨w, v, Or.inl hw, Or.inl hv, nw⟩, ?_, fun x hx => ?_⟩
  · refine cn_hub hs (h := v) (fun y hy => ?_)
    have sub : ∀ x i, mi (fun i => S i ∨ S' i ∨ Q i) x i → (fun i => S i ∨ S' i ∨ Q i) i := fun x i q => q.1
    rcases hy with q | q | q
    · exact RC_mono (wi_mono (fun i q => Or.inl q)) (fun _ q => q) (h.2.1 v y hv q)
    · exact RC_mono (wi_mono (fun i q => Or.inr (Or.inl q))) (fun _ q => q) (h'.2.1 v y hv' q)
    · have vw : RC (wi J (fun i => S i ∨ S' i ∨ Q i)) (fun z => z = v) w := RC_mono (wi_mono (fun i q => Or.inl q)) (fun _ q => q) (h.2.1 v w hv hw)
      have wy := keyv w y ⟨Or.inl hw, nw⟩ ⟨Or.inr (Or.inr q), nQ y q⟩
      exact RC_tr vw (RC_mono (wi_mono (sub v)) (fun _ q => q) wy)
  · by_cases e : x = v
    · rw [e]; exact keyv
    · exact key x e
/-- a set of numbers below n that are so -/
theorem cmpr (p : Nat → Prop) : ∀ n : Nat, ∃ s : Nat, s < 2 ^ n ∧ ∀ i, s.testBit i = true ↔ i < n ∧ p i := by
  intro n
  induction n with
  | zero => exact ⟨0, by decide, fun i => by simp⟩
  | succ n ih =>
    obtain ⟨s, h1, h2⟩ := ih
    by_cases hp : p n
    · refine ⟨s ||| 2 ^ n, Nat.or_lt_two_pow (Nat.lt_of_lt_of_le h1 (Nat.pow_le_pow_right (by omega) (by omega))) (Nat.pow_lt_pow_right (by omega) (by omega)), fun i => ?_⟩
      rw [Nat.testBit_or, Bool.or_eq_true, h2 i, Nat.testBit_two_pow]
      constructor
      · rintro (⟨q1, q2⟩ | q)
        · exact ⟨by omega, q2⟩
        · have e : n = i := by simpa using q
          subst e; exact ⟨by omega, hp⟩
      · rintro ⟨q1, q2⟩
        by_cases e : i = n
        · right; simp [e]
        · left; exact ⟨by omega, q2⟩
    · refine ⟨s, Nat.lt_of_lt_of_le h1 (Nat.pow_le_pow_right (by omega) (by omega)), fun i => ?_⟩
      rw [h2 i]
      constructor
      · rintro ⟨q1, q2⟩; exact ⟨by omega, q2⟩
      · rintro ⟨q1, q2⟩
        have e : i ≠ n := fun e => hp (e ▸ q2)
        exact ⟨by omega, q2⟩
theorem tb_sub {s t : Nat} (h : ∀ i, s.testBit i = true → t.testBit i = true) (hn : ∃ i, t.testBit i = true ∧ ¬ s.testBit i = true) : s < t := by
  have h1 : s ≤ t := le_of_tb h
  rcases Nat.lt_or_eq_of_le h1 with h2 | h2
  · exact h2
  · obtain ⟨i, q1, q2⟩ := hn
    rw [h2] at q2; exact absurd q1 q2
/-- a way between two nodes of a set, none of it too much -/
theorem way_min {J : Nat → Nat → Prop} (hs : ∀ i j, J i j → J j i) {S : Nat → Prop} {n w w' : Nat} (hS : ∀ i, S i → i < n) (hw : S w) (h : RC (wi J S) (fun z => z = w) w') : ∃ Q : Nat → Prop, (∀ i, Q i → S i) ∧ Q w ∧ Q w' ∧ RC (wi J Q) (fun z => z = w) w' ∧ ∀ x y, Q y → y ≠ x → (w ≠ x ∧ RC (wi J (mi Q x)) (fun z => z = w) y) ∨ (w' ≠ x ∧ RC (wi J (mi Q x)) (fun z => z = w') y) := by
  have hw' : S w' := by
    by_cases e : w' = w
    · rw [e]; exact hw
    · exact h S (fun i hi => by rw [hi]; exact hw) (fun i j _ hr => hr.2.2)
  obtain ⟨s0, hs0, hs1⟩ := cmpr S n
  have p0 : (fun s : Nat => (∀ i, s.testBit i = true → S i) ∧ s.testBit w = true ∧ s.testBit w' = true ∧ RC (wi J (fun i => s.testBit i = true)) (fun z => z = w) w') s0 :=
    ⟨fun i hi => ((hs1 i).mp hi).2, (hs1 w).mpr ⟨hS w hw, hw⟩, (hs1 w').mpr ⟨hS w' hw', hw'⟩, RC_mono (wi_mono (fun i hi => (hs1 i).mpr ⟨hS i hi, hi⟩)) (fun _ q => q) h⟩
  obtain ⟨s, -, ⟨a1, a2, a3, a4⟩, a5⟩ := lst (p := fun s : Nat => (∀ i, s.testBit i = true → S i) ∧ s.testBit w = true ∧ s.testBit w' = true ∧ RC (wi J (fun i => s.testBit i = true)) (fun z => z = w) w') (a := s0) p0
  refine ⟨fun i => s.testBit i = true, a1, a2, a3, a4, fun x y hy hyx => ?_⟩
  apply Classical.byContradiction
  intro hno
  -- what hangs together with w or w' without x
  let K : Nat → Prop := fun z => (w ≠ x ∧ RC (wi J (mi (fun i => s.testBit i = true) x)) (fun z => z = w) z) ∨ (w' ≠ x ∧ RC (wi J (mi (fun i => s.testBit i = true) x)) (fun z => z = w') z)
  have Kst : ∀ i j, K i → wi J (mi (fun i => s.testBit i = true) x) i j → K j := fun i j hi hr => hi.elim (fun q => Or.inl ⟨q.1, RC_st q.2 hr⟩) (fun q => Or.inr ⟨q.1, RC_st q.2 hr⟩)
  have Kne : ∀ j, K j → j ≠ x := by
    intro j kj
    rcases kj with g | g
    · rcases g.2 (fun z => z = w ∨ z ≠ x) (fun z hz => Or.inl hz) (fun p r _ hpr => Or.inr hpr.2.2.2) with t | t
      · rw [t]; exact g.1
      · exact t
    · rcases g.2 (fun z => z = w' ∨ z ≠ x) (fun z hz => Or.inl hz) (fun p r _ hpr => Or.inr hpr.2.2.2) with t | t
      · rw [t]; exact g.1
      · exact t
  obtain ⟨s', hs', hs2⟩ := cmpr (fun i => s.testBit i = true ∧ (i = x ∨ K i)) n
  have inS' : ∀ i, s'.testBit i = true ↔ s.testBit i = true ∧ (i = x ∨ K i) := fun i => ⟨fun q => ((hs2 i).mp q).2, fun q => (hs2 i).mpr ⟨hS i (a1 i q.1), q⟩⟩
  have kw : w = x ∨ K w := by
    by_cases e : w = x
    · exact Or.inl e
    · exact Or.inr (Or.inl ⟨e, RC_in rfl⟩)
  have kw' : w' = x ∨ K w' := by
    by_cases e : w' = x
    · exact Or.inl e
    · exact Or.inr (Or.inr ⟨e, RC_in rfl⟩)
  have lt : s' < s := tb_sub (fun i q => ((inS' i).mp q).1) ⟨y, hy, fun q => ((inS' y).mp q).2.elim (fun e => hyx e) hno⟩
  refine a5 s' lt ⟨fun i q => a1 i ((inS' i).mp q).1, (inS' w).mpr ⟨a2, kw⟩, (inS' w').mpr ⟨a3, kw'⟩, ?_⟩
  have fin := a4 (fun z => s.testBit z = true ∧ (RC (wi J (fun i => s'.testBit i = true)) (fun z => z = w) z ∨ ¬ s'.testBit z = true)) (fun i hi => by rw [hi]; exact ⟨a2, Or.inl (RC_in rfl)⟩) (fun i j hi hr => by
    refine ⟨hr.2.2, ?_⟩
    by_cases hj : s'.testBit j = true
    · rcases hi.2 with q | q
      · have hi' : s'.testBit i = true := by
          by_cases e : i = w
          · rw [e]; exact (inS' w).mpr ⟨a2, kw⟩
          · exact q (fun z => s'.testBit z = true) (fun z hz => by rw [hz]; exact (inS' w).mpr ⟨a2, kw⟩) (fun p r _ hpr => hpr.2.2)
        exact Or.inl (RC_st q ⟨hr.1, hi', hj⟩)
      · -- from what fell away one gets nowhere but to x
        have nix : i ≠ x := fun e => q ((inS' i).mpr ⟨hr.2.1, Or.inl e⟩)
        rcases ((inS' j).mp hj).2 with e | kj
        · -- j is x
          subst e
          left
          -- x is reached, or else everything that is reached stays away from it
          apply Classical.byContradiction
          intro hx
          have st : ∀ z, RC (wi J (fun i => s.testBit i = true)) (fun z => z = w) z → RC (wi J (fun i => s'.testBit i = true)) (fun z => z = w) z := by
            intro z hz
            refine (hz (fun z => RC (wi J (fun i => s'.testBit i = true)) (fun z => z = w) z ∧ K z) (fun p hp => ?_) (fun p r hp hpr => ?_)).1
            · rw [hp]
              have e9 : w ≠ j := fun e9 => hx (by rw [e9]; exact RC_in rfl)
              exact ⟨RC_in rfl, Or.inl ⟨e9, RC_in rfl⟩⟩
            · have np : p ≠ j := fun e9 => hx (e9 ▸ hp.1)
              have sp : s'.testBit p = true := (inS' p).mpr ⟨hpr.2.1, Or.inr hp.2⟩
              by_cases e9 : r = j
              · exact absurd (RC_st hp.1 ⟨e9 ▸ hpr.1, sp, hj⟩) (fun h9 => hx (by first | exact h9 | exact e9 ▸ h9))
              · have kr : K r := Kst p r hp.2 ⟨hpr.1, ⟨hpr.2.1, np⟩, ⟨hpr.2.2, e9⟩⟩
                exact ⟨RC_st hp.1 ⟨hpr.1, sp, (inS' r).mpr ⟨hpr.2.2, Or.inr kr⟩⟩, kr⟩
          -- then w' is reached already
          have r9 := st w' a4
          exact a5 s' lt ⟨fun i q => a1 i ((inS' i).mp q).1, (inS' w).mpr ⟨a2, kw⟩, (inS' w').mpr ⟨a3, kw'⟩, r9⟩
        · by_cases e : j = x
          · exact absurd e (Kne j kj)
          · exact absurd ((inS' i).mpr ⟨hr.2.1, Or.inr (Kst j i kj ⟨hs i j hr.1, ⟨hr.2.2, e⟩, ⟨hr.2.1, nix⟩⟩)⟩) q
    · exact Or.inr hj)
  rcases fin.2 with q | q
  · exact q
  · exact absurd ((inS' w').mpr ⟨a3, kw'⟩) q
/-- a greatest set of two nodes or more that hang together also without any one of them -/
def mxS (J : Nat → Nat → Prop) (n : Nat) (s : Nat) : Prop := s < 2 ^ n ∧ soP J (fun i => s.testBit i = true) ∧ ∀ t, t < 2 ^ n → soP J (fun i => t.testBit i = true) → (∀ i, s.testBit i = true → t.testBit i = true) → t = s
/-- steps that do not touch v -/
def av (J : Nat → Nat → Prop) (v : Nat) (i j : Nat) : Prop := J i j ∧ i ≠ v ∧ j ≠ v
theorem av_sym {J : Nat → Nat → Prop} (hs : ∀ i j, J i j → J j i) {v : Nat} (i j : Nat) (h : av J v i j) : av J v j i := ⟨hs i j h.1, h.2.2, h.2.1⟩
/-- a solid set lies in a greatest one -/
theorem mx_ex {J : Nat → Nat → Prop} {n : Nat} : ∀ (k s : Nat), 2 ^ n - s ≤ k → s < 2 ^ n → soP J (fun i => s.testBit i = true) → ∃ t, mxS J n t ∧ ∀ i, s.testBit i = true → t.testBit i = true := by
  intro k
  induction k with
  | zero => intro s h1 h2 _; omega
  | succ k ih =>
    intro s h1 h2 h3
    by_cases hm : ∃ t, t < 2 ^ n ∧ soP J (fun i => t.testBit i = true) ∧ (∀ i, s.testBit i = true → t.testBit i = true) ∧ t ≠ s
    · obtain ⟨t, q1, q2, q3, q4⟩ := hm
      have q5 : s ≤ t := le_of_tb q3
      obtain ⟨u, r1, r2⟩ := ih t (by omega) q1 q2
      exact ⟨u, r1, fun i hi => r2 i (q3 i hi)⟩
    · exact ⟨s, ⟨h2, h3, fun t q1 q2 q3 => Classical.byContradiction (fun q4 => hm ⟨t, q1, q2, q3, q4⟩)⟩, fun _ h => h⟩
/-- the blocks of a node are as many as the pieces of what hangs together with it, when it is taken away -/
theorem bk_cnt {J : Nat → Nat → Prop} (hs : ∀ i j, J i j → J j i) (hi : ∀ i, ¬ J i i) {n v : Nat} (hn : ∀ i j, J i j → i < n ∧ j < n) (hv : v < n) : cnP (fun s => mxS J n s ∧ s.testBit v = true) (2 ^ n) = cnP (fun u => (RC J (fun x => x = v) u ∧ u ≠ v) ∧ ∀ w, w < u → ¬ RC (av J v) (fun x => x = u) w) n := by
  have lt : ∀ {u w : Nat}, u < n → RC (av J v) (fun x => x = u) w → w < n := fun {u w} hu h => h (fun z => z < n) (fun i e => by rw [e]; exact hu) (fun i j _ hr => (hn i j hr.1).2)
  have ne : ∀ {u w : Nat}, u ≠ v → RC (av J v) (fun x => x = u) w → w ≠ v := fun {u w} hu h => h (fun z => z ≠ v) (fun i e => by rw [e]; exact hu) (fun i j _ hr => hr.2.2)
  -- of a greatest set with v: what else is in it lies in one piece
  have one : ∀ {s w w' : Nat}, mxS J n s → s.testBit w = true → s.testBit w' = true → w ≠ v → w' ≠ v → RC (av J v) (fun x => x = w) w' := by
    intro s w w' hm h1 h2 h3 h4
    exact RC_mono (fun i j q => ⟨q.1, q.2.1.2, q.2.2.2⟩) (fun _ q => q) (so_mi hm.2.1 v w w' ⟨h1, h3⟩ ⟨h2, h4⟩)
  have bnd : ∀ {s i : Nat}, s < 2 ^ n → s.testBit i = true → i < n := by
    intro s i h1 h2
    rcases Nat.lt_or_ge i n with h3 | h3
    · exact h3
    · rw [Nat.testBit_lt_two_pow (Nat.lt_of_lt_of_le h1 (Nat.pow_le_pow_right (by omega) h3))] at h2
      cases h2
  have oth : ∀ {s : Nat}, mxS J n s → s.testBit v = true → ∃ w, s.testBit w = true ∧ w ≠ v := by
    intro s hm hsv
    obtain ⟨u, w, h1, h2, h3⟩ := hm.2.1.1
    by_cases e : u = v
    · exact ⟨w, h2, fun e2 => h3 (e.trans e2.symm)⟩
    · exact ⟨u, h1, e⟩
  apply Nat.le_antisymm
  · refine cnP_rel (R := fun s u => ∀ w, s.testBit w = true → w ≠ v → RC (av J v) (fun x => x = u) w) (fun s _ hp => ?_) (fun s s' u _ _ hp hp' hr hr' => ?_)
    · obtain ⟨hm, hsv⟩ := hp
      obtain ⟨w, h1, h2⟩ := oth hm hsv
      obtain ⟨u, q1, q2, q3⟩ := lst (p := fun u => RC (av J v) (fun x => x = w) u) (a := w) (RC_in rfl)
      have hwn := bnd hm.1 h1
      have vw : RC J (fun x => x = v) w := RC_mono (fun i j q => q.1) (fun _ q => q) (hm.2.1.2.1 v w hsv h1)
      refine ⟨u, by omega, ⟨⟨RC_tr vw (RC_mono (fun i j q => q.1) (fun _ q => q) q2), ne h2 q2⟩, fun z hz h9 => q3 z hz (RC_tr q2 h9)⟩, fun z hz hzv => ?_⟩
      exact RC_tr (RC_sym (av_sym hs) q2) (one hm h1 hz h2 hzv)
    · obtain ⟨hm, hsv⟩ := hp
      obtain ⟨hm', hsv'⟩ := hp'
      obtain ⟨w, h1, h2⟩ := oth hm hsv
      obtain ⟨w', h1', h2'⟩ := oth hm' hsv'
      have ww : RC (av J v) (fun x => x = w) w' := RC_tr (RC_sym (av_sym hs) (hr w h1 h2)) (hr' w' h1' h2')
      have hwn := bnd hm.1 h1
      have ww2 : RC (wi J (fun i => i < n ∧ i ≠ v)) (fun x => x = w) w' := RC_mono (fun i j q => ⟨q.1, ⟨(hn i j q.1).1, q.2.1⟩, ⟨(hn i j q.1).2, q.2.2⟩⟩) (fun _ q => q) ww
      obtain ⟨Q, c1, c2, c3, c4, c5⟩ := way_min hs (n := n) (fun i q => q.1) ⟨hwn, h2⟩ ww2
      have so := so_un hs hm.2.1 hm'.2.1 hsv hsv' h1 h1' h2 h2' c2 c3 (fun q => (c1 v q).2 rfl) c5 c4
      obtain ⟨t, d1, d2⟩ := cmpr (fun i => s.testBit i = true ∨ s'.testBit i = true ∨ Q i) n
      have dd : ∀ i, t.testBit i = true ↔ (s.testBit i = true ∨ s'.testBit i = true ∨ Q i) := fun i => ⟨fun q => ((d2 i).mp q).2, fun q => (d2 i).mpr ⟨q.elim (fun g => bnd hm.1 g) (fun g => g.elim (fun g => bnd hm'.1 g) (fun g => (c1 i g).1)), q⟩⟩
      have eq : (fun i => t.testBit i = true) = (fun i => s.testBit i = true ∨ s'.testBit i = true ∨ Q i) := funext (fun i => propext (dd i))
      have so2 : soP J (fun i => t.testBit i = true) := by rw [eq]; exact so
      have e1 := hm.2.2 t d1 so2 (fun i q => (dd i).mpr (Or.inl q))
      have e2 := hm'.2.2 t d1 so2 (fun i q => (dd i).mpr (Or.inr (Or.inl q)))
      exact e1.symm.trans e2
  · refine cnP_rel (R := fun u s => (mxS J n s ∧ s.testBit v = true) ∧ ∀ w, s.testBit w = true → w ≠ v → RC (av J v) (fun x => x = u) w) (fun u hu hp => ?_) (fun u u' s hu hu' hp hp' hr hr' => ?_)
    · obtain ⟨⟨h1, h2⟩, h3⟩ := hp
      -- a neighbour of v in its piece
      have hx : ∃ x, J v x ∧ RC (av J v) (fun z => z = x) u := by
        have g := h1 (fun z => z = v ∨ ∃ x, J v x ∧ RC (av J v) (fun z => z = x) z) (fun i e => Or.inl e) (fun i j hi' hr => by
          by_cases ej : j = v
          · exact Or.inl ej
          · right
            by_cases ei : i = v
            · subst ei; exact ⟨j, hr, RC_in rfl⟩
            · rcases hi' with e | ⟨x, x1, x2⟩
              · exact absurd e ei
              · exact ⟨x, x1, RC_st x2 ⟨hr, ei, ej⟩⟩)
        rcases g with e | g
        · exact absurd e h2
        · exact g
      obtain ⟨x, x1, x2⟩ := hx
      have nxv : x ≠ v := fun e => hi v (by rw [e] at x1; exact x1)
      have hxn : x < n := (hn v x x1).2
      obtain ⟨s0, d1, d2⟩ := cmpr (fun i => i = v ∨ i = x) n
      have dd : ∀ i, s0.testBit i = true ↔ (i = v ∨ i = x) := fun i => ⟨fun q => ((d2 i).mp q).2, fun q => (d2 i).mpr ⟨q.elim (fun e => by omega) (fun e => by omega), q⟩⟩
      have so : soP J (fun i => s0.testBit i = true) := by
        refine ⟨⟨x, v, (dd x).mpr (Or.inr rfl), (dd v).mpr (Or.inl rfl), nxv⟩, ?_, fun z hz => ?_⟩
        · refine cn_hub hs (h := v) (fun y hy => ?_)
          rcases (dd y).mp hy with e | e
          · rw [e]; exact RC_in rfl
          · rw [e]; exact RC_st (RC_in rfl) ⟨x1, (dd v).mpr (Or.inl rfl), (dd x).mpr (Or.inr rfl)⟩
        · intro p q hp hq
          have e : q = p := by
            rcases (dd z).mp hz with ez | ez <;> rcases (dd p).mp hp.1 with ep | ep <;> rcases (dd q).mp hq.1 with eq | eq
            all_goals first | (exact absurd (ep.trans ez.symm) hp.2) | (exact absurd (eq.trans ez.symm) hq.2) | exact eq.trans ep.symm
          exact RC_in e
      obtain ⟨t, t1, t2⟩ := mx_ex (2 ^ n) s0 (by omega) d1 so
      have tv : t.testBit v = true := t2 v ((dd v).mpr (Or.inl rfl))
      have tx : t.testBit x = true := t2 x ((dd x).mpr (Or.inr rfl))
      exact ⟨t, t1.1, ⟨t1, tv⟩, ⟨t1, tv⟩, fun w hw hwv => RC_tr (RC_sym (av_sym hs) x2) (one t1 tx hw nxv hwv)⟩
    · -- two first nodes of one piece
      apply Classical.byContradiction
      intro hne
      obtain ⟨w, w1, w2⟩ := oth hr.1.1 hr.1.2
      have g := RC_tr (hr.2 w w1 w2) (RC_sym (av_sym hs) (hr'.2 w w1 w2))
      rcases Nat.lt_trichotomy u u' with e | e | e
      · exact hp'.2 u e (RC_sym (av_sym hs) g)
      · exact hne e
      · exact hp.2 u' e g
/-- ends of arcs at v within a set -/
def enC (F T : Nat → Int) (s : Int) (v : Nat) : Nat → Nat
  | 0 => 0
  | k + 1 => enC F T s v k + (if F k ≠ T k ∧ s.toNat.testBit (F k).toNat = true ∧ s.toNat.testBit (T k).toNat = true then (if F k = (v : Int) then 1 else 0) + (if T k = (v : Int) then 1 else 0) else 0)
theorem enC_s (F T : Nat → Int) (s : Int) (v k : Nat) : enC F T s v (k + 1) = enC F T s v k + (if F k ≠ T k ∧ s.toNat.testBit (F k).toNat = true ∧ s.toNat.testBit (T k).toNat = true then (if F k = (v : Int) then 1 else 0) + (if T k = (v : Int) then 1 else 0) else 0) := rfl
theorem enC_mono {F T : Nat → Int} {s s' : Int} (h : ∀ i, Me s i → Me s' i) (v : Nat) : ∀ k, enC F T s v k ≤ enC F T s' v k := by
  intro k
  induction k with
  | zero => exact Nat.le_refl _
  | succ k ih =>
    rw [enC_s, enC_s]
    by_cases hc : F k ≠ T k ∧ s.toNat.testBit (F k).toNat = true ∧ s.toNat.testBit (T k).toNat = true
    · have hc' : F k ≠ T k ∧ s'.toNat.testBit (F k).toNat = true ∧ s'.toNat.testBit (T k).toNat = true := ⟨hc.1, h _ hc.2.1, h _ hc.2.2⟩
      rw [if_pos hc, if_pos hc']; omega
    · rw [if_neg hc]; omega
theorem enC_le {F T : Nat → Int} {s : Int} (v : Nat) : ∀ k, enC F T s v k ≤ 2 * k := by
  intro k
  induction k with
  | zero => exact Nat.le_refl _
  | succ k ih =>
    rw [enC_s]
    (repeat' split) <;> omega
/-- the core of a node -/
def coP (m : Nat) (F T : Nat → Int) (n v : Nat) (c : Int) : Prop := (∃ s : Int, 0 ≤ s ∧ s.toNat < 2 ^ n ∧ Me s v ∧ ∀ u, Me s u → c ≤ (enC F T s u m : Int)) ∧ ∀ s : Int, 0 ≤ s → s.toNat < 2 ^ n → Me s v → ∃ u, Me s u ∧ (enC F T s u m : Int) ≤ c
theorem co_uniq {m : Nat} {F T : Nat → Int} {n v : Nat} {c c' : Int} (h : coP m F T n v c) (h' : coP m F T n v c') : c = c' := by
  have le : ∀ {a b : Int}, coP m F T n v a → coP m F T n v b → a ≤ b := by
    intro a b ha hb
    obtain ⟨s, q1, q2, q3, q4⟩ := ha.1
    obtain ⟨u, r1, r2⟩ := hb.2 s q1 q2 q3
    have := q4 u r1
    omega
  have := le h h'
  have := le h' h
  omega
/-- in the midst of peeling -/
def pkP (m : Nat) (F T : Nat → Int) (n : Nat) (left core : Int) : Prop := (∃ s : Int, 0 ≤ s ∧ s.toNat < 2 ^ n ∧ (∀ i, Me left i → Me s i) ∧ ∀ u, Me s u → core ≤ (enC F T s u m : Int)) ∧ ∀ s : Int, 0 ≤ s → s.toNat < 2 ^ n → (∃ u, Me s u ∧ ¬ Me left u) → ∃ u, Me s u ∧ (enC F T s u m : Int) ≤ core
theorem pk_0 {m : Nat} {F T : Nat → Int} {n : Nat} {all : Int} (h0 : 0 ≤ all) (h1 : all.toNat < 2 ^ n) (h2 : ∀ i, i < n → Me all i) : pkP m F T n all 0 := by
  refine ⟨⟨all, h0, h1, fun _ h => h, fun u _ => by omega⟩, fun s q1 q2 ⟨u, q3, q4⟩ => ?_⟩
  exfalso
  apply q4
  apply h2
  rcases Nat.lt_or_ge u n with h3 | h3
  · exact h3
  · have h4 : s.toNat.testBit u = true := q3
    rw [Nat.testBit_lt_two_pow (Nat.lt_of_lt_of_le q2 (Nat.pow_le_pow_right (by omega) h3))] at h4
    cases h4
theorem pk_st {m : Nat} {F T : Nat → Int} {n v : Nat} {left core core' left' : Int} (h : pkP m F T n left core) (h0 : 0 ≤ left) (h1 : left.toNat < 2 ^ n) (hv : Me left v) (hmin : ∀ u, Me left u → enC F T left v m ≤ enC F T left u m) (hc : core' = max core (enC F T left v m : Int)) (hl : ∀ i, Me left' i ↔ Me left i ∧ i ≠ v) : coP m F T n v core' ∧ pkP m F T n left' core' := by
  obtain ⟨⟨s, a1, a2, a3, a4⟩, a5⟩ := h
  have big : ∃ s : Int, 0 ≤ s ∧ s.toNat < 2 ^ n ∧ (∀ i, Me left i → Me s i) ∧ ∀ u, Me s u → core' ≤ (enC F T s u m : Int) := by
    by_cases hq : core ≤ (enC F T left v m : Int)
    · refine ⟨left, h0, h1, fun _ q => q, fun u hu => ?_⟩
      have := hmin u hu
      omega
    · exact ⟨s, a1, a2, a3, fun u hu => by have := a4 u hu; omega⟩
  have low : ∀ s : Int, 0 ≤ s → s.toNat < 2 ^ n → (∃ u, Me s u ∧ ¬ Me left' u) → ∃ u, Me s u ∧ (enC F T s u m : Int) ≤ core' := by
    intro s q1 q2 q3
    by_cases q4 : ∃ u, Me s u ∧ ¬ Me left u
    · obtain ⟨u, r1, r2⟩ := a5 s q1 q2 q4
      exact ⟨u, r1, by omega⟩
    · obtain ⟨u, r1, r2⟩ := q3
      have sub : ∀ i, Me s i → Me left i := fun i hi => Classical.byContradiction (fun h9 => q4 ⟨i, hi, h9⟩)
      have e : u = v := Classical.byContradiction (fun h9 => r2 ((hl u).mpr ⟨sub u r1, h9⟩))
      subst e
      have := enC_mono (F := F) (T := T) sub u m
      exact ⟨u, r1, by omega⟩
  refine ⟨⟨?_, fun s q1 q2 q3 => low s q1 q2 ⟨v, q3, fun h9 => ((hl v).mp h9).2 rfl⟩⟩, ⟨?_, low⟩⟩
  · obtain ⟨s, b1, b2, b3, b4⟩ := big
    exact ⟨s, b1, b2, b3 v hv, b4⟩
  · obtain ⟨s, b1, b2, b3, b4⟩ := big
    exact ⟨s, b1, b2, fun i hi => b3 i ((hl i).mp hi).1, b4⟩
theorem Me_low {x z : Int} (hz : iv x &&& iv (-x) = iv z) (h0 : 0 ≤ x ∧ x ≤ 65535) (h1 : 0 ≤ z ∧ z ≤ x) : (x = 0 → z = 0) ∧ (0 < x → ∃ i : Nat, z = ((2 ^ i : Nat) : Int) ∧ Me x i ∧ ∀ j, j < i → ¬ Me x j) := by
  refine ⟨fun h => by omega, fun hx => ?_⟩
  obtain ⟨a, rfl⟩ := Int.eq_ofNat_of_zero_le h0.1
  obtain ⟨c, rfl⟩ := Int.eq_ofNat_of_zero_le h1.1
  rw [iv_negN (by omega) (by omega), iv_and (by omega) (by omega)] at hz
  have h3 : a &&& (2 ^ 32 - a) ≤ a := Nat.and_le_left
  have e := iv_inj hz (by omega) (by omega)
  have e2 : a &&& (2 ^ 32 - a) = c := by omega
  obtain ⟨i, k, ea⟩ := odd_part a (by omega)
  have hi : i < 16 := by
    rcases Nat.lt_or_ge i 16 with h | h
    · exact h
    · have h5 : 2 ^ 16 ≤ 2 ^ i := Nat.pow_le_pow_right (by omega) h
      have h6 : 2 ^ i * 1 ≤ 2 ^ i * (2 * k + 1) := Nat.mul_le_mul_left _ (by omega)
      omega
  have tb : ∀ j, a.testBit j = (decide (i ≤ j) && (2 * k + 1).testBit (j - i)) := fun j => by rw [ea, Nat.testBit_two_pow_mul]
  have t1 : a.testBit i = true := by rw [ea, tb_mul]; exact decide_eq_true (by omega)
  have lo : ∀ j, j < i → ¬ a.testBit j = true := fun j hj h9 => by
    rw [tb j] at h9
    have h8 : decide (i ≤ j) = false := decide_eq_false (by omega)
    rw [h8] at h9; simp at h9
  refine ⟨i, ?_, t1, lo⟩
  have ha : a - 1 + 1 = a := by omega
  have e4 : a = 2 ^ i * (2 * k) + 2 ^ i := by rw [ea, Nat.mul_add, Nat.mul_one]
  have e3 : c = 2 ^ i := by
    apply Nat.eq_of_testBit_eq
    intro j
    have hp : a - 1 < 2 ^ 32 := by omega
    have q := Nat.testBit_two_pow_sub_succ (x := a - 1) (n := 32) hp j
    rw [ha] at q
    rw [← e2, Nat.testBit_and, q, Nat.testBit_two_pow]
    -- a - 1 has the bits of a above i
    rcases Nat.lt_trichotomy j i with h | h | h
    · have h8 : a.testBit j = false := by
        cases h9 : a.testBit j
        · rfl
        · exact absurd h9 (lo j h)
      rw [h8]
      have : decide (i = j) = false := decide_eq_false (by omega)
      rw [this]; rfl
    · subst h
      rw [t1]
      have h7 : (a - 1).testBit j = false := by
        have e5 : a - 1 = 2 ^ j * (2 * k) + (2 ^ j - 1) := by
          have : 1 ≤ 2 ^ j := Nat.one_le_two_pow
          omega
        rw [e5, Nat.testBit_two_pow_mul_add _ (by have : 1 ≤ 2 ^ j := Nat.one_le_two_pow
                                                  omega)]
        rw [if_neg (by omega), Nat.sub_self, Nat.testBit_zero]
        exact decide_eq_false (by omega)
      rw [h7]; simp; omega
    · have e5 : a - 1 = 2 ^ i * (2 * k) + (2 ^ i - 1) := by
        have : 1 ≤ 2 ^ i := Nat.one_le_two_pow
        omega
      have h7 : (a - 1).testBit j = a.testBit j := by
        rw [e5, Nat.testBit_two_pow_mul_add _ (by have : 1 ≤ 2 ^ i := Nat.one_le_two_pow
                                                  omega)]
        rw [if_neg (by omega), tb j]
        have h6 : decide (i ≤ j) = true := decide_eq_true (by omega)
        rw [h6, Bool.true_and]
        obtain ⟨r, hr⟩ : ∃ r, j - i = r + 1 := ⟨j - i - 1, by omega⟩
        rw [hr, Nat.testBit_succ, Nat.testBit_succ]
        congr 1; omega
      rw [h7]
      have h5 : decide (i = j) = false := decide_eq_false (by omega)
      rw [h5]
      cases a.testBit j <;> simp
  rw [e3]
theorem Me_all {n : Nat} (i : Nat) : Me (((2 ^ n : Nat) : Int) - 1) i ↔ i < n := by
  have hp : 1 ≤ 2 ^ n := Nat.one_le_two_pow
  have e : (((2 ^ n : Nat) : Int) - 1).toNat = 2 ^ n - 1 := by omega
  unfold Me
  rw [e, Nat.testBit_two_pow_sub_one]
  constructor
  · intro h; exact of_decide_eq_true h
  · intro h; exact decide_eq_true h
/-- a row from a place on -/
def sh (f : Nat → Int) (b : Int) (k : Nat) : Int := f (b + (k : Int)).toNat
def sj (f : Nat → Int64) (b : Int) (k : Nat) : Int64 := f (b + (k : Int)).toNat
theorem sh_at (f : Nat → Int) (b : Int) {v : Int} (h : 0 ≤ v) : f (b + v).toNat = sh f b v.toNat := by
  show f (b + v).toNat = f (b + ((v.toNat : Nat) : Int)).toNat
  rw [Int.toNat_of_nonneg h]
theorem sj_at (f : Nat → Int64) (b : Int) {v : Int} (h : 0 ≤ v) : f (b + v).toNat = sj f b v.toNat := by
  show f (b + v).toNat = f (b + ((v.toNat : Nat) : Int)).toNat
  rw [Int.toNat_of_nonneg h]
theorem tn1 {k : Int} (h : 0 ≤ k) : (k + 1).toNat = k.toNat + 1 := by omega
abbrev A4 : Type := Int × Int × Int × Int
/-- rows that hold a list of arcs -/
def PL (l : List A4) (c : Int) (f t w o : Nat → Int) : Prop := c = (l.length : Int) ∧ ∀ (k : Nat) (e : A4), l[k]? = some e → f k = e.1 ∧ t k = e.2.1 ∧ w k = e.2.2.1 ∧ o k = e.2.2.2
theorem PL_0 (f t w o : Nat → Int) : PL [] 0 f t w o := ⟨rfl, fun k e h => by simp at h⟩
theorem PL_put {l : List A4} {c : Int} {f t w o : Nat → Int} {a b x z : Int} (h : PL l c f t w o) : PL (l ++ [(a, b, x, z)]) (c + 1) (fup f c.toNat a) (fup t c.toNat b) (fup w c.toNat x) (fup o c.toNat z) := by
  obtain ⟨h1, h2⟩ := h
  have hc : c.toNat = l.length := by omega
  refine ⟨by rw [List.length_append, h1]; rfl, fun k e he => ?_⟩
  rcases Nat.lt_trichotomy k l.length with hk | hk | hk
  · rw [List.getElem?_append_left hk] at he
    rw [fup_o _ _ (by omega), fup_o _ _ (by omega), fup_o _ _ (by omega), fup_o _ _ (by omega)]
    exact h2 k e he
  · rw [List.getElem?_append_right (by omega), hk, Nat.sub_self] at he
    obtain rfl := Option.some.inj he
    rw [hk, ← hc, fup_s, fup_s, fup_s, fup_s]
    exact ⟨rfl, rfl, rfl, rfl⟩
  · rw [List.getElem?_eq_none (by rw [List.length_append]; show l.length + 1 ≤ k; omega)] at he
    cases he
/-- lists put one behind the other -/
def acc (h : Nat → List A4) : Nat → List A4
  | 0 => []
  | k + 1 => acc h k ++ h k
theorem acc_up {h : Nat → List A4} {v : Int} (h0 : 0 ≤ v) : acc h (v + 1).toNat = acc h v.toNat ++ h v.toNat := by rw [tn1 h0]; rfl
theorem acc_nil {h : Nat → List A4} : ∀ {k : Nat}, (∀ i, i < k → h i = []) → acc h k = [] := by
  intro k
  induction k with
  | zero => intro _; rfl
  | succ k ih =>
    intro hi
    show acc h k ++ h k = []
    rw [ih (fun i q => hi i (by omega)), hi k (by omega)]; rfl
theorem acc_eq {h h' : Nat → List A4} : ∀ {k : Nat}, (∀ i, i < k → h i = h' i) → acc h k = acc h' k := by
  intro k
  induction k with
  | zero => intro _; rfl
  | succ k ih =>
    intro hi
    show acc h k ++ h k = acc h' k ++ h' k
    rw [ih (fun i q => hi i (by omega)), hi k (by omega)]
theorem acc_len {h : Nat → List A4} {c : Nat} : ∀ {k : Nat}, (∀ i, i < k → (h i).length ≤ c) → (acc h k).length ≤ c * k := by
  intro k
  induction k with
  | zero => intro _; exact Nat.le_refl _
  | succ k ih =>
    intro hi
    show (acc h k ++ h k).length ≤ _
    rw [List.length_append, Nat.mul_succ]
    have := ih (fun i q => hi i (by omega))
    have := hi k (by omega)
    omega
theorem acc_mono {h : Nat → List A4} {j k : Nat} (hj : j ≤ k) : (acc h j).length ≤ (acc h k).length := by
  induction k with
  | zero => rw [show j = 0 by omega]; exact Nat.le_refl _
  | succ k ih =>
    by_cases e : j = k + 1
    · rw [e]; exact Nat.le_refl _
    · have := ih (by omega)
      show _ ≤ (acc h k ++ h k).length
      rw [List.length_append]; omega
/-- one, if it is so -/
noncomputable def sel (p : Prop) (e : A4) : List A4 := @ite _ p (Classical.propDecidable p) [e] []
theorem sel_y {p : Prop} {e : A4} (h : p) : sel p e = [e] := by unfold sel; rw [if_pos h]
theorem sel_n {p : Prop} {e : A4} (h : ¬ p) : sel p e = [] := by unfold sel; rw [if_neg h]
theorem sel_le (p : Prop) (e : A4) : (sel p e).length ≤ 1 := by
  by_cases h : p
  · rw [sel_y h]; exact Nat.le_refl _
  · rw [sel_n h]; exact Nat.zero_le _
theorem PL_y {h : Nat → List A4} {l : List A4} {v c : Int} {f t w o : Nat → Int} {a b x z : Int} (hp : PL (l ++ acc h v.toNat) c f t w o) (h0 : 0 ≤ v) (hh : h v.toNat = [(a, b, x, z)]) : PL (l ++ acc h (v + 1).toNat) (c + 1) (fup f c.toNat a) (fup t c.toNat b) (fup w c.toNat x) (fup o c.toNat z) := by
  rw [acc_up h0, hh, ← List.append_assoc]; exact PL_put hp
theorem PL_n {h : Nat → List A4} {l : List A4} {v c : Int} {f t w o : Nat → Int} (hp : PL (l ++ acc h v.toNat) c f t w o) (h0 : 0 ≤ v) (hh : h v.toNat = []) : PL (l ++ acc h (v + 1).toNat) c f t w o := by
  rw [acc_up h0, hh, List.append_nil]; exact hp
/-- a row is done: its list goes to those before -/
theorem PL_row {h : Nat → List A4} {l : List A4} {v k c : Int} {f t w o : Nat → Int} {g : Nat → List A4} (hp : PL (acc g v.toNat ++ acc h k.toNat) c f t w o) (h0 : 0 ≤ v) (hh : g v.toNat = acc h k.toNat) : PL ([] ++ acc g (v + 1).toNat) c f t w o := by
  rw [List.nil_append, acc_up h0, hh]; exact hp
/-- arcs with the same ends -/
def seP (d : Int) (F T : Nat → Int) (i j : Nat) : Prop := (F i = F j ∧ T i = T j) ∨ (d = 0 ∧ F i = T j ∧ T i = F j)
/-- no arc with the same ends comes before this one -/
def lgP (m : Nat) (d : Int) (F T W : Nat → Int) (i : Nat) : Prop := ∀ j, j < m → ¬ ((W j < W i ∨ (W j = W i ∧ j < i)) ∧ seP d F T i j)
/-- which arcs a view keeps -/
def kpP (m : Nat) (d : Int) (F T W : Nat → Int) (kind x : Int) (i : Nat) : Prop := (kind = 2 ∨ kind = 3 → F i ≠ T i) ∧ (kind = 3 → lgP m d F T W i) ∧ (kind = 4 → Me x (F i).toNat ∧ Me x (T i).toNat) ∧ (kind = 5 → x ≤ W i)
def kpE (F T W C : Nat → Int) (kind x : Int) (i : Nat) : A4 := (if kind = 0 then T i else if kind = 4 then bcI x (F i).toNat else F i, if kind = 0 then F i else if kind = 4 then bcI x (T i).toNat else T i, W i, C i)
noncomputable def kpL (m : Nat) (d : Int) (F T W C : Nat → Int) (kind x : Int) (i : Nat) : List A4 := sel (kpP m d F T W kind x i) (kpE F T W C kind x i)
/-- arc k leads from a to b -/
def goP (d : Int) (F T : Nat → Int) (k : Nat) (a b : Int) : Prop := (F k = a ∧ T k = b) ∨ (d = 0 ∧ T k = a ∧ F k = b)
/-- the least sum of two arcs, one behind the other -/
def sqP (m : Nat) (d : Int) (F T W : Nat → Int) (a b w : Int) : Prop := (∃ e f c, e < m ∧ f < m ∧ goP d F T e a c ∧ goP d F T f c b ∧ w = W e + W f) ∧ ∀ e f c, e < m → f < m → goP d F T e a c → goP d F T f c b → w ≤ W e + W f
theorem sq_uniq {m : Nat} {d : Int} {F T W : Nat → Int} {a b w w' : Int} (h : sqP m d F T W a b w) (h' : sqP m d F T W a b w') : w = w' := by
  obtain ⟨⟨e, f, c, q1, q2, q3, q4, q5⟩, q6⟩ := h
  obtain ⟨⟨e', f', c', r1, r2, r3, r4, r5⟩, r6⟩ := h'
  have := q6 e' f' c' r1 r2 r3 r4
  have := r6 e f c q1 q2 q3 q4
  omega
def clW (w : Int) : Int := if w < -1000 then -1000 else if 1000 < w then 1000 else w
noncomputable def sqE (m : Nat) (d : Int) (F T W : Nat → Int) (a b : Int) : List A4 := @dite _ (∃ w, sqP m d F T W a b w) (Classical.propDecidable _) (fun h => [(a, b, clW (Classical.choose h), 0)]) (fun _ => [])
theorem sqE_y {m : Nat} {d : Int} {F T W : Nat → Int} {a b w : Int} (h : sqP m d F T W a b w) : sqE m d F T W a b = [(a, b, clW w, 0)] := by
  unfold sqE
  have h1 : ∃ w, sqP m d F T W a b w := ⟨w, h⟩
  rw [dif_pos h1, sq_uniq (Classical.choose_spec h1) h]
theorem sqE_n {m : Nat} {d : Int} {F T W : Nat → Int} {a b : Int} (h : ∀ w, ¬ sqP m d F T W a b w) : sqE m d F T W a b = [] := by
  unfold sqE
  rw [dif_neg (fun ⟨w, h1⟩ => h w h1)]
noncomputable def sqR (m : Nat) (d : Int) (F T W : Nat → Int) (a : Nat) (b : Nat) : List A4 := if d = 0 ∧ b < a then [] else sqE m d F T W (a : Int) (b : Int)
noncomputable def sqL (n m : Nat) (d : Int) (F T W : Nat → Int) (a : Nat) : List A4 := acc (sqR m d F T W a) n
/-- two arcs meet -/
def mtP (d : Int) (F T : Nat → Int) (i j : Nat) : Prop := (d ≠ 0 → T i = F j) ∧ (d = 0 → i < j ∧ (F i = F j ∨ F i = T j ∨ T i = F j ∨ T i = T j))
noncomputable def lnR (d : Int) (F T : Nat → Int) (i : Nat) (j : Nat) : List A4 := sel (mtP d F T i j) ((i : Int), (j : Int), 0, 0)
noncomputable def lnL (m : Nat) (d : Int) (F T : Nat → Int) (i : Nat) : List A4 := acc (lnR d F T i) m
noncomputable def vwL (n m : Nat) (d : Int) (F T W C : Nat → Int) (kind x : Int) : List A4 := if kind = 6 then acc (sqL n m d F T W) n else if kind = 7 then acc (lnL m d F T) m else acc (kpL m d F T W C kind x) m
/-- joined and melted -/
def cpE (F T W C : Nat → Int) (s : Int) (k : Nat) : List A4 := [(F k + s, T k + s, W k, C k)]
noncomputable def mlE (F T W C : Nat → Int) (q : Nat → Int) (k : Nat) : List A4 := sel (q (F k).toNat ≠ q (T k).toNat) (q (F k).toNat, q (T k).toNat, W k, C k)
/-- degrees -/
def dgS (kind d a b w : Int) (c : Nat → Int64) : Nat → Int64 := if kind = 2 then (if d = 0 ∧ a ≠ b then fuj (fuj c a.toNat (c a.toNat + (iv w).toInt64)) b.toNat (fuj c a.toNat (c a.toNat + (iv w).toInt64) b.toNat + (iv w).toInt64) else fuj c a.toNat (c a.toNat + (iv w).toInt64)) else if d ≠ 0 then (if kind = 0 then fuj c a.toNat (c a.toNat + 1) else fuj c b.toNat (c b.toNat + 1)) else fuj (fuj c a.toNat (c a.toNat + 1)) b.toNat (fuj c a.toNat (c a.toNat + 1) b.toNat + 1)
def dgF (kind d : Int) (F T W : Nat → Int) (c0 : Nat → Int64) : Nat → Nat → Int64
  | 0 => c0
  | k + 1 => dgS kind d (F k) (T k) (W k) (dgF kind d F T W c0 k)
theorem dg_up {kind d : Int} {F T W : Nat → Int} {c0 c c' : Nat → Int64} {k : Int} (h : c = dgF kind d F T W c0 k.toNat) (h0 : 0 ≤ k) (hc : c' = dgS kind d (F k.toNat) (T k.toNat) (W k.toNat) c) : c' = dgF kind d F T W c0 (k + 1).toNat := by
  rw [tn1 h0]
  show c' = dgS kind d (F k.toNat) (T k.toNat) (W k.toNat) (dgF kind d F T W c0 k.toNat)
  rw [← h]; exact hc
/-- walks: a sum over the arcs that lead on -/
def wkA (d : Int) (F T : Nat → Int) (c : Nat → Int64) (v : Nat) : Nat → Int64
  | 0 => 0
  | k + 1 => wkA d F T c v k + (if F k = (v : Int) then c (T k).toNat else if d = 0 ∧ T k = (v : Int) then c (F k).toNat else 0)
def wkC (m : Nat) (d : Int) (F T : Nat → Int) : Nat → Nat → Int64
  | 0 => fun _ => 1
  | r + 1 => fun v => wkA d F T (wkC m d F T r) v m
/-- messages and how they are joined -/
def mgV (kind : Int) (x w : Int64) : Int64 := if kind = 0 then x else if kind = 1 then x + w else if kind = 2 then x * w else if kind = 3 then (if x.toInt < w.toInt then x else w) else x ^^^ w
def jnV (j : Int) (a b : Int64) : Int64 := if j = 0 then (if a.toInt < b.toInt then a else b) else if j = 1 then (if b.toInt < a.toInt then a else b) else if j = 2 then a + b else a ^^^ b
def hdA (d : Int) (F T W : Nat → Int) (kind j : Int) (c : Nat → Int64) (v : Nat) : Nat → Option Int64
  | 0 => none
  | k + 1 =>
    if T k = (v : Int) then some (match hdA d F T W kind j c v k with | none => mgV kind (c (F k).toNat) (iv (W k)).toInt64 | some a => jnV j a (mgV kind (c (F k).toNat) (iv (W k)).toInt64))
    else if d = 0 ∧ F k = (v : Int) then some (match hdA d F T W kind j c v k with | none => mgV kind (c (T k).toNat) (iv (W k)).toInt64 | some a => jnV j a (mgV kind (c (T k).toNat) (iv (W k)).toInt64))
    else hdA d F T W kind j c v k
def hdV (m : Nat) (d : Int) (F T W : Nat → Int) (kind j own : Int) (c : Nat → Int64) (v : Nat) : Int64 := match hdA d F T W kind j c v m with | none => c v | some a => if own = 0 then a else jnV j a (c v)
def rnC (m : Nat) (d : Int) (F T W : Nat → Int) (kind j own : Int) (c0 : Nat → Int64) : Nat → Nat → Int64
  | 0 => c0
  | r + 1 => fun v => hdV m d F T W kind j own (rnC m d F T W kind j own c0 r) v
def mxV (kind : Int) (x y : Int64) : Int64 := if kind = 0 then x + y else if kind = 1 then x - y else if kind = 2 then x * y else if kind = 3 then (if x.toInt < y.toInt then x else y) else if kind = 4 then (if y.toInt < x.toInt then x else y) else if kind = 5 then x ^^^ y else if x.toInt < y.toInt then 1 else 0
def ftV (v : Int64) (node : Int) (o : Int64) (k : Nat) : Int64 := if (k : Int) = node then o else v
/-- as far as one gets with r arcs -/
def blP (R : Nat → Nat → Prop) (v : Nat) : Nat → Nat → Prop
  | 0 => fun j => j = v
  | r + 1 => fun j => blP R v r j ∨ ∃ i, blP R v r i ∧ R i j
/-- the least number of arcs with which one gets as far as one gets -/
def frP (R : Nat → Nat → Prop) (v r : Nat) : Prop := (∀ j, blP R v (r + 1) j → blP R v r j) ∧ ∀ q, q < r → ∃ j, blP R v (q + 1) j ∧ ¬ blP R v q j
theorem fr_uniq {R : Nat → Nat → Prop} {v r r' : Nat} (h : frP R v r) (h' : frP R v r') : r = r' := by
  rcases Nat.lt_trichotomy r r' with q | q | q
  · obtain ⟨j, h1, h2⟩ := h'.2 r q
    exact absurd (h.1 j h1) h2
  · exact q
  · obtain ⟨j, h1, h2⟩ := h.2 r' q
    exact absurd (h'.1 j h1) h2
/-- a step of a graph -/
def stP (m : Nat) (d : Int) (F T : Nat → Int) (i j : Nat) : Prop := ∃ k, k < m ∧ goP d F T k (i : Int) (j : Int)
