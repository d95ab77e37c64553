/-- ways: which arcs may be gone, what they cost, from where an arc comes to v -/
def okA (kind bd : Int) (W : Nat → Int) (e : Nat) : Prop := kind ≠ 2 ∨ bd ≤ W e
def prA (kind : Int) (W : Nat → Int) (e : Nat) : Int := if kind = 0 then W e else 0
def itV (d : Int) (F T : Nat → Int) (e : Nat) (v : Int) : Int := if T e = v then F e else if d = 0 ∧ F e = v then T e else -1
theorem itV_inV {fr tt dr : Nat → Int} {g k v u : Int} (hu : u = inV fr tt dr g k v) (hk : 0 ≤ k) : u = itV (dr g.toNat) (sh fr (60 * g)) (sh tt (60 * g)) k.toNat v := by
  rw [hu]
  unfold inV itV
  rw [← sh_at fr (60 * g) (v := k) hk, ← sh_at tt (60 * g) (v := k) hk]
theorem itV_go {d : Int} {F T : Nat → Int} {e : Nat} {v : Int} (h : 0 ≤ itV d F T e v) : goP d F T e (itV d F T e v) v := by
  unfold itV at h ⊢
  by_cases h1 : T e = v
  · rw [if_pos h1]; exact Or.inl ⟨rfl, h1⟩
  · rw [if_neg h1] at h ⊢
    by_cases h2 : d = 0 ∧ F e = v
    · rw [if_pos h2]; exact Or.inr ⟨h2.1, rfl, h2.2⟩
    · rw [if_neg h2] at h; omega
theorem go_itV {d : Int} {F T : Nat → Int} {e : Nat} {u v : Int} (h : goP d F T e u v) : itV d F T e v = u := by
  unfold itV
  rcases h with ⟨h1, h2⟩ | ⟨h0, h1, h2⟩
  · rw [if_pos h2]; exact h1
  · by_cases h3 : T e = v
    · rw [if_pos h3]; omega
    · rw [if_neg h3, if_pos ⟨h0, h2⟩]; exact h1
/-- an arc that leads to v from a node that has been reached; the worth of that way -/
def usA (d : Int) (F T W : Nat → Int) (kind bd : Int) (B : Nat → Int) (v : Int) (e : Nat) : Prop := 0 ≤ itV d F T e v ∧ okA kind bd W e ∧ B (itV d F T e v).toNat < 1000000000000
def vaA (d : Int) (F T W : Nat → Int) (kind : Int) (B : Nat → Int) (v : Int) (e : Nat) : Int := B (itV d F T e v).toNat + prA kind W e
noncomputable def mnS (d : Int) (F T W : Nat → Int) (kind bd : Int) (B : Nat → Int) (v : Int) : Nat → Int
  | 0 => 1000000000000
  | e + 1 => @ite _ (usA d F T W kind bd B v e ∧ vaA d F T W kind B v e < mnS d F T W kind bd B v e) (Classical.propDecidable _) (vaA d F T W kind B v e) (mnS d F T W kind bd B v e)
theorem mnS_y {d : Int} {F T W : Nat → Int} {kind bd : Int} {B : Nat → Int} {v : Int} {e : Nat} (h : usA d F T W kind bd B v e) (h1 : vaA d F T W kind B v e < mnS d F T W kind bd B v e) : mnS d F T W kind bd B v (e + 1) = vaA d F T W kind B v e := by
  have e9 : mnS d F T W kind bd B v (e + 1) = @ite _ (usA d F T W kind bd B v e ∧ vaA d F T W kind B v e < mnS d F T W kind bd B v e) (Classical.propDecidable _) (vaA d F T W kind B v e) (mnS d F T W kind bd B v e) := rfl
  rw [e9, if_pos ⟨h, h1⟩]
theorem mnS_n {d : Int} {F T W : Nat → Int} {kind bd : Int} {B : Nat → Int} {v : Int} {e : Nat} (h : ¬ (usA d F T W kind bd B v e ∧ vaA d F T W kind B v e < mnS d F T W kind bd B v e)) : mnS d F T W kind bd B v (e + 1) = mnS d F T W kind bd B v e := by
  have e9 : mnS d F T W kind bd B v (e + 1) = @ite _ (usA d F T W kind bd B v e ∧ vaA d F T W kind B v e < mnS d F T W kind bd B v e) (Classical.propDecidable _) (vaA d F T W kind B v e) (mnS d F T W kind bd B v e) := rfl
  rw [e9, if_neg h]
theorem mnS_le {d : Int} {F T W : Nat → Int} {kind bd : Int} {B : Nat → Int} {v : Int} {e : Nat} : ∀ {E : Nat}, e < E → usA d F T W kind bd B v e → mnS d F T W kind bd B v E ≤ vaA d F T W kind B v e := by
  intro E
  induction E with
  | zero => intro h; omega
  | succ E ih =>
    intro h hu
    by_cases hc : usA d F T W kind bd B v E ∧ vaA d F T W kind B v E < mnS d F T W kind bd B v E
    · rw [mnS_y hc.1 hc.2]
      by_cases he : e = E
      · rw [he]; exact Int.le_refl _
      · have := ih (by omega) hu
        omega
    · rw [mnS_n hc]
      by_cases he : e = E
      · subst he
        rcases Int.lt_or_le (vaA d F T W kind B v e) (mnS d F T W kind bd B v e) with g | g
        · exact absurd ⟨hu, g⟩ hc
        · exact g
      · exact ih (by omega) hu
theorem mnS_top {d : Int} {F T W : Nat → Int} {kind bd : Int} {B : Nat → Int} {v : Int} : ∀ {E : Nat}, mnS d F T W kind bd B v E ≤ 1000000000000 := by
  intro E
  induction E with
  | zero => exact Int.le_refl _
  | succ E ih =>
    by_cases hc : usA d F T W kind bd B v E ∧ vaA d F T W kind B v E < mnS d F T W kind bd B v E
    · rw [mnS_y hc.1 hc.2]; omega
    · rw [mnS_n hc]; exact ih
theorem mnS_at {d : Int} {F T W : Nat → Int} {kind bd : Int} {B : Nat → Int} {v : Int} : ∀ {E : Nat}, mnS d F T W kind bd B v E = 1000000000000 ∨ ∃ e, e < E ∧ usA d F T W kind bd B v e ∧ vaA d F T W kind B v e = mnS d F T W kind bd B v E := by
  intro E
  induction E with
  | zero => exact Or.inl rfl
  | succ E ih =>
    by_cases hc : usA d F T W kind bd B v E ∧ vaA d F T W kind B v E < mnS d F T W kind bd B v E
    · exact Or.inr ⟨E, by omega, hc.1, (mnS_y hc.1 hc.2).symm⟩
    · rw [mnS_n hc]
      rcases ih with h | ⟨e, h1, h2, h3⟩
      · exact Or.inl h
      · exact Or.inr ⟨e, by omega, h2, h3⟩
/-- how many ways of worth b come over arc e -/
noncomputable def ctA (d : Int) (F T W : Nat → Int) (kind bd : Int) (B : Nat → Int) (N : Nat → Int64) (v b : Int) (e : Nat) : Int64 := @ite _ (usA d F T W kind bd B v e ∧ vaA d F T W kind B v e = b) (Classical.propDecidable _) (N (itV d F T e v).toNat) 0
theorem ctA_y {d : Int} {F T W : Nat → Int} {kind bd : Int} {B : Nat → Int} {N : Nat → Int64} {v b : Int} {e : Nat} (h : usA d F T W kind bd B v e) (h1 : vaA d F T W kind B v e = b) : ctA d F T W kind bd B N v b e = N (itV d F T e v).toNat := by unfold ctA; rw [if_pos ⟨h, h1⟩]
theorem ctA_n {d : Int} {F T W : Nat → Int} {kind bd : Int} {B : Nat → Int} {N : Nat → Int64} {v b : Int} {e : Nat} (h : ¬ (usA d F T W kind bd B v e ∧ vaA d F T W kind B v e = b)) : ctA d F T W kind bd B N v b e = 0 := by unfold ctA; rw [if_neg h]
theorem su_z {f : Nat → Int64} : ∀ {k : Nat}, (∀ i, i < k → f i = 0) → suA f k = 0 := by
  intro k
  induction k with
  | zero => intro _; rfl
  | succ k ih =>
    intro h
    show suA f k + f k = 0
    rw [ih (fun i hi => h i (by omega)), h k (by omega)]; rfl
theorem i64_z (x : Int64) : 0 + x = x := Int64.zero_add x
theorem i64_o (x : Int64) : x + 0 = x := Int64.add_zero x
/-- one arc more in the midst of a node: the least so far and how many -/
def dpQ (d : Int) (F T W : Nat → Int) (kind bd : Int) (B : Nat → Int) (N : Nat → Int64) (v : Int) (E : Nat) (b w : Int64) : Prop := b.toInt = mnS d F T W kind bd B v E ∧ w = suA (ctA d F T W kind bd B N v (mnS d F T W kind bd B v E)) E
theorem dpq_0 {d : Int} {F T W : Nat → Int} {kind bd : Int} {B : Nat → Int} {N : Nat → Int64} {v : Int} {b w : Int64} (hb : b.toInt = 1000000000000) (hw : w = 0) : dpQ d F T W kind bd B N v 0 b w := ⟨hb, hw⟩
theorem dp_lt {d : Int} {F T W : Nat → Int} {kind bd : Int} {B : Nat → Int} {N : Nat → Int64} {v : Int} {E : Nat} {b w x : Int64} (h : dpQ d F T W kind bd B N v E b w) (hu : usA d F T W kind bd B v E) (hx : x.toInt = vaA d F T W kind B v E) (hl : x.toInt < b.toInt) : dpQ d F T W kind bd B N v (E + 1) x (0 + N (itV d F T E v).toNat) := by
  have e1 := mnS_y hu (show vaA d F T W kind B v E < mnS d F T W kind bd B v E by rw [← hx, ← h.1]; exact hl)
  refine ⟨by rw [e1]; exact hx, ?_⟩
  rw [e1]
  show _ = suA _ E + ctA d F T W kind bd B N v (vaA d F T W kind B v E) E
  rw [ctA_y hu rfl, su_z (fun i hi => ctA_n (fun h9 => by
    have h8 := mnS_le hi h9.1
    have h7 := h.1
    omega))]
theorem dp_eq {d : Int} {F T W : Nat → Int} {kind bd : Int} {B : Nat → Int} {N : Nat → Int64} {v : Int} {E : Nat} {b w x : Int64} (h : dpQ d F T W kind bd B N v E b w) (hu : usA d F T W kind bd B v E) (hx : x.toInt = vaA d F T W kind B v E) (hl : x.toInt = b.toInt) : dpQ d F T W kind bd B N v (E + 1) b (w + N (itV d F T E v).toNat) := by
  have e1 : mnS d F T W kind bd B v (E + 1) = mnS d F T W kind bd B v E := mnS_n (fun h9 => by
    have h7 := h.1
    have h8 := h9.2
    omega)
  refine ⟨by rw [e1]; exact h.1, ?_⟩
  rw [e1]
  show _ = suA _ E + ctA d F T W kind bd B N v (mnS d F T W kind bd B v E) E
  rw [ctA_y hu (by rw [← hx, hl]; exact h.1), ← h.2]
theorem dp_gt {d : Int} {F T W : Nat → Int} {kind bd : Int} {B : Nat → Int} {N : Nat → Int64} {v : Int} {E : Nat} {b w x : Int64} (h : dpQ d F T W kind bd B N v E b w) (hx : x.toInt = vaA d F T W kind B v E) (hl : b.toInt < x.toInt) : dpQ d F T W kind bd B N v (E + 1) b (w + 0) := by
  have e1 : mnS d F T W kind bd B v (E + 1) = mnS d F T W kind bd B v E := mnS_n (fun h9 => by
    have h7 := h.1
    have h8 := h9.2
    omega)
  refine ⟨by rw [e1]; exact h.1, ?_⟩
  rw [e1]
  show _ = suA _ E + ctA d F T W kind bd B N v (mnS d F T W kind bd B v E) E
  rw [ctA_n (fun h9 => by
    have h7 := h.1
    have h8 := h9.2
    omega), ← h.2]
theorem dp_no {d : Int} {F T W : Nat → Int} {kind bd : Int} {B : Nat → Int} {N : Nat → Int64} {v : Int} {E : Nat} {b w : Int64} (h : dpQ d F T W kind bd B N v E b w) (hu : ¬ usA d F T W kind bd B v E) : dpQ d F T W kind bd B N v (E + 1) b w := by
  have e1 : mnS d F T W kind bd B v (E + 1) = mnS d F T W kind bd B v E := mnS_n (fun h9 => hu h9.1)
  refine ⟨by rw [e1]; exact h.1, ?_⟩
  rw [e1]
  show _ = suA _ E + ctA d F T W kind bd B N v (mnS d F T W kind bd B v E) E
  rw [ctA_n (fun h9 => hu h9.1), i64_o, ← h.2]
/-- the tables: least worth of a way of k arcs from s to v, and how many have it -/
noncomputable def bT (m : Nat) (d : Int) (F T W : Nat → Int) (kind bd : Int) (s : Nat) : Nat → Nat → Int
  | 0 => fun v => if v = s then 0 else 1000000000000
  | k + 1 => fun v => mnS d F T W kind bd (bT m d F T W kind bd s k) (v : Int) m
noncomputable def nT (m : Nat) (d : Int) (F T W : Nat → Int) (kind bd : Int) (s : Nat) : Nat → Nat → Int64
  | 0 => fun v => if v = s then 1 else 0
  | k + 1 => fun v => suA (ctA d F T W kind bd (bT m d F T W kind bd s k) (nT m d F T W kind bd s k) (v : Int) (bT m d F T W kind bd s (k + 1) v)) m
theorem mnS_eq {d : Int} {F T W : Nat → Int} {kind bd : Int} {B B' : Nat → Int} {v : Int} {n : Int} : ∀ {E : Nat}, (∀ k, k < E → (0 ≤ F k ∧ F k < n) ∧ (0 ≤ T k ∧ T k < n)) → (∀ u : Nat, (u : Int) < n → B u = B' u) → mnS d F T W kind bd B v E = mnS d F T W kind bd B' v E := by
  intro E
  induction E with
  | zero => intro _ _; rfl
  | succ E ih =>
    intro hF hB
    have e1 := ih (fun k hk => hF k (by omega)) hB
    have hE := hF E (by omega)
    have hi : 0 ≤ itV d F T E v → B (itV d F T E v).toNat = B' (itV d F T E v).toNat := fun h9 => hB _ (by
      have h8 : itV d F T E v < n := by
        unfold itV
        split
        · omega
        · split <;> omega
      omega)
    have hu : usA d F T W kind bd B v E ↔ usA d F T W kind bd B' v E := ⟨fun h => ⟨h.1, h.2.1, by rw [← hi h.1]; exact h.2.2⟩, fun h => ⟨h.1, h.2.1, by rw [hi h.1]; exact h.2.2⟩⟩
    have hv : 0 ≤ itV d F T E v → vaA d F T W kind B v E = vaA d F T W kind B' v E := fun h9 => by unfold vaA; rw [hi h9]
    by_cases hc : usA d F T W kind bd B v E ∧ vaA d F T W kind B v E < mnS d F T W kind bd B v E
    · rw [mnS_y hc.1 hc.2, mnS_y (hu.mp hc.1) (by rw [← hv hc.1.1, ← e1]; exact hc.2)]; exact hv hc.1.1
    · rw [mnS_n hc, mnS_n (fun h9 => hc ⟨hu.mpr h9.1, by rw [hv h9.1.1, e1]; exact h9.2⟩)]; exact e1
theorem bT_bd {m : Nat} {d : Int} {F T W : Nat → Int} {kind bd : Int} {s : Nat} (hW : ∀ e, e < m → -1000 ≤ W e ∧ W e ≤ 1000) : ∀ (k v : Nat), bT m d F T W kind bd s k v = 1000000000000 ∨ (-1000 * (k : Int) ≤ bT m d F T W kind bd s k v ∧ bT m d F T W kind bd s k v ≤ 1000 * (k : Int)) := by
  intro k
  induction k with
  | zero =>
    intro v
    show (if v = s then (0 : Int) else 1000000000000) = _ ∨ _
    by_cases h : v = s
    · refine Or.inr ?_
      show -1000 * ((0 : Nat) : Int) ≤ (if v = s then (0 : Int) else 1000000000000) ∧ (if v = s then (0 : Int) else 1000000000000) ≤ 1000 * ((0 : Nat) : Int)
      rw [if_pos h]; exact ⟨by decide, by decide⟩
    · exact Or.inl (if_neg h)
  | succ k ih =>
    intro v
    rcases mnS_at (d := d) (F := F) (T := T) (W := W) (kind := kind) (bd := bd) (B := bT m d F T W kind bd s k) (v := (v : Int)) (E := m) with h | ⟨e, h1, h2, h3⟩
    · exact Or.inl h
    · refine Or.inr ?_
      show -1000 * ((k + 1 : Nat) : Int) ≤ mnS d F T W kind bd (bT m d F T W kind bd s k) (v : Int) m ∧ mnS d F T W kind bd (bT m d F T W kind bd s k) (v : Int) m ≤ 1000 * ((k + 1 : Nat) : Int)
      rw [← h3]
      have hw := hW e h1
      have hp : -1000 ≤ prA kind W e ∧ prA kind W e ≤ 1000 := by unfold prA; split <;> omega
      have h4 := h2.2.2
      have h5 := ih (itV d F T e (v : Int)).toNat
      unfold vaA
      omega
/-- rows that hold the tables up to row k, place v -/
def spP (m : Nat) (d : Int) (F T W : Nat → Int) (kind bd : Int) (s : Nat) (n : Int) (bs wy : Nat → Int64) (k v : Int) : Prop := ∀ (k' v' : Nat), (v' : Int) < n → ((k' : Int) < k ∨ ((k' : Int) = k ∧ (v' : Int) < v)) → (bs (16 * k' + v')).toInt = bT m d F T W kind bd s k' v' ∧ wy (16 * k' + v') = nT m d F T W kind bd s k' v'
theorem sp_0 {m : Nat} {d : Int} {F T W : Nat → Int} {kind bd : Int} {s : Nat} {n : Int} {bs wy : Nat → Int64} : spP m d F T W kind bd s n bs wy 0 0 := fun k' v' _ h => by omega
theorem sp_row {m : Nat} {d : Int} {F T W : Nat → Int} {kind bd : Int} {s : Nat} {n : Int} {bs wy : Nat → Int64} {k v : Int} (h : spP m d F T W kind bd s n bs wy k v) (hv : n ≤ v) : spP m d F T W kind bd s n bs wy (k + 1) 0 := fun k' v' h1 h2 => h k' v' h1 (by omega)
theorem sp_up {m : Nat} {d : Int} {F T W : Nat → Int} {kind bd : Int} {s : Nat} {n : Int} {bs wy : Nat → Int64} {k v : Int} {b w : Int64} {i : Nat} (h : spP m d F T W kind bd s n bs wy k v) (hk : 0 ≤ k) (hv : 0 ≤ v ∧ v < n) (hn : n ≤ 16) (hi : (i : Int) = 16 * k + v) (hb : b.toInt = bT m d F T W kind bd s k.toNat v.toNat ∧ w = nT m d F T W kind bd s k.toNat v.toNat) : spP m d F T W kind bd s n (fuj bs i b) (fuj wy i w) k (v + 1) := by
  intro k' v' h1 h2
  by_cases e : (k' : Int) = k ∧ (v' : Int) = v
  · have ei : 16 * k' + v' = i := by omega
    have ek : k' = k.toNat := by omega
    have ev : v' = v.toNat := by omega
    rw [ei, fuj_s, fuj_s, ek, ev]; exact hb
  · rw [fuj_o _ _ (by omega), fuj_o _ _ (by omega)]
    exact h k' v' h1 (by omega)
theorem sp_at {m : Nat} {d : Int} {F T W : Nat → Int} {kind bd : Int} {s : Nat} {n : Int} {bs wy : Nat → Int64} {K V k u : Int} (h : spP m d F T W kind bd s n bs wy K V) (hk : 0 ≤ k ∧ k < K) (hu : 0 ≤ u ∧ u < n) : (bs (16 * k + u).toNat).toInt = bT m d F T W kind bd s k.toNat u.toNat ∧ wy (16 * k + u).toNat = nT m d F T W kind bd s k.toNat u.toNat := by
  have e : (16 * k + u).toNat = 16 * k.toNat + u.toNat := by omega
  rw [e]
  exact h k.toNat u.toNat (by omega) (by omega)
/-- in the midst of a place of the tables -/
def dpR (m : Nat) (d : Int) (F T W : Nat → Int) (kind bd : Int) (s : Nat) (k v : Int) (E : Nat) (b w : Int64) : Prop := (k = 0 → b.toInt = (if v = (s : Int) then 0 else 1000000000000) ∧ w = (if v = (s : Int) then 1 else 0)) ∧ (1 ≤ k → dpQ d F T W kind bd (bT m d F T W kind bd s (k - 1).toNat) (nT m d F T W kind bd s (k - 1).toNat) v E b w)
def inB (k v : Int) (s : Nat) (b : Int64) : Prop := b.toInt = (if k = 0 ∧ v = (s : Int) then 0 else 1000000000000)
def inW (k v : Int) (s : Nat) (w : Int64) : Prop := w = (if k = 0 ∧ v = (s : Int) then 1 else 0)
theorem dr_0 {m : Nat} {d : Int} {F T W : Nat → Int} {kind bd : Int} {s : Nat} {k v : Int} {b w : Int64} (hb : inB k v s b) (hw : inW k v s w) : dpR m d F T W kind bd s k v 0 b w := by
  unfold inB at hb
  unfold inW at hw
  refine ⟨fun e => ?_, fun e => ?_⟩
  · rw [hb, hw]
    by_cases h : v = (s : Int)
    · have g : k = 0 ∧ v = (s : Int) := ⟨e, h⟩
      exact ⟨(if_pos g).trans (if_pos h).symm, (if_pos g).trans (if_pos h).symm⟩
    · have g : ¬ (k = 0 ∧ v = (s : Int)) := fun h9 => h h9.2
      exact ⟨(if_neg g).trans (if_neg h).symm, (if_neg g).trans (if_neg h).symm⟩
  · exact dpq_0 (by rw [hb, if_neg (fun h9 => by omega)]) (by rw [hw, if_neg (fun h9 => by omega)])
theorem dr_lt {m : Nat} {d : Int} {F T W : Nat → Int} {kind bd : Int} {s : Nat} {k v e u : Int} {b w x N9 : Int64} (h : dpR m d F T W kind bd s k v e.toNat b w) (he : 0 ≤ e) (hk : 1 ≤ k) (hu : usA d F T W kind bd (bT m d F T W kind bd s (k - 1).toNat) v e.toNat) (hi : u = itV d F T e.toNat v) (hx : x.toInt = bT m d F T W kind bd s (k - 1).toNat u.toNat + prA kind W e.toNat) (hl : x.toInt < b.toInt) (hN : N9 = nT m d F T W kind bd s (k - 1).toNat u.toNat) : dpR m d F T W kind bd s k v (e + 1).toNat x (0 + N9) := by
  rw [tn1 he]
  subst hi
  exact ⟨fun e => by omega, fun _ => by rw [hN]; exact dp_lt (h.2 hk) hu hx hl⟩
theorem dr_eq {m : Nat} {d : Int} {F T W : Nat → Int} {kind bd : Int} {s : Nat} {k v e u : Int} {b w x N9 : Int64} (h : dpR m d F T W kind bd s k v e.toNat b w) (he : 0 ≤ e) (hk : 1 ≤ k) (hu : usA d F T W kind bd (bT m d F T W kind bd s (k - 1).toNat) v e.toNat) (hi : u = itV d F T e.toNat v) (hx : x.toInt = bT m d F T W kind bd s (k - 1).toNat u.toNat + prA kind W e.toNat) (hl : x.toInt = b.toInt) (hN : N9 = nT m d F T W kind bd s (k - 1).toNat u.toNat) : dpR m d F T W kind bd s k v (e + 1).toNat b (w + N9) := by
  rw [tn1 he]
  subst hi
  exact ⟨fun e => by omega, fun _ => by rw [hN]; exact dp_eq (h.2 hk) hu hx hl⟩
theorem dr_gt {m : Nat} {d : Int} {F T W : Nat → Int} {kind bd : Int} {s : Nat} {k v e u : Int} {b w x : Int64} (h : dpR m d F T W kind bd s k v e.toNat b w) (he : 0 ≤ e) (hk : 1 ≤ k) (hi : u = itV d F T e.toNat v) (hx : x.toInt = bT m d F T W kind bd s (k - 1).toNat u.toNat + prA kind W e.toNat) (hl : b.toInt < x.toInt) : dpR m d F T W kind bd s k v (e + 1).toNat b (w + 0) := by
  rw [tn1 he]
  subst hi
  exact ⟨fun e => by omega, fun _ => dp_gt (h.2 hk) hx hl⟩
theorem dr_no {m : Nat} {d : Int} {F T W : Nat → Int} {kind bd : Int} {s : Nat} {k v e : Int} {b w : Int64} (h : dpR m d F T W kind bd s k v e.toNat b w) (he : 0 ≤ e) (hk : 1 ≤ k) (hu : ¬ usA d F T W kind bd (bT m d F T W kind bd s (k - 1).toNat) v e.toNat) : dpR m d F T W kind bd s k v (e + 1).toNat b w := by
  rw [tn1 he]
  exact ⟨fun e => by omega, fun _ => dp_no (h.2 hk) hu⟩
theorem dr_end {m : Nat} {d : Int} {F T W : Nat → Int} {kind bd : Int} {s : Nat} {k v e : Int} {b w : Int64} (h : dpR m d F T W kind bd s k v e.toNat b w) (hk : 0 ≤ k) (hv : 0 ≤ v) (he : k = 0 ∨ e.toNat = m) : b.toInt = bT m d F T W kind bd s k.toNat v.toNat ∧ w = nT m d F T W kind bd s k.toNat v.toNat := by
  by_cases h0 : k = 0
  · obtain ⟨h1, h2⟩ := h.1 h0
    have ek : k.toNat = 0 := by omega
    rw [ek, h1, h2]
    by_cases hs : v = (s : Int)
    · rw [if_pos hs, if_pos hs]
      have ev : v.toNat = s := by omega
      exact ⟨(if_pos ev).symm, (if_pos ev).symm⟩
    · rw [if_neg hs, if_neg hs]
      have ev : ¬ v.toNat = s := by omega
      exact ⟨(if_neg ev).symm, (if_neg ev).symm⟩
  · have h1 := h.2 (by omega)
    have e1 : k.toNat = (k - 1).toNat + 1 := by omega
    have e2 : e.toNat = m := by omega
    have e3 : ((v.toNat : Nat) : Int) = v := Int.toNat_of_nonneg hv
    rw [e2] at h1
    rw [e1]
    obtain ⟨g1, g2⟩ := h1
    have g3 : bT m d F T W kind bd s ((k - 1).toNat + 1) v.toNat = mnS d F T W kind bd (bT m d F T W kind bd s (k - 1).toNat) v m := by
      show mnS d F T W kind bd (bT m d F T W kind bd s (k - 1).toNat) ((v.toNat : Nat) : Int) m = _
      rw [e3]
    refine ⟨by rw [g3]; exact g1, ?_⟩
    show w = suA (ctA d F T W kind bd (bT m d F T W kind bd s (k - 1).toNat) (nT m d F T W kind bd s (k - 1).toNat) ((v.toNat : Nat) : Int) (bT m d F T W kind bd s ((k - 1).toNat + 1) v.toNat)) m
    rw [g3, e3]; exact g2
/-- arc e is the last of a best way of q arcs to v -/
def laB (m : Nat) (d : Int) (F T W : Nat → Int) (kind bd : Int) (s : Nat) (q v : Int) (e : Nat) : Prop := usA d F T W kind bd (bT m d F T W kind bd s (q - 1).toNat) v e ∧ vaA d F T W kind (bT m d F T W kind bd s (q - 1).toNat) v e = bT m d F T W kind bd s q.toNat v.toNat
theorem laB_ex {m : Nat} {d : Int} {F T W : Nat → Int} {kind bd : Int} {s : Nat} {q v : Int} (hq : 1 ≤ q) (hv : 0 ≤ v) (h : bT m d F T W kind bd s q.toNat v.toNat < 1000000000000) : ∃ e, e < m ∧ laB m d F T W kind bd s q v e := by
  have e1 : q.toNat = (q - 1).toNat + 1 := by omega
  have e3 : ((v.toNat : Nat) : Int) = v := Int.toNat_of_nonneg hv
  have g3 : bT m d F T W kind bd s ((q - 1).toNat + 1) v.toNat = mnS d F T W kind bd (bT m d F T W kind bd s (q - 1).toNat) v m := by
    show mnS d F T W kind bd (bT m d F T W kind bd s (q - 1).toNat) ((v.toNat : Nat) : Int) m = _
    rw [e3]
  rw [e1, g3] at h
  rcases mnS_at (d := d) (F := F) (T := T) (W := W) (kind := kind) (bd := bd) (B := bT m d F T W kind bd s (q - 1).toNat) (v := v) (E := m) with h1 | ⟨e, h1, h2, h3⟩
  · omega
  · exact ⟨e, h1, h2, by rw [e1, g3]; exact h3⟩
/-- rows that hold numbers -/
def rqP (f : Nat → Int) (r : Nat → Int64) (v : Int) : Prop := ∀ u : Nat, (u : Int) < v → (r u).toInt = f u
theorem rq_0 {f : Nat → Int} {r : Nat → Int64} : rqP f r 0 := fun u hu => by omega
theorem rq_up {f : Nat → Int} {r : Nat → Int64} {v : Int} {x : Int64} (h : rqP f r v) (h0 : 0 ≤ v) (hx : x.toInt = f v.toNat) : rqP f (fuj r v.toNat x) (v + 1) := by
  intro u hu
  by_cases e : u = v.toNat
  · subst e; rw [fuj_s]; exact hx
  · rw [fuj_o _ _ e]; exact h u (by omega)
theorem rq_fuj {f : Nat → Int} {r : Nat → Int64} {v : Int} {x : Int64} (h : rqP f r v) (h0 : 0 ≤ v) : rqP f (fuj r v.toNat x) v := by
  intro u hu
  rw [fuj_o _ _ (by omega)]; exact h u hu
theorem rq_st {f : Nat → Int} {r : Nat → Int64} {v : Int} {y : Int} (h : rqP f r v) (h0 : 0 ≤ v) (hx : (r v.toNat).toInt = y) (hy : y = f v.toNat) : rqP f r (v + 1) := by
  intro u hu
  by_cases e : u = v.toNat
  · subst e; exact hx.trans hy
  · exact h u (by omega)
theorem rq_le {f : Nat → Int} {r : Nat → Int64} {v n : Int} (h : rqP f r v) (hn : n ≤ v) : rqP f r n := fun u hu => h u (by omega)
/-- a round of less than nothing comes back to u -/
def fallP (m : Nat) (d : Int) (F T W : Nat → Int) (n : Int) (u : Nat) : Prop := ∃ k : Nat, 1 ≤ k ∧ (k : Int) ≤ n ∧ bT m d F T W 0 0 u k u < 0
def flP (m : Nat) (d : Int) (F T W : Nat → Int) (u : Nat) (k f : Int) : Prop := (f = 1 ∧ ∃ k' : Nat, 1 ≤ k' ∧ (k' : Int) ≤ k ∧ bT m d F T W 0 0 u k' u < 0) ∨ (f = 0 ∧ ∀ k' : Nat, 1 ≤ k' → (k' : Int) ≤ k → ¬ bT m d F T W 0 0 u k' u < 0)
theorem fl_0 {m : Nat} {d : Int} {F T W : Nat → Int} {u : Nat} : flP m d F T W u 0 0 := Or.inr ⟨rfl, fun k' h1 h2 => by omega⟩
theorem fl_y {m : Nat} {d : Int} {F T W : Nat → Int} {u : Nat} {k : Int} {x : Int64} (hk : 0 ≤ k) (hx : x.toInt = bT m d F T W 0 0 u (k.toNat + 1) u) (h : x.toInt < 0) : flP m d F T W u (k + 1) 1 := Or.inl ⟨rfl, k.toNat + 1, by omega, by omega, by rw [← hx]; exact h⟩
theorem fl_n {m : Nat} {d : Int} {F T W : Nat → Int} {u : Nat} {k f : Int} {x : Int64} (h : flP m d F T W u k f) (hf : f = 0) (hk : 0 ≤ k) (hx : x.toInt = bT m d F T W 0 0 u (k.toNat + 1) u) (h9 : ¬ x.toInt < 0) : flP m d F T W u (k + 1) 0 := by
  rcases h with ⟨h1, -⟩ | ⟨-, h2⟩
  · omega
  · refine Or.inr ⟨rfl, fun k' g1 g2 => ?_⟩
    by_cases e : k' = k.toNat + 1
    · rw [e, ← hx]; exact h9
    · exact h2 k' g1 (by omega)
theorem fl_end {m : Nat} {d : Int} {F T W : Nat → Int} {u : Nat} {k f n : Int} (h : flP m d F T W u k f) (hk : k ≤ n) (he : n ≤ k ∨ f ≠ 0) : (f = 1 ∧ fallP m d F T W n u) ∨ (f = 0 ∧ ¬ fallP m d F T W n u) := by
  rcases h with ⟨h1, k', h2, h3, h4⟩ | ⟨h1, h2⟩
  · exact Or.inl ⟨h1, k', h2, by omega, h4⟩
  · refine Or.inr ⟨h1, fun ⟨k', g1, g2, g3⟩ => h2 k' g1 (by omega) g3⟩
/-- v can be had for less and less -/
def edP (m : Nat) (d : Int) (F T W : Nat → Int) (n : Int) (s v : Nat) : Prop := RC (stP m d F T) (fun u => (u : Int) < n ∧ RC (stP m d F T) (fun x => x = s) u ∧ fallP m d F T W n u) v
def faS (m : Nat) (d : Int) (F T W : Nat → Int) (n : Int) (s : Nat) (u set : Int) : Prop := ∀ j : Nat, Me set j ↔ (j : Int) < u ∧ RC (stP m d F T) (fun x => x = s) j ∧ fallP m d F T W n j
theorem fs_0 {m : Nat} {d : Int} {F T W : Nat → Int} {n : Int} {s : Nat} : faS m d F T W n s 0 0 := fun j => ⟨fun h => absurd h (Me_0 j), fun h => by omega⟩
theorem fs_y {m : Nat} {d : Int} {F T W : Nat → Int} {n : Int} {s : Nat} {u set z b : Int} (h : faS m d F T W n s u set) (h0 : 0 ≤ u) (hz : ∀ i, Me z i ↔ Me set i ∨ Me b i) (hb : ∀ i, Me b i ↔ i = u.toNat) (h1 : RC (stP m d F T) (fun x => x = s) u.toNat) (h2 : fallP m d F T W n u.toNat) : faS m d F T W n s (u + 1) z := by
  intro j
  rw [hz j, hb j, h j]
  constructor
  · rintro (⟨q1, q2⟩ | e)
    · exact ⟨by omega, q2⟩
    · subst e; exact ⟨by omega, h1, h2⟩
  · rintro ⟨q1, q2⟩
    by_cases e : j = u.toNat
    · exact Or.inr e
    · exact Or.inl ⟨by omega, q2⟩
theorem fs_n {m : Nat} {d : Int} {F T W : Nat → Int} {n : Int} {s : Nat} {u set : Int} (h : faS m d F T W n s u set) (h0 : 0 ≤ u) (h1 : ¬ (RC (stP m d F T) (fun x => x = s) u.toNat ∧ fallP m d F T W n u.toNat)) : faS m d F T W n s (u + 1) set := by
  intro j
  rw [h j]
  constructor
  · rintro ⟨q1, q2⟩; exact ⟨by omega, q2⟩
  · rintro ⟨q1, q2⟩
    by_cases e : j = u.toNat
    · subst e; exact absurd q2 h1
    · exact ⟨by omega, q2⟩
theorem ed_iff {m : Nat} {d : Int} {F T W : Nat → Int} {n : Int} {s v : Nat} {u set r : Int} (h : faS m d F T W n s u set) (hu : u = n) (hr : ∀ j, Me r j ↔ RC (stP m d F T) (fun x => Me set x) j) : Me r v ↔ edP m d F T W n s v := by
  rw [hr v]
  subst hu
  exact ⟨RC_mono (fun _ _ q => q) (fun x q => (h x).mp q), RC_mono (fun _ _ q => q) (fun x q => (h x).mpr q)⟩
theorem ed_no {m : Nat} {d : Int} {F T W : Nat → Int} {n : Int} {s v : Nat} {u set : Int} (h : faS m d F T W n s u set) (hu : u = n) (h0 : set = 0) : ¬ edP m d F T W n s v := by
  intro h9
  subst hu
  exact h9 (fun _ => False) (fun i hi => by
    have h8 := (h i).mpr hi
    rw [h0] at h8
    exact Me_0 i h8) (fun i j hi _ => hi)
set_option maxHeartbeats 4000000 in
set_option maxRecDepth 100000 in
theorem x_X12_into {D : va_G} {cI cJ cZ cT : ClassId} {lo b L : Nat} {xs : Nat → Int32} {hp : MH} {n d : Nat} {Γ : TG} {y : Nat} {rf cn nm : Int} {so sz dr mn fr tt wt co : Nat → Int} {nu : Nat → Int64} {sa : Nat → Int} {wo : Nat → Int64} {ln : Nat → Int} {hw : Nat → Int64} {ro qi qc nf nt nw nc : Nat → Int} {cl nx : Nat → Int64} {ie be sd bl : Nat → Int} {bs wy ra rb : Nat → Int64} {lb bg os js ls : Nat → Int} {sp : Nat → Int64} {jw go : Nat → Int} {de : Nat → Int64} {yb ah im : Nat → Int} {x1 x2 x3 : Int} {Po9 : Option Value → MH → Nat → Prop} (hd0 : 1 ≤ d) (hR_from : Rfx 7260 0 15 fr) (hR_to : Rfx 7260 0 15 tt) (hR_directs : Rfx 121 0 1 dr) (ht : Tw (RX Γ cI cJ cZ y rf cn nm so sz dr mn fr tt wt co nu sa wo ln hw ro qi qc nf nt nw nc cl nx ie be sd bl bs wy ra rb lb bg os js ls sp jw go de yb ah im) hp) (hx1 : 0 ≤ x1 ∧ x1 ≤ 120) (hx2 : 0 ≤ x2 ∧ x2 ≤ 59) (hx3 : 0 ≤ x3 ∧ x3 ≤ 15) (hPo : ∀ r hp1 n1, (n1 = n ∧ ∃ (r9 : Int), Tw (RX Γ cI cJ cZ y rf cn nm so sz dr mn fr tt wt co nu sa wo ln hw ro qi qc nf nt nw nc cl nx ie be sd bl bs wy ra rb lb bg os js ls sp jw go de yb ah im) hp1 ∧ r = some (.int (iv r9)) ∧ (r9 = inV fr tt dr x1 x2 x3) ∧ ((-1) ≤ r9 ∧ r9 ≤ 15)) → Po9 r hp1 n1) : Mt (gG D cI cJ cZ cT lo b L xs) mX12_into d 0 0 [.ref y, .int (iv x1), .int (iv x2), .int (iv x3)] hp n Po9 := by
  refine Mt.of rfl (Nat.le_of_ble_eq_true rfl) ?_
  refine Rn.pick (lv' := [(0, .ref y), (1, .int (iv x1)), (2, .int (iv x2)), (3, .int (iv x3))]) [0, 1, 2, 3] rfl ?_
  refine r_iload_n (pc := 0) dX12_into_0 (i := 1) rfl rfl ?_
  refine r_iload_n (pc := 1) dX12_into_1 (i := 2) rfl rfl ?_
  refine t_callSI (pc := 2) (as := [.int (iv x1), .int (iv x2)]) (st := []) kX12_157 dX12_into_2 (t_X12_at1x (d := d - 1) (x1 := x1) (x2 := x2) (by omega)  ht (by omega) (by omega)) rfl (by omega) (Nat.le_of_ble_eq_true rfl) rfl (fun hp1 y3 ht2 by3 => ?_)
  have ey3 : y3 = 60 * x1 + x2 := by3
  subst ey3
  refine r_istore (pc := 5) (lv' := [(4, .int (iv (60 * x1 + x2))), (0, .ref y), (1, .int (iv x1)), (2, .int (iv x2)), (3, .int (iv x3))]) dX12_into_5 (by decide) rfl ?_
  refine r_aload_n (pc := 7) dX12_into_7 (i := 0) rfl rfl ?_
  refine t_getE (pc := 8) (.ref (y + 6)) ht2 (rd_of RX_y) fX12_26 dX12_into_8 rfl ?_
  refine r_iload (pc := 11) dX12_into_11 rfl ?_
  refine t_ialdX (pc := 13) (t0 := 0) ht2 (rd_of RX_to) dX12_into_13 rfl (by decide) (by omega) (fun b4 => ?_)
  have rb4 := (show Rfx 7260 0 15 tt by assumption) (Int.toNat (60 * x1 + x2)) (by omega)
  refine r_iload_n (pc := 14) dX12_into_14 (i := 3) rfl rfl ?_
  refine t_icmp_ne (pc := 15) (tgt := 28) dX12_into_15 (by decide) (by omega) (by omega) (fun c15 => ?_) (fun c15 => ?_)
  · refine r_aload_n (pc := 28) dX12_into_28 (i := 0) rfl rfl ?_
    refine t_getE (pc := 29) (.ref (y + 3)) ht2 (rd_of RX_y) fX12_16 dX12_into_29 rfl ?_
    refine r_iload_n (pc := 32) dX12_into_32 (i := 1) rfl rfl ?_
    refine t_zaldX (pc := 33) (t0 := 2) ht2 (rd_of RX_directs) dX12_into_33 rfl (by decide) (by omega) (fun b5 => ?_)
    have rb5 := (show Rfx 121 0 1 dr by assumption) (Int.toNat x1) (by omega)
    refine t_if_ne (pc := 34) (tgt := 58) dX12_into_34 (by decide) (by omega) (fun c34 => ?_) (fun c34 => ?_)
    · refine r_iconst (pc := 58) (v := iv (-1)) dX12_into_58 (by decide) ?_
      exact r_iret (pc := 59) dX12_into_59 rfl (hPo _ _ _ ⟨rfl, (-1), ht2, rfl, (by unfold inV; (repeat' split) <;> omega), (by omega)⟩)
    · refine r_aload_n (pc := 37) dX12_into_37 (i := 0) rfl rfl ?_
      refine t_getE (pc := 38) (.ref (y + 5)) ht2 (rd_of RX_y) fX12_23 dX12_into_38 rfl ?_
      refine r_iload (pc := 41) dX12_into_41 rfl ?_
      refine t_ialdX (pc := 43) (t0 := 0) ht2 (rd_of RX_from) dX12_into_43 rfl (by decide) (by omega) (fun b6 => ?_)
      have rb6 := (show Rfx 7260 0 15 fr by assumption) (Int.toNat (60 * x1 + x2)) (by omega)
      refine r_iload_n (pc := 44) dX12_into_44 (i := 3) rfl rfl ?_
      refine t_icmp_ne (pc := 45) (tgt := 58) dX12_into_45 (by decide) (by omega) (by omega) (fun c45 => ?_) (fun c45 => ?_)
      · refine r_iconst (pc := 58) (v := iv (-1)) dX12_into_58 (by decide) ?_
        exact r_iret (pc := 59) dX12_into_59 rfl (hPo _ _ _ ⟨rfl, (-1), ht2, rfl, (by unfold inV; (repeat' split) <;> omega), (by omega)⟩)
      · refine r_aload_n (pc := 48) dX12_into_48 (i := 0) rfl rfl ?_
        refine t_getE (pc := 49) (.ref (y + 6)) ht2 (rd_of RX_y) fX12_26 dX12_into_49 rfl ?_
        refine r_iload (pc := 52) dX12_into_52 rfl ?_
        refine t_ialdX (pc := 54) (t0 := 0) ht2 (rd_of RX_to) dX12_into_54 rfl (by decide) (by omega) (fun b7 => ?_)
        have rb7 := (show Rfx 7260 0 15 tt by assumption) (Int.toNat (60 * x1 + x2)) (by omega)
        refine r_goto (pc := 55) (tgt := 59) dX12_into_55 (by decide) ?_
        exact r_iret (pc := 59) dX12_into_59 rfl (hPo _ _ _ ⟨rfl, (tt (Int.toNat (60 * x1 + x2))), ht2, rfl, (by unfold inV; (repeat' split) <;> omega), (by omega)⟩)
  · refine r_aload_n (pc := 18) dX12_into_18 (i := 0) rfl rfl ?_
    refine t_getE (pc := 19) (.ref (y + 5)) ht2 (rd_of RX_y) fX12_23 dX12_into_19 rfl ?_
    refine r_iload (pc := 22) dX12_into_22 rfl ?_
    refine t_ialdX (pc := 24) (t0 := 0) ht2 (rd_of RX_from) dX12_into_24 rfl (by decide) (by omega) (fun b8 => ?_)
    have rb8 := (show Rfx 7260 0 15 fr by assumption) (Int.toNat (60 * x1 + x2)) (by omega)
    refine r_goto (pc := 25) (tgt := 59) dX12_into_25 (by decide) ?_
    exact r_iret (pc := 59) dX12_into_59 rfl (hPo _ _ _ ⟨rfl, (fr (Int.toNat (60 * x1 + x2))), ht2, rfl, (by unfold inV; (repeat' split) <;> omega), (by omega)⟩)
set_option maxHeartbeats 4000000 in
set_option maxRecDepth 100000 in
theorem x_X12_goes {D : va_G} {cI cJ cZ cT : ClassId} {lo b L : Nat} {xs : Nat → Int32} {hp : MH} {n d : Nat} {Γ : TG} {y : Nat} {rf cn nm : Int} {so sz dr mn fr tt wt co : Nat → Int} {nu : Nat → Int64} {sa : Nat → Int} {wo : Nat → Int64} {ln : Nat → Int} {hw : Nat → Int64} {ro qi qc nf nt nw nc : Nat → Int} {cl nx : Nat → Int64} {ie be sd bl : Nat → Int} {bs wy ra rb : Nat → Int64} {lb bg os js ls : Nat → Int} {sp : Nat → Int64} {jw go : Nat → Int} {de : Nat → Int64} {yb ah im : Nat → Int} {x1 x2 x3 : Int} {j4 : Int64} {Po9 : Option Value → MH → Nat → Prop} (hd0 : 1 ≤ d) (hR_weight : Rfx 7260 (-1000) 1000 wt) (ht : Tw (RX Γ cI cJ cZ y rf cn nm so sz dr mn fr tt wt co nu sa wo ln hw ro qi qc nf nt nw nc cl nx ie be sd bl bs wy ra rb lb bg os js ls sp jw go de yb ah im) hp) (hx1 : 0 ≤ x1 ∧ x1 ≤ 120) (hx2 : 0 ≤ x2 ∧ x2 ≤ 59) (hx3 : 0 ≤ x3 ∧ x3 ≤ 2) (hPo : ∀ r hp1 n1, (n1 = n ∧ ∃ (r9 : Int), Tw (RX Γ cI cJ cZ y rf cn nm so sz dr mn fr tt wt co nu sa wo ln hw ro qi qc nf nt nw nc cl nx ie be sd bl bs wy ra rb lb bg os js ls sp jw go de yb ah im) hp1 ∧ r = some (.int (iv r9)) ∧ (0 ≤ r9 ∧ r9 ≤ 1) ∧ ((r9 = 1 ∧ okA x3 j4.toInt (sh wt (60 * x1)) (Int.toNat x2)) ∨ (r9 = 0 ∧ ¬ okA x3 j4.toInt (sh wt (60 * x1)) (Int.toNat x2)))) → Po9 r hp1 n1) : Mt (gG D cI cJ cZ cT lo b L xs) mX12_goes d 0 0 [.ref y, .int (iv x1), .int (iv x2), .int (iv x3), .long j4] hp n Po9 := by
  refine Mt.of rfl (Nat.le_of_ble_eq_true rfl) ?_
  refine Rn.pick (lv' := [(0, .ref y), (1, .int (iv x1)), (2, .int (iv x2)), (3, .int (iv x3)), (4, .long j4)]) [0, 1, 2, 3, 4] rfl ?_
  have hwl := iv_long (x := wt (Int.toNat (60 * x1 + x2))) (by have h9 := hR_weight (Int.toNat (60 * x1 + x2)) (by omega); omega)
  refine r_iload_n (pc := 0) dX12_goes_0 (i := 3) rfl rfl ?_
  refine r_iconst (pc := 1) (v := iv 2) dX12_goes_1 (by decide) ?_
  refine t_icmp_ne (pc := 2) (tgt := 22) dX12_goes_2 (by decide) (by omega) (by omega) (fun c2 => ?_) (fun c2 => ?_)
  · refine r_iconst (pc := 22) (v := iv 1) dX12_goes_22 (by decide) ?_
    refine r_goto (pc := 23) (tgt := 27) dX12_goes_23 (by decide) ?_
    exact r_zret (pc := 27) dX12_goes_27 rfl (iv_nar (by omega)) (hPo _ _ _ ⟨rfl, 1, ht, rfl, (by omega), (by first | exact Or.inl ⟨rfl, Or.inl (by omega)⟩ | exact Or.inl ⟨rfl, Or.inr (by rw [← sh_at wt (60 * x1) (v := x2) (by omega)]; omega)⟩ | exact Or.inr ⟨rfl, fun h9 => by unfold okA at h9; rw [← sh_at wt (60 * x1) (v := x2) (by omega)] at h9; omega⟩)⟩)
  · refine r_aload_n (pc := 5) dX12_goes_5 (i := 0) rfl rfl ?_
    refine t_getE (pc := 6) (.ref (y + 7)) ht (rd_of RX_y) fX12_29 dX12_goes_6 rfl ?_
    refine r_iload_n (pc := 9) dX12_goes_9 (i := 1) rfl rfl ?_
    refine r_iload_n (pc := 10) dX12_goes_10 (i := 2) rfl rfl ?_
    refine t_callSI (pc := 11) (as := [.int (iv x1), .int (iv x2)]) (st := [.ref (y + 7)]) kX12_157 dX12_goes_11 (t_X12_at1x (d := d - 1) (x1 := x1) (x2 := x2) (by omega)  ht (by omega) (by omega)) rfl (by omega) (Nat.le_of_ble_eq_true rfl) rfl (fun hp1 y3 ht2 by3 => ?_)
    have ey3 : y3 = 60 * x1 + x2 := by3
    subst ey3
    refine t_ialdX (pc := 14) (t0 := 0) ht2 (rd_of RX_weight) dX12_goes_14 rfl (by decide) (by omega) (fun b4 => ?_)
    have rb4 := (show Rfx 7260 (-1000) 1000 wt by assumption) (Int.toNat (60 * x1 + x2)) (by omega)
    refine r_i2l (pc := 15) (v := (iv (wt (Int.toNat (60 * x1 + x2)))).toInt64) dX12_goes_15 rfl ?_
    refine r_lload (pc := 16) dX12_goes_16 rfl ?_
    refine r_lcmp (pc := 18) dX12_goes_18 ?_
    refine t_lif_lt (pc := 19) (tgt := 26) dX12_goes_19 (by decide) (fun c19 => ?_) (fun c19 => ?_)
    · refine r_iconst (pc := 26) (v := iv 0) dX12_goes_26 (by decide) ?_
      exact r_zret (pc := 27) dX12_goes_27 rfl (iv_nar (by omega)) (hPo _ _ _ ⟨rfl, 0, ht2, rfl, (by omega), (by first | exact Or.inl ⟨rfl, Or.inl (by omega)⟩ | exact Or.inl ⟨rfl, Or.inr (by rw [← sh_at wt (60 * x1) (v := x2) (by omega)]; omega)⟩ | exact Or.inr ⟨rfl, fun h9 => by unfold okA at h9; rw [← sh_at wt (60 * x1) (v := x2) (by omega)] at h9; omega⟩)⟩)
    · refine r_iconst (pc := 22) (v := iv 1) dX12_goes_22 (by decide) ?_
      refine r_goto (pc := 23) (tgt := 27) dX12_goes_23 (by decide) ?_
      exact r_zret (pc := 27) dX12_goes_27 rfl (iv_nar (by omega)) (hPo _ _ _ ⟨rfl, 1, ht2, rfl, (by omega), (by first | exact Or.inl ⟨rfl, Or.inl (by omega)⟩ | exact Or.inl ⟨rfl, Or.inr (by rw [← sh_at wt (60 * x1) (v := x2) (by omega)]; omega)⟩ | exact Or.inr ⟨rfl, fun h9 => by unfold okA at h9; rw [← sh_at wt (60 * x1) (v := x2) (by omega)] at h9; omega⟩)⟩)
set_option maxHeartbeats 4000000 in
set_option maxRecDepth 100000 in
theorem x_X12_spread {D : va_G} {cI cJ cZ cT : ClassId} {lo b L : Nat} {xs : Nat → Int32} {hp : MH} {n d : Nat} {Γ : TG} {y : Nat} {rf cn nm : Int} {so sz dr mn fr tt wt co : Nat → Int} {nu : Nat → Int64} {sa : Nat → Int} {wo : Nat → Int64} {ln : Nat → Int} {hw : Nat → Int64} {ro qi qc nf nt nw nc : Nat → Int} {cl nx : Nat → Int64} {ie be sd bl : Nat → Int} {bs wy ra rb : Nat → Int64} {lb bg os js ls : Nat → Int} {sp : Nat → Int64} {jw go : Nat → Int} {de : Nat → Int64} {yb ah im : Nat → Int} {x1 x2 x3 x4 : Int} {j5 : Int64} {Po9 : Option Value → MH → Nat → Prop} (hd0 : 2 ≤ d) (hR_sizes : Rfx 121 0 16 sz) (hR_many : Rfx 121 0 60 mn) (hR_from : Rfx 7260 0 15 fr) (hR_to : Rfx 7260 0 15 tt) (hR_weight : Rfx 7260 (-1000) 1000 wt) (hR_directs : Rfx 121 0 1 dr) (ht : Tw (RX Γ cI cJ cZ y rf cn nm so sz dr mn fr tt wt co nu sa wo ln hw ro qi qc nf nt nw nc cl nx ie be sd bl bs wy ra rb lb bg os js ls sp jw go de yb ah im) hp) (hx1 : 0 ≤ x1 ∧ x1 ≤ 120) (hx2 : 0 ≤ x2 ∧ x2 ≤ 2) (hx3 : 0 ≤ x3 ∧ x3 ≤ 15) (hx4 : 0 ≤ x4 ∧ x4 ≤ 16) (hEn : enP fr tt mn sz x1) (hPo : ∀ r hp1 n1, (n1 = n ∧ ∃ (k1 : Nat → Int64) (w1 : Nat → Int64), Tw (RX Γ cI cJ cZ y rf cn nm so sz dr mn fr tt wt co nu sa wo ln hw ro qi qc nf nt nw nc cl nx ie be sd bl k1 w1 ra rb lb bg os js ls sp jw go de yb ah im) hp1 ∧ r = none ∧ (spP (Int.toNat (mn (Int.toNat x1))) (dr (Int.toNat x1)) (sh fr (60 * x1)) (sh tt (60 * x1)) (sh wt (60 * x1)) x2 j5.toInt (Int.toNat x3) (sz (Int.toNat x1)) k1 w1 (x4 + 1) 0)) → Po9 r hp1 n1) : Mt (gG D cI cJ cZ cT lo b L xs) mX12_spread d 0 0 [.ref y, .int (iv x1), .int (iv x2), .int (iv x3), .int (iv x4), .long j5] hp n Po9 := by
  refine Mt.of rfl (Nat.le_of_ble_eq_true rfl) ?_
  refine Rn.pick (lv' := [(0, .ref y), (1, .int (iv x1)), (2, .int (iv x2)), (3, .int (iv x3)), (4, .int (iv x4)), (5, .long j5)]) [0, 1, 2, 3, 4, 5] rfl ?_
  have rsz := hR_sizes (Int.toNat x1) (by omega)
  have rmn := hR_many (Int.toNat x1) (by omega)
  have rdr := hR_directs (Int.toNat x1) (by omega)
  have hFT := enF hEn (by assumption) (by assumption) (by omega) (by omega)
  have hW9 : ∀ k, k < (Int.toNat (mn (Int.toNat x1))) → -1000 ≤ (sh wt (60 * x1)) k ∧ (sh wt (60 * x1)) k ≤ 1000 := fun k hk => hR_weight (60 * x1 + (k : Int)).toNat (by omega)
  refine r_aload_n (pc := 0) dX12_spread_0 (i := 0) rfl rfl ?_
  refine t_getE (pc := 1) (.ref (y + 2)) ht (rd_of RX_y) fX12_13 dX12_spread_1 rfl ?_
  refine r_iload_n (pc := 4) dX12_spread_4 (i := 1) rfl rfl ?_
  refine t_ialdX (pc := 5) (t0 := 0) ht (rd_of RX_sizes) dX12_spread_5 rfl (by decide) (by omega) (fun b1 => ?_)
  have rb1 := (show Rfx 121 0 16 sz by assumption) (Int.toNat x1) (by omega)
  refine r_istore (pc := 6) (lv' := [(7, .int (iv (sz (Int.toNat x1)))), (0, .ref y), (1, .int (iv x1)), (2, .int (iv x2)), (3, .int (iv x3)), (4, .int (iv x4)), (5, .long j5)]) dX12_spread_6 (by decide) rfl ?_
  refine r_iconst (pc := 8) (v := iv 0) dX12_spread_8 (by decide) ?_
  refine r_istore (pc := 9) (lv' := [(8, .int (iv 0)), (7, .int (iv (sz (Int.toNat x1)))), (0, .ref y), (1, .int (iv x1)), (2, .int (iv x2)), (3, .int (iv x3)), (4, .int (iv x4)), (5, .long j5)]) dX12_spread_9 (by decide) rfl ?_
  have B11 : ∀ k : Nat, ∀ bs11 : Nat → Int64, ∀ wy11 : Nat → Int64, ∀ hp11 : MH, Tw (RX Γ cI cJ cZ y rf cn nm so sz dr mn fr tt wt co nu sa wo ln hw ro qi qc nf nt nw nc cl nx ie be sd bl bs11 wy11 ra rb lb bg os js ls sp jw go de yb ah im) hp11 → ∀  (v11_8 : Int), 0 ≤ v11_8 ∧ v11_8 ≤ 17 ∧ (v11_8 ≤ x4 + 1) ∧ (spP (Int.toNat (mn (Int.toNat x1))) (dr (Int.toNat x1)) (sh fr (60 * x1)) (sh tt (60 * x1)) (sh wt (60 * x1)) x2 j5.toInt (Int.toNat x3) (sz (Int.toNat x1)) bs11 wy11 v11_8 0) → 17 - v11_8 ≤ (k : Int) → Rn (gG D cI cJ cZ cT lo b L xs) mX12_spread d 11 [(0, .ref y), (1, .int (iv x1)), (2, .int (iv x2)), (3, .int (iv x3)), (4, .int (iv x4)), (5, .long j5), (7, .int (iv (sz (Int.toNat x1)))), (8, .int (iv v11_8))] [] hp11 n 0 0 Po9 := by
    refine lpS _ ?_
    intro k11 ih11 bs11 wy11 hp11 ht11 v11_8 hf11 hm11
    obtain ⟨hf11_0, hf11_1, hf11_2, ha11_3⟩ := hf11
    refine r_iload (pc := 11) dX12_spread_11 rfl ?_
    refine r_iload (pc := 13) dX12_spread_13 rfl ?_
    refine t_icmp_gt (pc := 15) (tgt := 269) dX12_spread_15 (by decide) (by omega) (by omega) (fun c15 => ?_) (fun c15 => ?_)
    · exact r_vret (pc := 269) dX12_spread_269 rfl (hPo _ _ _ ⟨rfl, bs11, wy11, ht11, rfl, (by (have h8 : spP (Int.toNat (mn (Int.toNat x1))) (dr (Int.toNat x1)) (sh fr (60 * x1)) (sh tt (60 * x1)) (sh wt (60 * x1)) x2 j5.toInt (Int.toNat x3) (sz (Int.toNat x1)) _ _ v11_8 0 := (by assumption); rw [show v11_8 = x4 + 1 by omega] at h8; exact h8))⟩)
    · refine r_iconst (pc := 18) (v := iv 0) dX12_spread_18 (by decide) ?_
      refine r_istore (pc := 19) (lv' := [(9, .int (iv 0)), (0, .ref y), (1, .int (iv x1)), (2, .int (iv x2)), (3, .int (iv x3)), (4, .int (iv x4)), (5, .long j5), (7, .int (iv (sz (Int.toNat x1)))), (8, .int (iv v11_8))]) dX12_spread_19 (by decide) rfl ?_
      have B21 : ∀ k : Nat, ∀ bs21 : Nat → Int64, ∀ wy21 : Nat → Int64, ∀ hp21 : MH, Tw (RX Γ cI cJ cZ y rf cn nm so sz dr mn fr tt wt co nu sa wo ln hw ro qi qc nf nt nw nc cl nx ie be sd bl bs21 wy21 ra rb lb bg os js ls sp jw go de yb ah im) hp21 → ∀  (v21_9 : Int), 0 ≤ v21_9 ∧ v21_9 ≤ 16 ∧ (v21_9 ≤ (sz (Int.toNat x1))) ∧ (spP (Int.toNat (mn (Int.toNat x1))) (dr (Int.toNat x1)) (sh fr (60 * x1)) (sh tt (60 * x1)) (sh wt (60 * x1)) x2 j5.toInt (Int.toNat x3) (sz (Int.toNat x1)) bs21 wy21 v11_8 v21_9) → 16 - v21_9 ≤ (k : Int) → Rn (gG D cI cJ cZ cT lo b L xs) mX12_spread d 21 [(0, .ref y), (1, .int (iv x1)), (2, .int (iv x2)), (3, .int (iv x3)), (4, .int (iv x4)), (5, .long j5), (7, .int (iv (sz (Int.toNat x1)))), (8, .int (iv v11_8)), (9, .int (iv v21_9))] [] hp21 n 0 0 Po9 := by
        refine lpS _ ?_
        intro k21 ih21 bs21 wy21 hp21 ht21 v21_9 hf21 hm21
        obtain ⟨hf21_0, hf21_1, hf21_2, ha21_3⟩ := hf21
        refine r_iload (pc := 21) dX12_spread_21 rfl ?_
        refine r_iload (pc := 23) dX12_spread_23 rfl ?_
        refine t_icmp_ge (pc := 25) (tgt := 263) dX12_spread_25 (by decide) (by omega) (by omega) (fun c25 => ?_) (fun c25 => ?_)
        · refine r_iinc (pc := 263) (v := iv (v11_8 + 1)) (lv' := [(8, .int (iv (v11_8 + 1))), (0, .ref y), (1, .int (iv x1)), (2, .int (iv x2)), (3, .int (iv x3)), (4, .int (iv x4)), (5, .long j5), (7, .int (iv (sz (Int.toNat x1)))), (9, .int (iv v21_9))]) dX12_spread_263 rfl (iv_add _ _) (by decide) rfl ?_
          refine r_goto (pc := 266) (tgt := 11) dX12_spread_266 (by decide) ?_
          refine Rn.pick (lv' := [(0, .ref y), (1, .int (iv x1)), (2, .int (iv x2)), (3, .int (iv x3)), (4, .int (iv x4)), (5, .long j5), (7, .int (iv (sz (Int.toNat x1)))), (8, .int (iv (v11_8 + 1)))]) [1, 2, 3, 4, 5, 6, 7, 0] rfl ?_
          exact ih11 (Int.toNat (17 - (v11_8 + 1))) (by omega) bs21 wy21 _ ht21 (v11_8 + 1) ⟨by omega, by omega, by omega, by (first | exact sp_0 | exact sp_row (by assumption) (by omega))⟩ (by omega)
        · refine r_iload (pc := 28) dX12_spread_28 rfl ?_
          have B46 : ∀ hp46 : MH, Tw (RX Γ cI cJ cZ y rf cn nm so sz dr mn fr tt wt co nu sa wo ln hw ro qi qc nf nt nw nc cl nx ie be sd bl bs21 wy21 ra rb lb bg os js ls sp jw go de yb ah im) hp46 → ∀  (x46_0 : Int64), (inB v11_8 v21_9 (Int.toNat x3) x46_0) → Rn (gG D cI cJ cZ cT lo b L xs) mX12_spread d 46 [(0, .ref y), (1, .int (iv x1)), (2, .int (iv x2)), (3, .int (iv x3)), (4, .int (iv x4)), (5, .long j5), (7, .int (iv (sz (Int.toNat x1)))), (8, .int (iv v11_8)), (9, .int (iv v21_9))] [.long x46_0] hp46 n 0 0 Po9 := by
            intro hp46 ht46 x46_0 hf46
            have ha46_0 := hf46
            refine r_lstore (pc := 46) (lv' := [(10, .long x46_0), (0, .ref y), (1, .int (iv x1)), (2, .int (iv x2)), (3, .int (iv x3)), (4, .int (iv x4)), (5, .long j5), (7, .int (iv (sz (Int.toNat x1)))), (8, .int (iv v11_8)), (9, .int (iv v21_9))]) dX12_spread_46 (by decide) rfl ?_
            refine r_iload (pc := 48) dX12_spread_48 rfl ?_
            have B64 : ∀ hp64 : MH, Tw (RX Γ cI cJ cZ y rf cn nm so sz dr mn fr tt wt co nu sa wo ln hw ro qi qc nf nt nw nc cl nx ie be sd bl bs21 wy21 ra rb lb bg os js ls sp jw go de yb ah im) hp64 → ∀  (x64_0 : Int64), (inW v11_8 v21_9 (Int.toNat x3) x64_0) → Rn (gG D cI cJ cZ cT lo b L xs) mX12_spread d 64 [(0, .ref y), (1, .int (iv x1)), (2, .int (iv x2)), (3, .int (iv x3)), (4, .int (iv x4)), (5, .long j5), (7, .int (iv (sz (Int.toNat x1)))), (8, .int (iv v11_8)), (9, .int (iv v21_9)), (10, .long x46_0)] [.long x64_0] hp64 n 0 0 Po9 := by
              intro hp64 ht64 x64_0 hf64
              have ha64_0 := hf64
              refine r_lstore (pc := 64) (lv' := [(12, .long x64_0), (0, .ref y), (1, .int (iv x1)), (2, .int (iv x2)), (3, .int (iv x3)), (4, .int (iv x4)), (5, .long j5), (7, .int (iv (sz (Int.toNat x1)))), (8, .int (iv v11_8)), (9, .int (iv v21_9)), (10, .long x46_0)]) dX12_spread_64 (by decide) rfl ?_
              refine r_iconst (pc := 66) (v := iv 0) dX12_spread_66 (by decide) ?_
              refine r_istore (pc := 67) (lv' := [(14, .int (iv 0)), (12, .long x64_0), (0, .ref y), (1, .int (iv x1)), (2, .int (iv x2)), (3, .int (iv x3)), (4, .int (iv x4)), (5, .long j5), (7, .int (iv (sz (Int.toNat x1)))), (8, .int (iv v11_8)), (9, .int (iv v21_9)), (10, .long x46_0)]) dX12_spread_67 (by decide) rfl ?_
              have B69 : ∀ k : Nat, ∀ hp69 : MH, Tw (RX Γ cI cJ cZ y rf cn nm so sz dr mn fr tt wt co nu sa wo ln hw ro qi qc nf nt nw nc cl nx ie be sd bl bs21 wy21 ra rb lb bg os js ls sp jw go de yb ah im) hp69 → ∀  (v69_14 : Int) (w69_10 : Int64) (w69_12 : Int64), 0 ≤ v69_14 ∧ v69_14 ≤ 60 ∧ (v69_14 ≤ (mn (Int.toNat x1))) ∧ (dpR (Int.toNat (mn (Int.toNat x1))) (dr (Int.toNat x1)) (sh fr (60 * x1)) (sh tt (60 * x1)) (sh wt (60 * x1)) x2 j5.toInt (Int.toNat x3) v11_8 v21_9 (Int.toNat v69_14) w69_10 w69_12) → 60 - v69_14 ≤ (k : Int) → Rn (gG D cI cJ cZ cT lo b L xs) mX12_spread d 69 [(0, .ref y), (1, .int (iv x1)), (2, .int (iv x2)), (3, .int (iv x3)), (4, .int (iv x4)), (5, .long j5), (7, .int (iv (sz (Int.toNat x1)))), (8, .int (iv v11_8)), (9, .int (iv v21_9)), (10, .long w69_10), (12, .long w69_12), (14, .int (iv v69_14))] [] hp69 n 0 0 Po9 := by
                refine lpS _ ?_
                intro k69 ih69 hp69 ht69 v69_14 w69_10 w69_12 hf69 hm69
                obtain ⟨hf69_0, hf69_1, hf69_2, ha69_3⟩ := hf69
                refine r_iload (pc := 69) dX12_spread_69 rfl ?_
                refine r_aload_n (pc := 71) dX12_spread_71 (i := 0) rfl rfl ?_
                refine t_getE (pc := 72) (.ref (y + 4)) ht69 (rd_of RX_y) fX12_20 dX12_spread_72 rfl ?_
                refine r_iload_n (pc := 75) dX12_spread_75 (i := 1) rfl rfl ?_
                refine t_ialdX (pc := 76) (t0 := 0) ht69 (rd_of RX_many) dX12_spread_76 rfl (by decide) (by omega) (fun b2 => ?_)
                have rb2 := (show Rfx 121 0 60 mn by assumption) (Int.toNat x1) (by omega)
                have B227 : ∀ hp227 : MH, Tw (RX Γ cI cJ cZ y rf cn nm so sz dr mn fr tt wt co nu sa wo ln hw ro qi qc nf nt nw nc cl nx ie be sd bl bs21 wy21 ra rb lb bg os js ls sp jw go de yb ah im) hp227 → (v11_8 = 0 ∨ v69_14 = (mn (Int.toNat x1))) → Rn (gG D cI cJ cZ cT lo b L xs) mX12_spread d 227 [(0, .ref y), (1, .int (iv x1)), (2, .int (iv x2)), (3, .int (iv x3)), (4, .int (iv x4)), (5, .long j5), (7, .int (iv (sz (Int.toNat x1)))), (8, .int (iv v11_8)), (9, .int (iv v21_9)), (10, .long w69_10), (12, .long w69_12)] [] hp227 n 0 0 Po9 := by
                  intro hp227 ht227 hf227
                  refine r_aload_n (pc := 227) dX12_spread_227 (i := 0) rfl rfl ?_
                  refine t_getE (pc := 228) (.ref (y + 27)) ht227 (rd_of RX_y) fX12_91 dX12_spread_228 rfl ?_
                  refine r_bipush (pc := 231) (v := iv 16) dX12_spread_231 (by decide) ?_
                  refine r_iload (pc := 233) dX12_spread_233 rfl ?_
                  refine r_imul (pc := 235) (v := iv (16 * v11_8)) dX12_spread_235 (iv_mul _ _) ?_
                  refine r_iload (pc := 236) dX12_spread_236 rfl ?_
                  refine r_iadd (pc := 238) (v := iv ((16 * v11_8) + v21_9)) dX12_spread_238 (iv_add _ _) ?_
                  refine r_lload (pc := 239) dX12_spread_239 rfl ?_
                  refine t_lastX (pc := 241) (t0 := 1) ht227 RX_best dX12_spread_241 rfl (by decide) (by omega) (fun hp3 ht4 => ?_)
                  have ht5 := RXw_bs ht4
                  refine r_aload_n (pc := 242) dX12_spread_242 (i := 0) rfl rfl ?_
                  refine t_getE (pc := 243) (.ref (y + 28)) ht5 (rd_of RX_y) fX12_94 dX12_spread_243 rfl ?_
                  refine r_bipush (pc := 246) (v := iv 16) dX12_spread_246 (by decide) ?_
                  refine r_iload (pc := 248) dX12_spread_248 rfl ?_
                  refine r_imul (pc := 250) (v := iv (16 * v11_8)) dX12_spread_250 (iv_mul _ _) ?_
                  refine r_iload (pc := 251) dX12_spread_251 rfl ?_
                  refine r_iadd (pc := 253) (v := iv ((16 * v11_8) + v21_9)) dX12_spread_253 (iv_add _ _) ?_
                  refine r_lload (pc := 254) dX12_spread_254 rfl ?_
                  refine t_lastX (pc := 256) (t0 := 1) ht5 RX_ways1 dX12_spread_256 rfl (by decide) (by omega) (fun hp6 ht7 => ?_)
                  have ht8 := RXw_wy ht7
                  refine r_iinc (pc := 257) (v := iv (v21_9 + 1)) (lv' := [(9, .int (iv (v21_9 + 1))), (0, .ref y), (1, .int (iv x1)), (2, .int (iv x2)), (3, .int (iv x3)), (4, .int (iv x4)), (5, .long j5), (7, .int (iv (sz (Int.toNat x1)))), (8, .int (iv v11_8)), (10, .long w69_10), (12, .long w69_12)]) dX12_spread_257 rfl (iv_add _ _) (by decide) rfl ?_
                  refine r_goto (pc := 260) (tgt := 21) dX12_spread_260 (by decide) ?_
                  refine Rn.pick (lv' := [(0, .ref y), (1, .int (iv x1)), (2, .int (iv x2)), (3, .int (iv x3)), (4, .int (iv x4)), (5, .long j5), (7, .int (iv (sz (Int.toNat x1)))), (8, .int (iv v11_8)), (9, .int (iv (v21_9 + 1)))]) [1, 2, 3, 4, 5, 6, 7, 8, 0] rfl ?_
                  exact ih21 (Int.toNat (16 - (v21_9 + 1))) (by omega) (fuj bs21 (Int.toNat ((16 * v11_8) + v21_9)) w69_10) (fuj wy21 (Int.toNat ((16 * v11_8) + v21_9)) w69_12) _ ht8 (v21_9 + 1) ⟨by omega, by omega, by omega, by (first | assumption | exact sp_up (by assumption) (by omega) (by omega) (by omega) (by omega) (dr_end (by assumption) (by omega) (by omega) (by omega)))⟩ (by omega)
                refine t_icmp_ge (pc := 77) (tgt := 227) dX12_spread_77 (by decide) (by omega) (by omega) (fun c77 => ?_) (fun c77 => ?_)
                · refine Rn.pick (lv' := [(0, .ref y), (1, .int (iv x1)), (2, .int (iv x2)), (3, .int (iv x3)), (4, .int (iv x4)), (5, .long j5), (7, .int (iv (sz (Int.toNat x1)))), (8, .int (iv v11_8)), (9, .int (iv v21_9)), (10, .long w69_10), (12, .long w69_12)]) [0, 1, 2, 3, 4, 5, 6, 7, 8, 9, 10] rfl ?_
                  exact B227 _ ht69 (by omega)
                · refine r_iload (pc := 80) dX12_spread_80 rfl ?_
                  refine t_if_le (pc := 82) (tgt := 227) dX12_spread_82 (by decide) (by omega) (fun c82 => ?_) (fun c82 => ?_)
                  · refine Rn.pick (lv' := [(0, .ref y), (1, .int (iv x1)), (2, .int (iv x2)), (3, .int (iv x3)), (4, .int (iv x4)), (5, .long j5), (7, .int (iv (sz (Int.toNat x1)))), (8, .int (iv v11_8)), (9, .int (iv v21_9)), (10, .long w69_10), (12, .long w69_12)]) [0, 1, 2, 3, 4, 5, 6, 7, 8, 9, 10] rfl ?_
                    exact B227 _ ht69 (by omega)
                  · refine r_aload_n (pc := 85) dX12_spread_85 (i := 0) rfl rfl ?_
                    refine r_iload_n (pc := 86) dX12_spread_86 (i := 1) rfl rfl ?_
                    refine r_iload (pc := 87) dX12_spread_87 rfl ?_
                    refine r_iload (pc := 89) dX12_spread_89 rfl ?_
                    obtain ⟨fs13, hfs13⟩ := t_obj ht69 (rd_of RX_y)
                    refine r_callV (pc := 91) (as := [.int (iv x1), .int (iv v69_14), .int (iv v21_9)]) (st := []) kX12_253 rfl dX12_spread_91 hfs13 (x_X12_into (d := d - 1) (x1 := x1) (x2 := v69_14) (x3 := v21_9) (by omega) (by assumption) (by assumption) (by assumption) ht69 (by omega) (by omega) (by omega) (fun _ _ _ h => h)) rfl (by omega) (Nat.le_of_ble_eq_true rfl) (Nat.zero_le _) (Nat.zero_le _) rfl (fun r10 hp9 n11 hq12 => ?_)
                    obtain ⟨hnn11, r9_15, ht14, hrr10, hhq120, hhq121⟩ := hq12
                    subst n11 r10
                    have hhq120 : r9_15 = inV fr tt dr x1 v69_14 v21_9 := hhq120
                    have hhq121 : (-1) ≤ r9_15 ∧ r9_15 ≤ 15 := hhq121
                    change Rn _ _ _ 94 _ [.int (iv r9_15)] _ _ _ _ _
                    have hit := itV_inV hhq120 (by omega)
                    refine r_istore (pc := 94) (lv' := [(15, .int (iv r9_15)), (0, .ref y), (1, .int (iv x1)), (2, .int (iv x2)), (3, .int (iv x3)), (4, .int (iv x4)), (5, .long j5), (7, .int (iv (sz (Int.toNat x1)))), (8, .int (iv v11_8)), (9, .int (iv v21_9)), (10, .long w69_10), (12, .long w69_12), (14, .int (iv v69_14))]) dX12_spread_94 (by decide) rfl ?_
                    refine r_iload (pc := 96) dX12_spread_96 rfl ?_
                    have B221 : ∀ hp221 : MH, Tw (RX Γ cI cJ cZ y rf cn nm so sz dr mn fr tt wt co nu sa wo ln hw ro qi qc nf nt nw nc cl nx ie be sd bl bs21 wy21 ra rb lb bg os js ls sp jw go de yb ah im) hp221 → ∀  (w221_10 : Int64) (w221_12 : Int64), (dpR (Int.toNat (mn (Int.toNat x1))) (dr (Int.toNat x1)) (sh fr (60 * x1)) (sh tt (60 * x1)) (sh wt (60 * x1)) x2 j5.toInt (Int.toNat x3) v11_8 v21_9 (Int.toNat (v69_14 + 1)) w221_10 w221_12) → Rn (gG D cI cJ cZ cT lo b L xs) mX12_spread d 221 [(0, .ref y), (1, .int (iv x1)), (2, .int (iv x2)), (3, .int (iv x3)), (4, .int (iv x4)), (5, .long j5), (7, .int (iv (sz (Int.toNat x1)))), (8, .int (iv v11_8)), (9, .int (iv v21_9)), (10, .long w221_10), (12, .long w221_12), (14, .int (iv v69_14))] [] hp221 n 0 0 Po9 := by
                      intro hp221 ht221 w221_10 w221_12 hf221
                      have ha221_0 := hf221
                      refine r_iinc (pc := 221) (v := iv (v69_14 + 1)) (lv' := [(14, .int (iv (v69_14 + 1))), (0, .ref y), (1, .int (iv x1)), (2, .int (iv x2)), (3, .int (iv x3)), (4, .int (iv x4)), (5, .long j5), (7, .int (iv (sz (Int.toNat x1)))), (8, .int (iv v11_8)), (9, .int (iv v21_9)), (10, .long w221_10), (12, .long w221_12)]) dX12_spread_221 rfl (iv_add _ _) (by decide) rfl ?_
                      refine r_goto (pc := 224) (tgt := 69) dX12_spread_224 (by decide) ?_
                      refine Rn.pick (lv' := [(0, .ref y), (1, .int (iv x1)), (2, .int (iv x2)), (3, .int (iv x3)), (4, .int (iv x4)), (5, .long j5), (7, .int (iv (sz (Int.toNat x1)))), (8, .int (iv v11_8)), (9, .int (iv v21_9)), (10, .long w221_10), (12, .long w221_12), (14, .int (iv (v69_14 + 1)))]) [1, 2, 3, 4, 5, 6, 7, 8, 9, 10, 11, 0] rfl ?_
                      exact ih69 (Int.toNat (60 - (v69_14 + 1))) (by omega) _ ht221 (v69_14 + 1) w221_10 w221_12 ⟨by omega, by omega, by omega, by (first | assumption | exact dr_0 (by assumption) (by assumption))⟩ (by omega)
                    refine t_if_lt (pc := 98) (tgt := 221) dX12_spread_98 (by decide) (by omega) (fun c98 => ?_) (fun c98 => ?_)
                    · refine Rn.pick (lv' := [(0, .ref y), (1, .int (iv x1)), (2, .int (iv x2)), (3, .int (iv x3)), (4, .int (iv x4)), (5, .long j5), (7, .int (iv (sz (Int.toNat x1)))), (8, .int (iv v11_8)), (9, .int (iv v21_9)), (10, .long w69_10), (12, .long w69_12), (14, .int (iv v69_14))]) [1, 2, 3, 4, 5, 6, 7, 8, 9, 10, 11, 12] rfl ?_
                      exact B221 _ ht14 w69_10 w69_12 (by (first | (exfalso; omega) | exact dr_lt (by assumption) (by omega) (by omega) hus hit hxx (by omega) hbk.2 | exact dr_eq (by assumption) (by omega) (by omega) hus hit hxx (by omega) hbk.2 | exact dr_gt (by assumption) (by omega) (by omega) hit hxx (by omega) | exact dr_no (by assumption) (by omega) (by omega) (fun h9 => by have h8 := h9.1; rw [← hit] at h8; omega) | exact dr_no (by assumption) (by omega) (by omega) (fun h9 => hng h9.2.1) | exact dr_no (by assumption) (by omega) (by omega) (fun h9 => by have h8 := h9.2.2; rw [← hit] at h8; omega)))
                    · refine r_aload_n (pc := 101) dX12_spread_101 (i := 0) rfl rfl ?_
                      refine r_iload_n (pc := 102) dX12_spread_102 (i := 1) rfl rfl ?_
                      refine r_iload (pc := 103) dX12_spread_103 rfl ?_
                      refine r_iload_n (pc := 105) dX12_spread_105 (i := 2) rfl rfl ?_
                      refine r_lload (pc := 106) dX12_spread_106 rfl ?_
                      obtain ⟨fs20, hfs20⟩ := t_obj ht14 (rd_of RX_y)
                      refine r_callV (pc := 108) (as := [.int (iv x1), .int (iv v69_14), .int (iv x2), .long j5]) (st := []) kX12_256 rfl dX12_spread_108 hfs20 (x_X12_goes (d := d - 1) (x1 := x1) (x2 := v69_14) (x3 := x2) (j4 := j5) (by omega) (by assumption) ht14 (by omega) (by omega) (by omega) (fun _ _ _ h => h)) rfl (by omega) (Nat.le_of_ble_eq_true rfl) (Nat.zero_le _) (Nat.zero_le _) rfl (fun r17 hp16 n18 hq19 => ?_)
                      obtain ⟨hnn18, r9_22, ht21, hrr17, hhq190, hhq191⟩ := hq19
                      subst n18 r17
                      have hhq190 : 0 ≤ r9_22 ∧ r9_22 ≤ 1 := hhq190
                      have hhq191 : (r9_22 = 1 ∧ okA x2 j5.toInt (sh wt (60 * x1)) (Int.toNat v69_14)) ∨ (r9_22 = 0 ∧ ¬ okA x2 j5.toInt (sh wt (60 * x1)) (Int.toNat v69_14)) := hhq191
                      change Rn _ _ _ 111 _ [.int (iv r9_22)] _ _ _ _ _
                      refine t_if_eq (pc := 111) (tgt := 221) dX12_spread_111 (by decide) (by omega) (fun c111 => ?_) (fun c111 => ?_)
                      · have hng := (Or.resolve_left hhq191 (by omega)).2
                        clear hhq191
                        refine Rn.pick (lv' := [(0, .ref y), (1, .int (iv x1)), (2, .int (iv x2)), (3, .int (iv x3)), (4, .int (iv x4)), (5, .long j5), (7, .int (iv (sz (Int.toNat x1)))), (8, .int (iv v11_8)), (9, .int (iv v21_9)), (10, .long w69_10), (12, .long w69_12), (14, .int (iv v69_14))]) [1, 2, 3, 4, 5, 6, 7, 8, 9, 10, 11, 12] rfl ?_
                        exact B221 _ ht21 w69_10 w69_12 (by (first | (exfalso; omega) | exact dr_lt (by assumption) (by omega) (by omega) hus hit hxx (by omega) hbk.2 | exact dr_eq (by assumption) (by omega) (by omega) hus hit hxx (by omega) hbk.2 | exact dr_gt (by assumption) (by omega) (by omega) hit hxx (by omega) | exact dr_no (by assumption) (by omega) (by omega) (fun h9 => by have h8 := h9.1; rw [← hit] at h8; omega) | exact dr_no (by assumption) (by omega) (by omega) (fun h9 => hng h9.2.1) | exact dr_no (by assumption) (by omega) (by omega) (fun h9 => by have h8 := h9.2.2; rw [← hit] at h8; omega)))
                      · have hgo := (Or.resolve_right hhq191 (by omega)).2
                        clear hhq191
                        refine r_aload_n (pc := 114) dX12_spread_114 (i := 0) rfl rfl ?_
                        refine t_getE (pc := 115) (.ref (y + 27)) ht21 (rd_of RX_y) fX12_91 dX12_spread_115 rfl ?_
                        refine r_bipush (pc := 118) (v := iv 16) dX12_spread_118 (by decide) ?_
                        refine r_iload (pc := 120) dX12_spread_120 rfl ?_
                        refine r_iconst (pc := 122) (v := iv 1) dX12_spread_122 (by decide) ?_
                        refine r_isub (pc := 123) (v := iv (v11_8 - 1)) dX12_spread_123 (iv_sub _ _) ?_
                        refine r_imul (pc := 124) (v := iv (16 * (v11_8 - 1))) dX12_spread_124 (iv_mul _ _) ?_
                        refine r_iload (pc := 125) dX12_spread_125 rfl ?_
                        refine r_iadd (pc := 127) (v := iv ((16 * (v11_8 - 1)) + r9_15)) dX12_spread_127 (iv_add _ _) ?_
                        refine t_laldX (pc := 128) (t0 := 1) ht21 (rd_of RX_best) dX12_spread_128 rfl (by decide) (by omega) ?_
                        have hun : r9_15 < (sz (Int.toNat x1)) := by have h9 := hFT (Int.toNat v69_14) (by omega); rw [hit]; unfold itV; split <;> first | omega | (split <;> omega)
                        have hbk := sp_at (k := v11_8 - 1) (u := r9_15) (by assumption : spP (Int.toNat (mn (Int.toNat x1))) (dr (Int.toNat x1)) (sh fr (60 * x1)) (sh tt (60 * x1)) (sh wt (60 * x1)) x2 j5.toInt (Int.toNat x3) (sz (Int.toNat x1)) bs21 wy21 v11_8 v21_9) (by omega) (by omega)
                        have hbk1 := hbk.1
                        have hbb := bT_bd (m := (Int.toNat (mn (Int.toNat x1)))) (d := (dr (Int.toNat x1))) (F := (sh fr (60 * x1))) (T := (sh tt (60 * x1))) (W := (sh wt (60 * x1))) (kind := x2) (bd := j5.toInt) (s := Int.toNat x3) hW9 (Int.toNat (v11_8 - 1)) (Int.toNat r9_15)
                        refine r_ldc2 (pc := 129) (v := 1000000000000) dX12_spread_129 kX12_251 ?_
                        have hk129 : (1000000000000 : Int64).toInt = 1000000000000 := by decide
                        refine r_lcmp (pc := 132) dX12_spread_132 ?_
                        refine t_lif_ge (pc := 133) (tgt := 221) dX12_spread_133 (by decide) (fun c133 => ?_) (fun c133 => ?_)
                        · refine Rn.pick (lv' := [(0, .ref y), (1, .int (iv x1)), (2, .int (iv x2)), (3, .int (iv x3)), (4, .int (iv x4)), (5, .long j5), (7, .int (iv (sz (Int.toNat x1)))), (8, .int (iv v11_8)), (9, .int (iv v21_9)), (10, .long w69_10), (12, .long w69_12), (14, .int (iv v69_14))]) [1, 2, 3, 4, 5, 6, 7, 8, 9, 10, 11, 12] rfl ?_
                          exact B221 _ ht21 w69_10 w69_12 (by (first | (exfalso; omega) | exact dr_lt (by assumption) (by omega) (by omega) hus hit hxx (by omega) hbk.2 | exact dr_eq (by assumption) (by omega) (by omega) hus hit hxx (by omega) hbk.2 | exact dr_gt (by assumption) (by omega) (by omega) hit hxx (by omega) | exact dr_no (by assumption) (by omega) (by omega) (fun h9 => by have h8 := h9.1; rw [← hit] at h8; omega) | exact dr_no (by assumption) (by omega) (by omega) (fun h9 => hng h9.2.1) | exact dr_no (by assumption) (by omega) (by omega) (fun h9 => by have h8 := h9.2.2; rw [← hit] at h8; omega)))
                        · have hus : usA (dr (Int.toNat x1)) (sh fr (60 * x1)) (sh tt (60 * x1)) (sh wt (60 * x1)) x2 j5.toInt (bT (Int.toNat (mn (Int.toNat x1))) (dr (Int.toNat x1)) (sh fr (60 * x1)) (sh tt (60 * x1)) (sh wt (60 * x1)) x2 j5.toInt (Int.toNat x3) (Int.toNat (v11_8 - 1))) v21_9 (Int.toNat v69_14) := ⟨by rw [← hit]; omega, hgo, by rw [← hit]; omega⟩
                          refine r_aload_n (pc := 136) dX12_spread_136 (i := 0) rfl rfl ?_
                          refine t_getE (pc := 137) (.ref (y + 27)) ht21 (rd_of RX_y) fX12_91 dX12_spread_137 rfl ?_
                          refine r_bipush (pc := 140) (v := iv 16) dX12_spread_140 (by decide) ?_
                          refine r_iload (pc := 142) dX12_spread_142 rfl ?_
                          refine r_iconst (pc := 144) (v := iv 1) dX12_spread_144 (by decide) ?_
                          refine r_isub (pc := 145) (v := iv (v11_8 - 1)) dX12_spread_145 (iv_sub _ _) ?_
                          refine r_imul (pc := 146) (v := iv (16 * (v11_8 - 1))) dX12_spread_146 (iv_mul _ _) ?_
                          refine r_iload (pc := 147) dX12_spread_147 rfl ?_
                          refine r_iadd (pc := 149) (v := iv ((16 * (v11_8 - 1)) + r9_15)) dX12_spread_149 (iv_add _ _) ?_
                          refine t_laldX (pc := 150) (t0 := 1) ht21 (rd_of RX_best) dX12_spread_150 rfl (by decide) (by omega) ?_
                          refine r_iload_n (pc := 151) dX12_spread_151 (i := 2) rfl rfl ?_
                          have B170 : ∀ hp170 : MH, Tw (RX Γ cI cJ cZ y rf cn nm so sz dr mn fr tt wt co nu sa wo ln hw ro qi qc nf nt nw nc cl nx ie be sd bl bs21 wy21 ra rb lb bg os js ls sp jw go de yb ah im) hp170 → ∀  (u170_1 : Int), (-1000) ≤ u170_1 ∧ u170_1 ≤ 1000 ∧ (-1000 ≤ u170_1) ∧ (u170_1 ≤ 1000) ∧ (u170_1 = prA x2 (sh wt (60 * x1)) (Int.toNat v69_14)) → Rn (gG D cI cJ cZ cT lo b L xs) mX12_spread d 170 [(0, .ref y), (1, .int (iv x1)), (2, .int (iv x2)), (3, .int (iv x3)), (4, .int (iv x4)), (5, .long j5), (7, .int (iv (sz (Int.toNat x1)))), (8, .int (iv v11_8)), (9, .int (iv v21_9)), (10, .long w69_10), (12, .long w69_12), (14, .int (iv v69_14)), (15, .int (iv r9_15))] [.int (iv u170_1), .long (bs21 (Int.toNat ((16 * (v11_8 - 1)) + r9_15)))] hp170 n 0 0 Po9 := by
                            intro hp170 ht170 u170_1 hf170
                            obtain ⟨hf170_0, hf170_1, hf170_2, hf170_3, ha170_4⟩ := hf170
                            refine r_i2l (pc := 170) (v := (iv u170_1).toInt64) dX12_spread_170 rfl ?_
                            refine r_ladd (pc := 171) (v := (bs21 (Int.toNat ((16 * (v11_8 - 1)) + r9_15))) + ((iv u170_1).toInt64)) dX12_spread_171 rfl ?_
                            refine r_lstore (pc := 172) (lv' := [(16, .long ((bs21 (Int.toNat ((16 * (v11_8 - 1)) + r9_15))) + ((iv u170_1).toInt64))), (0, .ref y), (1, .int (iv x1)), (2, .int (iv x2)), (3, .int (iv x3)), (4, .int (iv x4)), (5, .long j5), (7, .int (iv (sz (Int.toNat x1)))), (8, .int (iv v11_8)), (9, .int (iv v21_9)), (10, .long w69_10), (12, .long w69_12), (14, .int (iv v69_14)), (15, .int (iv r9_15))]) dX12_spread_172 (by decide) rfl ?_
                            have hxx : ((bs21 (Int.toNat ((16 * (v11_8 - 1)) + r9_15))) + ((iv u170_1).toInt64)).toInt = bT (Int.toNat (mn (Int.toNat x1))) (dr (Int.toNat x1)) (sh fr (60 * x1)) (sh tt (60 * x1)) (sh wt (60 * x1)) x2 j5.toInt (Int.toNat x3) (Int.toNat (v11_8 - 1)) (Int.toNat r9_15) + prA x2 (sh wt (60 * x1)) (Int.toNat v69_14) := by
                              have e9 := iv_long (x := u170_1) (by omega)
                              have e8 := ha170_4
                              rw [l_add (by omega)]; omega
                            refine r_lload (pc := 174) dX12_spread_174 rfl ?_
                            refine r_lload (pc := 176) dX12_spread_176 rfl ?_
                            refine r_lcmp (pc := 178) dX12_spread_178 ?_
                            refine t_lif_ge (pc := 179) (tgt := 189) dX12_spread_179 (by decide) (fun c179 => ?_) (fun c179 => ?_)
                            · refine r_lload (pc := 189) dX12_spread_189 rfl ?_
                              refine r_lload (pc := 191) dX12_spread_191 rfl ?_
                              refine r_lload (pc := 193) dX12_spread_193 rfl ?_
                              refine r_lcmp (pc := 195) dX12_spread_195 ?_
                              refine t_lif_ne (pc := 196) (tgt := 217) dX12_spread_196 (by decide) (fun c196 => ?_) (fun c196 => ?_)
                              · refine r_lconst (pc := 217) (v := 0) dX12_spread_217 (by decide) ?_
                                have hk217 : (0 : Int64).toInt = 0 := by decide
                                refine r_ladd (pc := 218) (v := w69_12 + (0 : Int64)) dX12_spread_218 rfl ?_
                                refine r_lstore (pc := 219) (lv' := [(12, .long (w69_12 + (0 : Int64))), (16, .long ((bs21 (Int.toNat ((16 * (v11_8 - 1)) + r9_15))) + ((iv u170_1).toInt64))), (0, .ref y), (1, .int (iv x1)), (2, .int (iv x2)), (3, .int (iv x3)), (4, .int (iv x4)), (5, .long j5), (7, .int (iv (sz (Int.toNat x1)))), (8, .int (iv v11_8)), (9, .int (iv v21_9)), (10, .long w69_10), (14, .int (iv v69_14)), (15, .int (iv r9_15))]) dX12_spread_219 (by decide) rfl ?_
                                refine Rn.pick (lv' := [(0, .ref y), (1, .int (iv x1)), (2, .int (iv x2)), (3, .int (iv x3)), (4, .int (iv x4)), (5, .long j5), (7, .int (iv (sz (Int.toNat x1)))), (8, .int (iv v11_8)), (9, .int (iv v21_9)), (10, .long w69_10), (12, .long (w69_12 + (0 : Int64))), (14, .int (iv v69_14))]) [2, 3, 4, 5, 6, 7, 8, 9, 10, 11, 0, 12] rfl ?_
                                exact B221 _ ht170 w69_10 (w69_12 + (0 : Int64)) (by (first | (exfalso; omega) | exact dr_lt (by assumption) (by omega) (by omega) hus hit hxx (by omega) hbk.2 | exact dr_eq (by assumption) (by omega) (by omega) hus hit hxx (by omega) hbk.2 | exact dr_gt (by assumption) (by omega) (by omega) hit hxx (by omega) | exact dr_no (by assumption) (by omega) (by omega) (fun h9 => by have h8 := h9.1; rw [← hit] at h8; omega) | exact dr_no (by assumption) (by omega) (by omega) (fun h9 => hng h9.2.1) | exact dr_no (by assumption) (by omega) (by omega) (fun h9 => by have h8 := h9.2.2; rw [← hit] at h8; omega)))
                              · refine r_aload_n (pc := 199) dX12_spread_199 (i := 0) rfl rfl ?_
                                refine t_getE (pc := 200) (.ref (y + 28)) ht170 (rd_of RX_y) fX12_94 dX12_spread_200 rfl ?_
                                refine r_bipush (pc := 203) (v := iv 16) dX12_spread_203 (by decide) ?_
                                refine r_iload (pc := 205) dX12_spread_205 rfl ?_
                                refine r_iconst (pc := 207) (v := iv 1) dX12_spread_207 (by decide) ?_
                                refine r_isub (pc := 208) (v := iv (v11_8 - 1)) dX12_spread_208 (iv_sub _ _) ?_
                                refine r_imul (pc := 209) (v := iv (16 * (v11_8 - 1))) dX12_spread_209 (iv_mul _ _) ?_
                                refine r_iload (pc := 210) dX12_spread_210 rfl ?_
                                refine r_iadd (pc := 212) (v := iv ((16 * (v11_8 - 1)) + r9_15)) dX12_spread_212 (iv_add _ _) ?_
                                refine t_laldX (pc := 213) (t0 := 1) ht170 (rd_of RX_ways1) dX12_spread_213 rfl (by decide) (by omega) ?_
                                refine r_goto (pc := 214) (tgt := 218) dX12_spread_214 (by decide) ?_
                                refine r_ladd (pc := 218) (v := w69_12 + (wy21 (Int.toNat ((16 * (v11_8 - 1)) + r9_15)))) dX12_spread_218 rfl ?_
                                refine r_lstore (pc := 219) (lv' := [(12, .long (w69_12 + (wy21 (Int.toNat ((16 * (v11_8 - 1)) + r9_15))))), (16, .long ((bs21 (Int.toNat ((16 * (v11_8 - 1)) + r9_15))) + ((iv u170_1).toInt64))), (0, .ref y), (1, .int (iv x1)), (2, .int (iv x2)), (3, .int (iv x3)), (4, .int (iv x4)), (5, .long j5), (7, .int (iv (sz (Int.toNat x1)))), (8, .int (iv v11_8)), (9, .int (iv v21_9)), (10, .long w69_10), (14, .int (iv v69_14)), (15, .int (iv r9_15))]) dX12_spread_219 (by decide) rfl ?_
                                refine Rn.pick (lv' := [(0, .ref y), (1, .int (iv x1)), (2, .int (iv x2)), (3, .int (iv x3)), (4, .int (iv x4)), (5, .long j5), (7, .int (iv (sz (Int.toNat x1)))), (8, .int (iv v11_8)), (9, .int (iv v21_9)), (10, .long w69_10), (12, .long (w69_12 + (wy21 (Int.toNat ((16 * (v11_8 - 1)) + r9_15))))), (14, .int (iv v69_14))]) [2, 3, 4, 5, 6, 7, 8, 9, 10, 11, 0, 12] rfl ?_
                                exact B221 _ ht170 w69_10 (w69_12 + (wy21 (Int.toNat ((16 * (v11_8 - 1)) + r9_15)))) (by (first | (exfalso; omega) | exact dr_lt (by assumption) (by omega) (by omega) hus hit hxx (by omega) hbk.2 | exact dr_eq (by assumption) (by omega) (by omega) hus hit hxx (by omega) hbk.2 | exact dr_gt (by assumption) (by omega) (by omega) hit hxx (by omega) | exact dr_no (by assumption) (by omega) (by omega) (fun h9 => by have h8 := h9.1; rw [← hit] at h8; omega) | exact dr_no (by assumption) (by omega) (by omega) (fun h9 => hng h9.2.1) | exact dr_no (by assumption) (by omega) (by omega) (fun h9 => by have h8 := h9.2.2; rw [← hit] at h8; omega)))
                            · refine r_lload (pc := 182) dX12_spread_182 rfl ?_
                              refine r_lstore (pc := 184) (lv' := [(10, .long ((bs21 (Int.toNat ((16 * (v11_8 - 1)) + r9_15))) + ((iv u170_1).toInt64))), (16, .long ((bs21 (Int.toNat ((16 * (v11_8 - 1)) + r9_15))) + ((iv u170_1).toInt64))), (0, .ref y), (1, .int (iv x1)), (2, .int (iv x2)), (3, .int (iv x3)), (4, .int (iv x4)), (5, .long j5), (7, .int (iv (sz (Int.toNat x1)))), (8, .int (iv v11_8)), (9, .int (iv v21_9)), (12, .long w69_12), (14, .int (iv v69_14)), (15, .int (iv r9_15))]) dX12_spread_184 (by decide) rfl ?_
                              refine r_lconst (pc := 186) (v := 0) dX12_spread_186 (by decide) ?_
                              have hk186 : (0 : Int64).toInt = 0 := by decide
                              refine r_lstore (pc := 187) (lv' := [(12, .long (0 : Int64)), (10, .long ((bs21 (Int.toNat ((16 * (v11_8 - 1)) + r9_15))) + ((iv u170_1).toInt64))), (16, .long ((bs21 (Int.toNat ((16 * (v11_8 - 1)) + r9_15))) + ((iv u170_1).toInt64))), (0, .ref y), (1, .int (iv x1)), (2, .int (iv x2)), (3, .int (iv x3)), (4, .int (iv x4)), (5, .long j5), (7, .int (iv (sz (Int.toNat x1)))), (8, .int (iv v11_8)), (9, .int (iv v21_9)), (14, .int (iv v69_14)), (15, .int (iv r9_15))]) dX12_spread_187 (by decide) rfl ?_
                              refine r_lload (pc := 189) dX12_spread_189 rfl ?_
                              refine r_lload (pc := 191) dX12_spread_191 rfl ?_
                              refine r_lload (pc := 193) dX12_spread_193 rfl ?_
                              refine r_lcmp (pc := 195) dX12_spread_195 ?_
                              refine t_lif_ne (pc := 196) (tgt := 217) dX12_spread_196 (by decide) (fun c196 => ?_) (fun c196 => ?_)
                              · refine r_lconst (pc := 217) (v := 0) dX12_spread_217 (by decide) ?_
                                have hk217 : (0 : Int64).toInt = 0 := by decide
                                refine r_ladd (pc := 218) (v := (0 : Int64) + (0 : Int64)) dX12_spread_218 rfl ?_
                                refine r_lstore (pc := 219) (lv' := [(12, .long ((0 : Int64) + (0 : Int64))), (10, .long ((bs21 (Int.toNat ((16 * (v11_8 - 1)) + r9_15))) + ((iv u170_1).toInt64))), (16, .long ((bs21 (Int.toNat ((16 * (v11_8 - 1)) + r9_15))) + ((iv u170_1).toInt64))), (0, .ref y), (1, .int (iv x1)), (2, .int (iv x2)), (3, .int (iv x3)), (4, .int (iv x4)), (5, .long j5), (7, .int (iv (sz (Int.toNat x1)))), (8, .int (iv v11_8)), (9, .int (iv v21_9)), (14, .int (iv v69_14)), (15, .int (iv r9_15))]) dX12_spread_219 (by decide) rfl ?_
                                refine Rn.pick (lv' := [(0, .ref y), (1, .int (iv x1)), (2, .int (iv x2)), (3, .int (iv x3)), (4, .int (iv x4)), (5, .long j5), (7, .int (iv (sz (Int.toNat x1)))), (8, .int (iv v11_8)), (9, .int (iv v21_9)), (10, .long ((bs21 (Int.toNat ((16 * (v11_8 - 1)) + r9_15))) + ((iv u170_1).toInt64))), (12, .long ((0 : Int64) + (0 : Int64))), (14, .int (iv v69_14))]) [3, 4, 5, 6, 7, 8, 9, 10, 11, 1, 0, 12] rfl ?_
                                exact B221 _ ht170 ((bs21 (Int.toNat ((16 * (v11_8 - 1)) + r9_15))) + ((iv u170_1).toInt64)) ((0 : Int64) + (0 : Int64)) (by (first | (exfalso; omega) | exact dr_lt (by assumption) (by omega) (by omega) hus hit hxx (by omega) hbk.2 | exact dr_eq (by assumption) (by omega) (by omega) hus hit hxx (by omega) hbk.2 | exact dr_gt (by assumption) (by omega) (by omega) hit hxx (by omega) | exact dr_no (by assumption) (by omega) (by omega) (fun h9 => by have h8 := h9.1; rw [← hit] at h8; omega) | exact dr_no (by assumption) (by omega) (by omega) (fun h9 => hng h9.2.1) | exact dr_no (by assumption) (by omega) (by omega) (fun h9 => by have h8 := h9.2.2; rw [← hit] at h8; omega)))
                              · refine r_aload_n (pc := 199) dX12_spread_199 (i := 0) rfl rfl ?_
                                refine t_getE (pc := 200) (.ref (y + 28)) ht170 (rd_of RX_y) fX12_94 dX12_spread_200 rfl ?_
                                refine r_bipush (pc := 203) (v := iv 16) dX12_spread_203 (by decide) ?_
                                refine r_iload (pc := 205) dX12_spread_205 rfl ?_
                                refine r_iconst (pc := 207) (v := iv 1) dX12_spread_207 (by decide) ?_
                                refine r_isub (pc := 208) (v := iv (v11_8 - 1)) dX12_spread_208 (iv_sub _ _) ?_
                                refine r_imul (pc := 209) (v := iv (16 * (v11_8 - 1))) dX12_spread_209 (iv_mul _ _) ?_
                                refine r_iload (pc := 210) dX12_spread_210 rfl ?_
                                refine r_iadd (pc := 212) (v := iv ((16 * (v11_8 - 1)) + r9_15)) dX12_spread_212 (iv_add _ _) ?_
                                refine t_laldX (pc := 213) (t0 := 1) ht170 (rd_of RX_ways1) dX12_spread_213 rfl (by decide) (by omega) ?_
                                refine r_goto (pc := 214) (tgt := 218) dX12_spread_214 (by decide) ?_
                                refine r_ladd (pc := 218) (v := (0 : Int64) + (wy21 (Int.toNat ((16 * (v11_8 - 1)) + r9_15)))) dX12_spread_218 rfl ?_
                                refine r_lstore (pc := 219) (lv' := [(12, .long ((0 : Int64) + (wy21 (Int.toNat ((16 * (v11_8 - 1)) + r9_15))))), (10, .long ((bs21 (Int.toNat ((16 * (v11_8 - 1)) + r9_15))) + ((iv u170_1).toInt64))), (16, .long ((bs21 (Int.toNat ((16 * (v11_8 - 1)) + r9_15))) + ((iv u170_1).toInt64))), (0, .ref y), (1, .int (iv x1)), (2, .int (iv x2)), (3, .int (iv x3)), (4, .int (iv x4)), (5, .long j5), (7, .int (iv (sz (Int.toNat x1)))), (8, .int (iv v11_8)), (9, .int (iv v21_9)), (14, .int (iv v69_14)), (15, .int (iv r9_15))]) dX12_spread_219 (by decide) rfl ?_
                                refine Rn.pick (lv' := [(0, .ref y), (1, .int (iv x1)), (2, .int (iv x2)), (3, .int (iv x3)), (4, .int (iv x4)), (5, .long j5), (7, .int (iv (sz (Int.toNat x1)))), (8, .int (iv v11_8)), (9, .int (iv v21_9)), (10, .long ((bs21 (Int.toNat ((16 * (v11_8 - 1)) + r9_15))) + ((iv u170_1).toInt64))), (12, .long ((0 : Int64) + (wy21 (Int.toNat ((16 * (v11_8 - 1)) + r9_15))))), (14, .int (iv v69_14))]) [3, 4, 5, 6, 7, 8, 9, 10, 11, 1, 0, 12] rfl ?_
                                exact B221 _ ht170 ((bs21 (Int.toNat ((16 * (v11_8 - 1)) + r9_15))) + ((iv u170_1).toInt64)) ((0 : Int64) + (wy21 (Int.toNat ((16 * (v11_8 - 1)) + r9_15)))) (by (first | (exfalso; omega) | exact dr_lt (by assumption) (by omega) (by omega) hus hit hxx (by omega) hbk.2 | exact dr_eq (by assumption) (by omega) (by omega) hus hit hxx (by omega) hbk.2 | exact dr_gt (by assumption) (by omega) (by omega) hit hxx (by omega) | exact dr_no (by assumption) (by omega) (by omega) (fun h9 => by have h8 := h9.1; rw [← hit] at h8; omega) | exact dr_no (by assumption) (by omega) (by omega) (fun h9 => hng h9.2.1) | exact dr_no (by assumption) (by omega) (by omega) (fun h9 => by have h8 := h9.2.2; rw [← hit] at h8; omega)))
                          refine t_if_ne (pc := 152) (tgt := 169) dX12_spread_152 (by decide) (by omega) (fun c152 => ?_) (fun c152 => ?_)
                          · refine r_iconst (pc := 169) (v := iv 0) dX12_spread_169 (by decide) ?_
                            refine Rn.pick (lv' := [(0, .ref y), (1, .int (iv x1)), (2, .int (iv x2)), (3, .int (iv x3)), (4, .int (iv x4)), (5, .long j5), (7, .int (iv (sz (Int.toNat x1)))), (8, .int (iv v11_8)), (9, .int (iv v21_9)), (10, .long w69_10), (12, .long w69_12), (14, .int (iv v69_14)), (15, .int (iv r9_15))]) [1, 2, 3, 4, 5, 6, 7, 8, 9, 10, 11, 12, 0] rfl ?_
                            exact B170 _ ht21 0 ⟨by omega, by omega, by omega, by omega, by (unfold prA; first | (rw [if_pos (by omega), ← sh_at wt (60 * x1) (v := v69_14) (by omega)]) | (rw [if_neg (by omega)]))⟩
                          · refine r_aload_n (pc := 155) dX12_spread_155 (i := 0) rfl rfl ?_
                            refine t_getE (pc := 156) (.ref (y + 7)) ht21 (rd_of RX_y) fX12_29 dX12_spread_156 rfl ?_
                            refine r_iload_n (pc := 159) dX12_spread_159 (i := 1) rfl rfl ?_
                            refine r_iload (pc := 160) dX12_spread_160 rfl ?_
                            refine t_callSI (pc := 162) (as := [.int (iv x1), .int (iv v69_14)]) (st := [.ref (y + 7), .long (bs21 (Int.toNat ((16 * (v11_8 - 1)) + r9_15)))]) kX12_157 dX12_spread_162 (t_X12_at1x (d := d - 1) (x1 := x1) (x2 := v69_14) (by omega)  ht21 (by omega) (by omega)) rfl (by omega) (Nat.le_of_ble_eq_true rfl) rfl (fun hp23 y25 ht24 by25 => ?_)
                            have ey25 : y25 = 60 * x1 + v69_14 := by25
                            subst ey25
                            refine t_ialdX (pc := 165) (t0 := 0) ht24 (rd_of RX_weight) dX12_spread_165 rfl (by decide) (by omega) (fun b26 => ?_)
                            have rb26 := (show Rfx 7260 (-1000) 1000 wt by assumption) (Int.toNat (60 * x1 + v69_14)) (by omega)
                            refine r_goto (pc := 166) (tgt := 170) dX12_spread_166 (by decide) ?_
                            refine Rn.pick (lv' := [(0, .ref y), (1, .int (iv x1)), (2, .int (iv x2)), (3, .int (iv x3)), (4, .int (iv x4)), (5, .long j5), (7, .int (iv (sz (Int.toNat x1)))), (8, .int (iv v11_8)), (9, .int (iv v21_9)), (10, .long w69_10), (12, .long w69_12), (14, .int (iv v69_14)), (15, .int (iv r9_15))]) [1, 2, 3, 4, 5, 6, 7, 8, 9, 10, 11, 12, 0] rfl ?_
                            exact B170 _ ht24 (wt (Int.toNat (60 * x1 + v69_14))) ⟨by omega, by omega, by omega, by omega, by (unfold prA; first | (rw [if_pos (by omega), ← sh_at wt (60 * x1) (v := v69_14) (by omega)]) | (rw [if_neg (by omega)]))⟩
              refine Rn.pick (lv' := [(0, .ref y), (1, .int (iv x1)), (2, .int (iv x2)), (3, .int (iv x3)), (4, .int (iv x4)), (5, .long j5), (7, .int (iv (sz (Int.toNat x1)))), (8, .int (iv v11_8)), (9, .int (iv v21_9)), (10, .long x46_0), (12, .long x64_0), (14, .int (iv 0))]) [2, 3, 4, 5, 6, 7, 8, 9, 10, 11, 1, 0] rfl ?_
              exact B69 (Int.toNat (60 - 0)) _ ht64 0 x46_0 x64_0 ⟨by omega, by omega, by omega, by (first | assumption | exact dr_0 (by assumption) (by assumption))⟩ (by omega)
            refine t_if_ne (pc := 50) (tgt := 63) dX12_spread_50 (by decide) (by omega) (fun c50 => ?_) (fun c50 => ?_)
            · refine r_lconst (pc := 63) (v := 0) dX12_spread_63 (by decide) ?_
              have hk63 : (0 : Int64).toInt = 0 := by decide
              refine Rn.pick (lv' := [(0, .ref y), (1, .int (iv x1)), (2, .int (iv x2)), (3, .int (iv x3)), (4, .int (iv x4)), (5, .long j5), (7, .int (iv (sz (Int.toNat x1)))), (8, .int (iv v11_8)), (9, .int (iv v21_9)), (10, .long x46_0)]) [1, 2, 3, 4, 5, 6, 7, 8, 9, 0] rfl ?_
              exact B64 _ ht46 (0 : Int64) (by (unfold inW; first | (rw [if_pos (by omega)]) | (rw [if_neg (by omega)])))
            · refine r_iload (pc := 53) dX12_spread_53 rfl ?_
              refine r_iload_n (pc := 55) dX12_spread_55 (i := 3) rfl rfl ?_
              refine t_icmp_ne (pc := 56) (tgt := 63) dX12_spread_56 (by decide) (by omega) (by omega) (fun c56 => ?_) (fun c56 => ?_)
              · refine r_lconst (pc := 63) (v := 0) dX12_spread_63 (by decide) ?_
                have hk63 : (0 : Int64).toInt = 0 := by decide
                refine Rn.pick (lv' := [(0, .ref y), (1, .int (iv x1)), (2, .int (iv x2)), (3, .int (iv x3)), (4, .int (iv x4)), (5, .long j5), (7, .int (iv (sz (Int.toNat x1)))), (8, .int (iv v11_8)), (9, .int (iv v21_9)), (10, .long x46_0)]) [1, 2, 3, 4, 5, 6, 7, 8, 9, 0] rfl ?_
                exact B64 _ ht46 (0 : Int64) (by (unfold inW; first | (rw [if_pos (by omega)]) | (rw [if_neg (by omega)])))
              · refine r_lconst (pc := 59) (v := 1) dX12_spread_59 (by decide) ?_
                have hk59 : (1 : Int64).toInt = 1 := by decide
                refine r_goto (pc := 60) (tgt := 64) dX12_spread_60 (by decide) ?_
                refine Rn.pick (lv' := [(0, .ref y), (1, .int (iv x1)), (2, .int (iv x2)), (3, .int (iv x3)), (4, .int (iv x4)), (5, .long j5), (7, .int (iv (sz (Int.toNat x1)))), (8, .int (iv v11_8)), (9, .int (iv v21_9)), (10, .long x46_0)]) [1, 2, 3, 4, 5, 6, 7, 8, 9, 0] rfl ?_
                exact B64 _ ht46 (1 : Int64) (by (unfold inW; first | (rw [if_pos (by omega)]) | (rw [if_neg (by omega)])))
          refine t_if_ne (pc := 30) (tgt := 43) dX12_spread_30 (by decide) (by omega) (fun c30 => ?_) (fun c30 => ?_)
          · refine r_ldc2 (pc := 43) (v := 1000000000000) dX12_spread_43 kX12_251 ?_
            have hk43 : (1000000000000 : Int64).toInt = 1000000000000 := by decide
            refine Rn.pick (lv' := [(0, .ref y), (1, .int (iv x1)), (2, .int (iv x2)), (3, .int (iv x3)), (4, .int (iv x4)), (5, .long j5), (7, .int (iv (sz (Int.toNat x1)))), (8, .int (iv v11_8)), (9, .int (iv v21_9))]) [0, 1, 2, 3, 4, 5, 6, 7, 8] rfl ?_
            exact B46 _ ht21 (1000000000000 : Int64) (by (unfold inB; first | (rw [if_pos (by omega)]; rfl) | (rw [if_neg (by omega)]; decide)))
          · refine r_iload (pc := 33) dX12_spread_33 rfl ?_
            refine r_iload_n (pc := 35) dX12_spread_35 (i := 3) rfl rfl ?_
            refine t_icmp_ne (pc := 36) (tgt := 43) dX12_spread_36 (by decide) (by omega) (by omega) (fun c36 => ?_) (fun c36 => ?_)
            · refine r_ldc2 (pc := 43) (v := 1000000000000) dX12_spread_43 kX12_251 ?_
              have hk43 : (1000000000000 : Int64).toInt = 1000000000000 := by decide
              refine Rn.pick (lv' := [(0, .ref y), (1, .int (iv x1)), (2, .int (iv x2)), (3, .int (iv x3)), (4, .int (iv x4)), (5, .long j5), (7, .int (iv (sz (Int.toNat x1)))), (8, .int (iv v11_8)), (9, .int (iv v21_9))]) [0, 1, 2, 3, 4, 5, 6, 7, 8] rfl ?_
              exact B46 _ ht21 (1000000000000 : Int64) (by (unfold inB; first | (rw [if_pos (by omega)]; rfl) | (rw [if_neg (by omega)]; decide)))
            · refine r_lconst (pc := 39) (v := 0) dX12_spread_39 (by decide) ?_
              have hk39 : (0 : Int64).toInt = 0 := by decide
              refine r_goto (pc := 40) (tgt := 46) dX12_spread_40 (by decide) ?_
              refine Rn.pick (lv' := [(0, .ref y), (1, .int (iv x1)), (2, .int (iv x2)), (3, .int (iv x3)), (4, .int (iv x4)), (5, .long j5), (7, .int (iv (sz (Int.toNat x1)))), (8, .int (iv v11_8)), (9, .int (iv v21_9))]) [0, 1, 2, 3, 4, 5, 6, 7, 8] rfl ?_
              exact B46 _ ht21 (0 : Int64) (by (unfold inB; first | (rw [if_pos (by omega)]; rfl) | (rw [if_neg (by omega)]; decide)))
      refine Rn.pick (lv' := [(0, .ref y), (1, .int (iv x1)), (2, .int (iv x2)), (3, .int (iv x3)), (4, .int (iv x4)), (5, .long j5), (7, .int (iv (sz (Int.toNat x1)))), (8, .int (iv v11_8)), (9, .int (iv 0))]) [1, 2, 3, 4, 5, 6, 7, 8, 0] rfl ?_
      exact B21 (Int.toNat (16 - 0)) bs11 wy11 _ ht11 0 ⟨by omega, by omega, by omega, by (first | assumption | exact sp_up (by assumption) (by omega) (by omega) (by omega) (by omega) (dr_end (by assumption) (by omega) (by omega) (by omega)))⟩ (by omega)
  refine Rn.pick (lv' := [(0, .ref y), (1, .int (iv x1)), (2, .int (iv x2)), (3, .int (iv x3)), (4, .int (iv x4)), (5, .long j5), (7, .int (iv (sz (Int.toNat x1)))), (8, .int (iv 0))]) [2, 3, 4, 5, 6, 7, 1, 0] rfl ?_
  exact B11 (Int.toNat (17 - 0)) bs wy _ ht 0 ⟨by omega, by omega, by omega, by (first | exact sp_0 | exact sp_row (by assumption) (by omega))⟩ (by omega)
set_option maxHeartbeats 4000000 in
set_option maxRecDepth 100000 in
theorem x_X12_isLast {D : va_G} {cI cJ cZ cT : ClassId} {lo b L : Nat} {xs : Nat → Int32} {hp : MH} {n d : Nat} {Γ : TG} {y : Nat} {rf cn nm : Int} {so sz dr mn fr tt wt co : Nat → Int} {nu : Nat → Int64} {sa : Nat → Int} {wo : Nat → Int64} {ln : Nat → Int} {hw : Nat → Int64} {ro qi qc nf nt nw nc : Nat → Int} {cl nx : Nat → Int64} {ie be sd bl : Nat → Int} {bs wy ra rb : Nat → Int64} {lb bg os js ls : Nat → Int} {sp : Nat → Int64} {jw go : Nat → Int} {de : Nat → Int64} {yb ah im : Nat → Int} {x1 x2 x4 x5 x6 : Int} {j3 : Int64} {s9 : Nat} {K9 : Int} {Po9 : Option Value → MH → Nat → Prop} (hd0 : 2 ≤ d) (hR_sizes : Rfx 121 0 16 sz) (hR_many : Rfx 121 0 60 mn) (hR_from : Rfx 7260 0 15 fr) (hR_to : Rfx 7260 0 15 tt) (hR_weight : Rfx 7260 (-1000) 1000 wt) (hR_directs : Rfx 121 0 1 dr) (ht : Tw (RX Γ cI cJ cZ y rf cn nm so sz dr mn fr tt wt co nu sa wo ln hw ro qi qc nf nt nw nc cl nx ie be sd bl bs wy ra rb lb bg os js ls sp jw go de yb ah im) hp) (hx1 : 0 ≤ x1 ∧ x1 ≤ 120) (hx2 : 0 ≤ x2 ∧ x2 ≤ 2) (hx4 : 0 ≤ x4 ∧ x4 ≤ 59) (hx5 : 0 ≤ x5 ∧ x5 ≤ 15) (hx6 : 1 ≤ x6 ∧ x6 ≤ 16) (hEn : enP fr tt mn sz x1) (hsp : spP (Int.toNat (mn (Int.toNat x1))) (dr (Int.toNat x1)) (sh fr (60 * x1)) (sh tt (60 * x1)) (sh wt (60 * x1)) x2 j3.toInt s9 (sz (Int.toNat x1)) bs wy K9 0) (hq9 : x6 < K9 ∧ x5 < (sz (Int.toNat x1)) ∧ x4 < (mn (Int.toNat x1))) (hPo : ∀ r hp1 n1, (n1 = n ∧ ∃ (r9 : Int), Tw (RX Γ cI cJ cZ y rf cn nm so sz dr mn fr tt wt co nu sa wo ln hw ro qi qc nf nt nw nc cl nx ie be sd bl bs wy ra rb lb bg os js ls sp jw go de yb ah im) hp1 ∧ r = some (.int (iv r9)) ∧ (0 ≤ r9 ∧ r9 ≤ 1) ∧ ((r9 = 1 ∧ laB (Int.toNat (mn (Int.toNat x1))) (dr (Int.toNat x1)) (sh fr (60 * x1)) (sh tt (60 * x1)) (sh wt (60 * x1)) x2 j3.toInt s9 x6 x5 (Int.toNat x4)) ∨ (r9 = 0 ∧ ¬ laB (Int.toNat (mn (Int.toNat x1))) (dr (Int.toNat x1)) (sh fr (60 * x1)) (sh tt (60 * x1)) (sh wt (60 * x1)) x2 j3.toInt s9 x6 x5 (Int.toNat x4)))) → Po9 r hp1 n1) : Mt (gG D cI cJ cZ cT lo b L xs) mX12_isLast d 0 0 [.ref y, .int (iv x1), .int (iv x2), .long j3, .int (iv x4), .int (iv x5), .int (iv x6)] hp n Po9 := by
  refine Mt.of rfl (Nat.le_of_ble_eq_true rfl) ?_
  refine Rn.pick (lv' := [(0, .ref y), (1, .int (iv x1)), (2, .int (iv x2)), (3, .long j3), (5, .int (iv x4)), (6, .int (iv x5)), (7, .int (iv x6))]) [0, 1, 2, 3, 4, 5, 6] rfl ?_
  have rsz := hR_sizes (Int.toNat x1) (by omega)
  have rmn := hR_many (Int.toNat x1) (by omega)
  have rdr := hR_directs (Int.toNat x1) (by omega)
  have hFT := enF hEn (by assumption) (by assumption) (by omega) (by omega)
  have hW9 : ∀ k, k < (Int.toNat (mn (Int.toNat x1))) → -1000 ≤ (sh wt (60 * x1)) k ∧ (sh wt (60 * x1)) k ≤ 1000 := fun k hk => hR_weight (60 * x1 + (k : Int)).toNat (by omega)
  have hit0 := hFT (Int.toNat x4) (by omega)
  refine r_aload_n (pc := 0) dX12_isLast_0 (i := 0) rfl rfl ?_
  refine r_iload_n (pc := 1) dX12_isLast_1 (i := 1) rfl rfl ?_
  refine r_iload (pc := 2) dX12_isLast_2 rfl ?_
  refine r_iload (pc := 4) dX12_isLast_4 rfl ?_
  obtain ⟨fs5, hfs5⟩ := t_obj ht (rd_of RX_y)
  refine r_callV (pc := 6) (as := [.int (iv x1), .int (iv x4), .int (iv x5)]) (st := []) kX12_253 rfl dX12_isLast_6 hfs5 (x_X12_into (d := d - 1) (x1 := x1) (x2 := x4) (x3 := x5) (by omega) (by assumption) (by assumption) (by assumption) ht (by omega) (by omega) (by omega) (fun _ _ _ h => h)) rfl (by omega) (Nat.le_of_ble_eq_true rfl) (Nat.zero_le _) (Nat.zero_le _) rfl (fun r2 hp1 n3 hq4 => ?_)
  obtain ⟨hnn3, r9_7, ht6, hrr2, hhq40, hhq41⟩ := hq4
  subst n3 r2
  have hhq40 : r9_7 = inV fr tt dr x1 x4 x5 := hhq40
  have hhq41 : (-1) ≤ r9_7 ∧ r9_7 ≤ 15 := hhq41
  change Rn _ _ _ 9 _ [.int (iv r9_7)] _ _ _ _ _
  have hit := itV_inV hhq40 (by omega)
  refine r_istore (pc := 9) (lv' := [(8, .int (iv r9_7)), (0, .ref y), (1, .int (iv x1)), (2, .int (iv x2)), (3, .long j3), (5, .int (iv x4)), (6, .int (iv x5)), (7, .int (iv x6))]) dX12_isLast_9 (by decide) rfl ?_
  refine r_iload (pc := 11) dX12_isLast_11 rfl ?_
  refine t_if_lt (pc := 13) (tgt := 107) dX12_isLast_13 (by decide) (by omega) (fun c13 => ?_) (fun c13 => ?_)
  · refine r_iconst (pc := 107) (v := iv 0) dX12_isLast_107 (by decide) ?_
    exact r_zret (pc := 108) dX12_isLast_108 rfl (iv_nar (by omega)) (hPo _ _ _ ⟨rfl, 0, ht6, rfl, (by omega), (by first | exact Or.inl ⟨rfl, hus, by omega⟩ | exact Or.inr ⟨rfl, fun h9 => by have h8 := h9.2; omega⟩ | exact Or.inr ⟨rfl, fun h9 => by have h8 := h9.1.1; rw [← hit] at h8; omega⟩ | exact Or.inr ⟨rfl, fun h9 => hng h9.1.2.1⟩ | exact Or.inr ⟨rfl, fun h9 => by have h8 := h9.1.2.2; rw [← hit] at h8; omega⟩)⟩)
  · refine r_aload_n (pc := 16) dX12_isLast_16 (i := 0) rfl rfl ?_
    refine r_iload_n (pc := 17) dX12_isLast_17 (i := 1) rfl rfl ?_
    refine r_iload (pc := 18) dX12_isLast_18 rfl ?_
    refine r_iload_n (pc := 20) dX12_isLast_20 (i := 2) rfl rfl ?_
    refine r_lload_n (pc := 21) dX12_isLast_21 (i := 3) rfl rfl ?_
    obtain ⟨fs12, hfs12⟩ := t_obj ht6 (rd_of RX_y)
    refine r_callV (pc := 22) (as := [.int (iv x1), .int (iv x4), .int (iv x2), .long j3]) (st := []) kX12_256 rfl dX12_isLast_22 hfs12 (x_X12_goes (d := d - 1) (x1 := x1) (x2 := x4) (x3 := x2) (j4 := j3) (by omega) (by assumption) ht6 (by omega) (by omega) (by omega) (fun _ _ _ h => h)) rfl (by omega) (Nat.le_of_ble_eq_true rfl) (Nat.zero_le _) (Nat.zero_le _) rfl (fun r9 hp8 n10 hq11 => ?_)
    obtain ⟨hnn10, r9_14, ht13, hrr9, hhq110, hhq111⟩ := hq11
    subst n10 r9
    have hhq110 : 0 ≤ r9_14 ∧ r9_14 ≤ 1 := hhq110
    have hhq111 : (r9_14 = 1 ∧ okA x2 j3.toInt (sh wt (60 * x1)) (Int.toNat x4)) ∨ (r9_14 = 0 ∧ ¬ okA x2 j3.toInt (sh wt (60 * x1)) (Int.toNat x4)) := hhq111
    change Rn _ _ _ 25 _ [.int (iv r9_14)] _ _ _ _ _
    refine t_if_eq (pc := 25) (tgt := 107) dX12_isLast_25 (by decide) (by omega) (fun c25 => ?_) (fun c25 => ?_)
    · have hng := (Or.resolve_left hhq111 (by omega)).2
      clear hhq111
      refine r_iconst (pc := 107) (v := iv 0) dX12_isLast_107 (by decide) ?_
      exact r_zret (pc := 108) dX12_isLast_108 rfl (iv_nar (by omega)) (hPo _ _ _ ⟨rfl, 0, ht13, rfl, (by omega), (by first | exact Or.inl ⟨rfl, hus, by omega⟩ | exact Or.inr ⟨rfl, fun h9 => by have h8 := h9.2; omega⟩ | exact Or.inr ⟨rfl, fun h9 => by have h8 := h9.1.1; rw [← hit] at h8; omega⟩ | exact Or.inr ⟨rfl, fun h9 => hng h9.1.2.1⟩ | exact Or.inr ⟨rfl, fun h9 => by have h8 := h9.1.2.2; rw [← hit] at h8; omega⟩)⟩)
    · have hgo := (Or.resolve_right hhq111 (by omega)).2
      clear hhq111
      refine r_aload_n (pc := 28) dX12_isLast_28 (i := 0) rfl rfl ?_
      refine t_getE (pc := 29) (.ref (y + 27)) ht13 (rd_of RX_y) fX12_91 dX12_isLast_29 rfl ?_
      refine r_bipush (pc := 32) (v := iv 16) dX12_isLast_32 (by decide) ?_
      refine r_iload (pc := 34) dX12_isLast_34 rfl ?_
      refine r_iconst (pc := 36) (v := iv 1) dX12_isLast_36 (by decide) ?_
      refine r_isub (pc := 37) (v := iv (x6 - 1)) dX12_isLast_37 (iv_sub _ _) ?_
      refine r_imul (pc := 38) (v := iv (16 * (x6 - 1))) dX12_isLast_38 (iv_mul _ _) ?_
      refine r_iload (pc := 39) dX12_isLast_39 rfl ?_
      refine r_iadd (pc := 41) (v := iv ((16 * (x6 - 1)) + r9_7)) dX12_isLast_41 (iv_add _ _) ?_
      refine t_laldX (pc := 42) (t0 := 1) ht13 (rd_of RX_best) dX12_isLast_42 rfl (by decide) (by omega) ?_
      have hun : r9_7 < (sz (Int.toNat x1)) := by rw [hit]; unfold itV; split <;> first | omega | (split <;> omega)
      have hbk := sp_at (k := x6 - 1) (u := r9_7) hsp (by omega) (by omega)
      have hbk1 := hbk.1
      have hbb := bT_bd (m := (Int.toNat (mn (Int.toNat x1)))) (d := (dr (Int.toNat x1))) (F := (sh fr (60 * x1))) (T := (sh tt (60 * x1))) (W := (sh wt (60 * x1))) (kind := x2) (bd := j3.toInt) (s := s9) hW9 (Int.toNat (x6 - 1)) (Int.toNat r9_7)
      refine r_ldc2 (pc := 43) (v := 1000000000000) dX12_isLast_43 kX12_251 ?_
      have hk43 : (1000000000000 : Int64).toInt = 1000000000000 := by decide
      refine r_lcmp (pc := 46) dX12_isLast_46 ?_
      refine t_lif_ge (pc := 47) (tgt := 107) dX12_isLast_47 (by decide) (fun c47 => ?_) (fun c47 => ?_)
      · refine r_iconst (pc := 107) (v := iv 0) dX12_isLast_107 (by decide) ?_
        exact r_zret (pc := 108) dX12_isLast_108 rfl (iv_nar (by omega)) (hPo _ _ _ ⟨rfl, 0, ht13, rfl, (by omega), (by first | exact Or.inl ⟨rfl, hus, by omega⟩ | exact Or.inr ⟨rfl, fun h9 => by have h8 := h9.2; omega⟩ | exact Or.inr ⟨rfl, fun h9 => by have h8 := h9.1.1; rw [← hit] at h8; omega⟩ | exact Or.inr ⟨rfl, fun h9 => hng h9.1.2.1⟩ | exact Or.inr ⟨rfl, fun h9 => by have h8 := h9.1.2.2; rw [← hit] at h8; omega⟩)⟩)
      · have hus : usA (dr (Int.toNat x1)) (sh fr (60 * x1)) (sh tt (60 * x1)) (sh wt (60 * x1)) x2 j3.toInt (bT (Int.toNat (mn (Int.toNat x1))) (dr (Int.toNat x1)) (sh fr (60 * x1)) (sh tt (60 * x1)) (sh wt (60 * x1)) x2 j3.toInt s9 (Int.toNat (x6 - 1))) x5 (Int.toNat x4) := ⟨by rw [← hit]; omega, hgo, by rw [← hit]; omega⟩
        refine r_aload_n (pc := 50) dX12_isLast_50 (i := 0) rfl rfl ?_
        refine t_getE (pc := 51) (.ref (y + 27)) ht13 (rd_of RX_y) fX12_91 dX12_isLast_51 rfl ?_
        refine r_bipush (pc := 54) (v := iv 16) dX12_isLast_54 (by decide) ?_
        refine r_iload (pc := 56) dX12_isLast_56 rfl ?_
        refine r_iconst (pc := 58) (v := iv 1) dX12_isLast_58 (by decide) ?_
        refine r_isub (pc := 59) (v := iv (x6 - 1)) dX12_isLast_59 (iv_sub _ _) ?_
        refine r_imul (pc := 60) (v := iv (16 * (x6 - 1))) dX12_isLast_60 (iv_mul _ _) ?_
        refine r_iload (pc := 61) dX12_isLast_61 rfl ?_
        refine r_iadd (pc := 63) (v := iv ((16 * (x6 - 1)) + r9_7)) dX12_isLast_63 (iv_add _ _) ?_
        refine t_laldX (pc := 64) (t0 := 1) ht13 (rd_of RX_best) dX12_isLast_64 rfl (by decide) (by omega) ?_
        refine r_iload_n (pc := 65) dX12_isLast_65 (i := 2) rfl rfl ?_
        have B84 : ∀ hp84 : MH, Tw (RX Γ cI cJ cZ y rf cn nm so sz dr mn fr tt wt co nu sa wo ln hw ro qi qc nf nt nw nc cl nx ie be sd bl bs wy ra rb lb bg os js ls sp jw go de yb ah im) hp84 → ∀  (u84_1 : Int), (-1000) ≤ u84_1 ∧ u84_1 ≤ 1000 ∧ (-1000 ≤ u84_1) ∧ (u84_1 ≤ 1000) ∧ (u84_1 = prA x2 (sh wt (60 * x1)) (Int.toNat x4)) → Rn (gG D cI cJ cZ cT lo b L xs) mX12_isLast d 84 [(0, .ref y), (6, .int (iv x5)), (7, .int (iv x6))] [.int (iv u84_1), .long (bs (Int.toNat ((16 * (x6 - 1)) + r9_7)))] hp84 n 0 0 Po9 := by
          intro hp84 ht84 u84_1 hf84
          obtain ⟨hf84_0, hf84_1, hf84_2, hf84_3, ha84_4⟩ := hf84
          refine r_i2l (pc := 84) (v := (iv u84_1).toInt64) dX12_isLast_84 rfl ?_
          refine r_ladd (pc := 85) (v := (bs (Int.toNat ((16 * (x6 - 1)) + r9_7))) + ((iv u84_1).toInt64)) dX12_isLast_85 rfl ?_
          have hxx : ((bs (Int.toNat ((16 * (x6 - 1)) + r9_7))) + ((iv u84_1).toInt64)).toInt = bT (Int.toNat (mn (Int.toNat x1))) (dr (Int.toNat x1)) (sh fr (60 * x1)) (sh tt (60 * x1)) (sh wt (60 * x1)) x2 j3.toInt s9 (Int.toNat (x6 - 1)) (Int.toNat r9_7) + prA x2 (sh wt (60 * x1)) (Int.toNat x4) := by
            have e9 := iv_long (x := u84_1) (by omega)
            rw [l_add (by omega)]; omega
          refine r_aload_n (pc := 86) dX12_isLast_86 (i := 0) rfl rfl ?_
          refine t_getE (pc := 87) (.ref (y + 27)) ht84 (rd_of RX_y) fX12_91 dX12_isLast_87 rfl ?_
          refine r_bipush (pc := 90) (v := iv 16) dX12_isLast_90 (by decide) ?_
          refine r_iload (pc := 92) dX12_isLast_92 rfl ?_
          refine r_imul (pc := 94) (v := iv (16 * x6)) dX12_isLast_94 (iv_mul _ _) ?_
          refine r_iload (pc := 95) dX12_isLast_95 rfl ?_
          refine r_iadd (pc := 97) (v := iv ((16 * x6) + x5)) dX12_isLast_97 (iv_add _ _) ?_
          refine t_laldX (pc := 98) (t0 := 1) ht84 (rd_of RX_best) dX12_isLast_98 rfl (by decide) (by omega) ?_
          have hbq := (sp_at (k := x6) (u := x5) hsp (by omega) (by omega)).1
          have hva : vaA (dr (Int.toNat x1)) (sh fr (60 * x1)) (sh tt (60 * x1)) (sh wt (60 * x1)) x2 (bT (Int.toNat (mn (Int.toNat x1))) (dr (Int.toNat x1)) (sh fr (60 * x1)) (sh tt (60 * x1)) (sh wt (60 * x1)) x2 j3.toInt s9 (Int.toNat (x6 - 1))) x5 (Int.toNat x4) = bT (Int.toNat (mn (Int.toNat x1))) (dr (Int.toNat x1)) (sh fr (60 * x1)) (sh tt (60 * x1)) (sh wt (60 * x1)) x2 j3.toInt s9 (Int.toNat (x6 - 1)) (Int.toNat r9_7) + prA x2 (sh wt (60 * x1)) (Int.toNat x4) := by unfold vaA; rw [← hit]
          refine r_lcmp (pc := 99) dX12_isLast_99 ?_
          refine t_lif_ne (pc := 100) (tgt := 107) dX12_isLast_100 (by decide) (fun c100 => ?_) (fun c100 => ?_)
          · refine r_iconst (pc := 107) (v := iv 0) dX12_isLast_107 (by decide) ?_
            exact r_zret (pc := 108) dX12_isLast_108 rfl (iv_nar (by omega)) (hPo _ _ _ ⟨rfl, 0, ht84, rfl, (by omega), (by first | exact Or.inl ⟨rfl, hus, by omega⟩ | exact Or.inr ⟨rfl, fun h9 => by have h8 := h9.2; omega⟩ | exact Or.inr ⟨rfl, fun h9 => by have h8 := h9.1.1; rw [← hit] at h8; omega⟩ | exact Or.inr ⟨rfl, fun h9 => hng h9.1.2.1⟩ | exact Or.inr ⟨rfl, fun h9 => by have h8 := h9.1.2.2; rw [← hit] at h8; omega⟩)⟩)
          · refine r_iconst (pc := 103) (v := iv 1) dX12_isLast_103 (by decide) ?_
            refine r_goto (pc := 104) (tgt := 108) dX12_isLast_104 (by decide) ?_
            exact r_zret (pc := 108) dX12_isLast_108 rfl (iv_nar (by omega)) (hPo _ _ _ ⟨rfl, 1, ht84, rfl, (by omega), (by first | exact Or.inl ⟨rfl, hus, by omega⟩ | exact Or.inr ⟨rfl, fun h9 => by have h8 := h9.2; omega⟩ | exact Or.inr ⟨rfl, fun h9 => by have h8 := h9.1.1; rw [← hit] at h8; omega⟩ | exact Or.inr ⟨rfl, fun h9 => hng h9.1.2.1⟩ | exact Or.inr ⟨rfl, fun h9 => by have h8 := h9.1.2.2; rw [← hit] at h8; omega⟩)⟩)
        refine t_if_ne (pc := 66) (tgt := 83) dX12_isLast_66 (by decide) (by omega) (fun c66 => ?_) (fun c66 => ?_)
        · refine r_iconst (pc := 83) (v := iv 0) dX12_isLast_83 (by decide) ?_
          refine Rn.pick (lv' := [(0, .ref y), (6, .int (iv x5)), (7, .int (iv x6))]) [1, 6, 7] rfl ?_
          exact B84 _ ht13 0 ⟨by omega, by omega, by omega, by omega, by (unfold prA; first | (rw [if_pos (by omega), ← sh_at wt (60 * x1) (v := x4) (by omega)]) | (rw [if_neg (by omega)]))⟩
        · refine r_aload_n (pc := 69) dX12_isLast_69 (i := 0) rfl rfl ?_
          refine t_getE (pc := 70) (.ref (y + 7)) ht13 (rd_of RX_y) fX12_29 dX12_isLast_70 rfl ?_
          refine r_iload_n (pc := 73) dX12_isLast_73 (i := 1) rfl rfl ?_
          refine r_iload (pc := 74) dX12_isLast_74 rfl ?_
          refine t_callSI (pc := 76) (as := [.int (iv x1), .int (iv x4)]) (st := [.ref (y + 7), .long (bs (Int.toNat ((16 * (x6 - 1)) + r9_7)))]) kX12_157 dX12_isLast_76 (t_X12_at1x (d := d - 1) (x1 := x1) (x2 := x4) (by omega)  ht13 (by omega) (by omega)) rfl (by omega) (Nat.le_of_ble_eq_true rfl) rfl (fun hp15 y17 ht16 by17 => ?_)
          have ey17 : y17 = 60 * x1 + x4 := by17
          subst ey17
          refine t_ialdX (pc := 79) (t0 := 0) ht16 (rd_of RX_weight) dX12_isLast_79 rfl (by decide) (by omega) (fun b18 => ?_)
          have rb18 := (show Rfx 7260 (-1000) 1000 wt by assumption) (Int.toNat (60 * x1 + x4)) (by omega)
          refine r_goto (pc := 80) (tgt := 84) dX12_isLast_80 (by decide) ?_
          refine Rn.pick (lv' := [(0, .ref y), (6, .int (iv x5)), (7, .int (iv x6))]) [1, 6, 7] rfl ?_
          exact B84 _ ht16 (wt (Int.toNat (60 * x1 + x4))) ⟨by omega, by omega, by omega, by omega, by (unfold prA; first | (rw [if_pos (by omega), ← sh_at wt (60 * x1) (v := x4) (by omega)]) | (rw [if_neg (by omega)]))⟩
set_option maxHeartbeats 4000000 in
set_option maxRecDepth 100000 in
theorem x_X12_isFalling {D : va_G} {cI cJ cZ cT : ClassId} {lo b L : Nat} {xs : Nat → Int32} {hp : MH} {n d : Nat} {Γ : TG} {y : Nat} {rf cn nm : Int} {so sz dr mn fr tt wt co : Nat → Int} {nu : Nat → Int64} {sa : Nat → Int} {wo : Nat → Int64} {ln : Nat → Int} {hw : Nat → Int64} {ro qi qc nf nt nw nc : Nat → Int} {cl nx : Nat → Int64} {ie be sd bl : Nat → Int} {bs wy ra rb : Nat → Int64} {lb bg os js ls : Nat → Int} {sp : Nat → Int64} {jw go : Nat → Int} {de : Nat → Int64} {yb ah im : Nat → Int} {x1 x2 : Int} {Po9 : Option Value → MH → Nat → Prop} (hd0 : 2 ≤ d) (hR_sizes : Rfx 121 0 16 sz) (hR_many : Rfx 121 0 60 mn) (hR_from : Rfx 7260 0 15 fr) (hR_to : Rfx 7260 0 15 tt) (hR_weight : Rfx 7260 (-1000) 1000 wt) (hR_directs : Rfx 121 0 1 dr) (ht : Tw (RX Γ cI cJ cZ y rf cn nm so sz dr mn fr tt wt co nu sa wo ln hw ro qi qc nf nt nw nc cl nx ie be sd bl bs wy ra rb lb bg os js ls sp jw go de yb ah im) hp) (hx1 : 0 ≤ x1 ∧ x1 ≤ 120) (hx2 : 0 ≤ x2 ∧ x2 ≤ 15) (hEn : enP fr tt mn sz x1) (hx9 : x2 < (sz (Int.toNat x1))) (hPo : ∀ r hp1 n1, (n1 = n ∧ ∃ (k1 : Nat → Int64) (w1 : Nat → Int64) (r9 : Int), Tw (RX Γ cI cJ cZ y rf cn nm so sz dr mn fr tt wt co nu sa wo ln hw ro qi qc nf nt nw nc cl nx ie be sd bl bs wy k1 w1 lb bg os js ls sp jw go de yb ah im) hp1 ∧ r = some (.int (iv r9)) ∧ (0 ≤ r9 ∧ r9 ≤ 1) ∧ ((r9 = 1 ∧ fallP (Int.toNat (mn (Int.toNat x1))) (dr (Int.toNat x1)) (sh fr (60 * x1)) (sh tt (60 * x1)) (sh wt (60 * x1)) (sz (Int.toNat x1)) (Int.toNat x2)) ∨ (r9 = 0 ∧ ¬ fallP (Int.toNat (mn (Int.toNat x1))) (dr (Int.toNat x1)) (sh fr (60 * x1)) (sh tt (60 * x1)) (sh wt (60 * x1)) (sz (Int.toNat x1)) (Int.toNat x2)))) → Po9 r hp1 n1) : Mt (gG D cI cJ cZ cT lo b L xs) mX12_isFalling d 0 0 [.ref y, .int (iv x1), .int (iv x2)] hp n Po9 := by
  refine Mt.of rfl (Nat.le_of_ble_eq_true rfl) ?_
  refine Rn.pick (lv' := [(0, .ref y), (1, .int (iv x1)), (2, .int (iv x2))]) [0, 1, 2] rfl ?_
  have rsz := hR_sizes (Int.toNat x1) (by omega)
  have rmn := hR_many (Int.toNat x1) (by omega)
  have rdr := hR_directs (Int.toNat x1) (by omega)
  have hFT := enF hEn (by assumption) (by assumption) (by omega) (by omega)
  have hW9 : ∀ k, k < (Int.toNat (mn (Int.toNat x1))) → -1000 ≤ (sh wt (60 * x1)) k ∧ (sh wt (60 * x1)) k ≤ 1000 := fun k hk => hR_weight (60 * x1 + (k : Int)).toNat (by omega)
  refine r_aload_n (pc := 0) dX12_isFalling_0 (i := 0) rfl rfl ?_
  refine t_getE (pc := 1) (.ref (y + 2)) ht (rd_of RX_y) fX12_13 dX12_isFalling_1 rfl ?_
  refine r_iload_n (pc := 4) dX12_isFalling_4 (i := 1) rfl rfl ?_
  refine t_ialdX (pc := 5) (t0 := 0) ht (rd_of RX_sizes) dX12_isFalling_5 rfl (by decide) (by omega) (fun b1 => ?_)
  have rb1 := (show Rfx 121 0 16 sz by assumption) (Int.toNat x1) (by omega)
  refine r_istore_n (pc := 6) (lv' := [(3, .int (iv (sz (Int.toNat x1)))), (0, .ref y), (1, .int (iv x1)), (2, .int (iv x2))]) dX12_isFalling_6 (i := 3) rfl (by decide) rfl ?_
  refine r_iconst (pc := 7) (v := iv 0) dX12_isFalling_7 (by decide) ?_
  refine r_istore (pc := 8) (lv' := [(4, .int (iv 0)), (3, .int (iv (sz (Int.toNat x1)))), (0, .ref y), (1, .int (iv x1)), (2, .int (iv x2))]) dX12_isFalling_8 (by decide) rfl ?_
  have B10 : ∀ k : Nat, ∀ ra10 : Nat → Int64, ∀ hp10 : MH, Tw (RX Γ cI cJ cZ y rf cn nm so sz dr mn fr tt wt co nu sa wo ln hw ro qi qc nf nt nw nc cl nx ie be sd bl bs wy ra10 rb lb bg os js ls sp jw go de yb ah im) hp10 → ∀  (v10_4 : Int), 0 ≤ v10_4 ∧ v10_4 ≤ 16 ∧ (v10_4 ≤ (sz (Int.toNat x1))) ∧ (rqP (bT (Int.toNat (mn (Int.toNat x1))) (dr (Int.toNat x1)) (sh fr (60 * x1)) (sh tt (60 * x1)) (sh wt (60 * x1)) 0 0 (Int.toNat x2) 0) ra10 v10_4) → 16 - v10_4 ≤ (k : Int) → Rn (gG D cI cJ cZ cT lo b L xs) mX12_isFalling d 10 [(0, .ref y), (1, .int (iv x1)), (2, .int (iv x2)), (3, .int (iv (sz (Int.toNat x1)))), (4, .int (iv v10_4))] [] hp10 n 0 0 Po9 := by
    refine lpS _ ?_
    intro k10 ih10 ra10 hp10 ht10 v10_4 hf10 hm10
    obtain ⟨hf10_0, hf10_1, hf10_2, ha10_3⟩ := hf10
    refine r_iload (pc := 10) dX12_isFalling_10 rfl ?_
    refine r_iload_n (pc := 12) dX12_isFalling_12 (i := 3) rfl rfl ?_
    refine t_icmp_ge (pc := 13) (tgt := 42) dX12_isFalling_13 (by decide) (by omega) (by omega) (fun c13 => ?_) (fun c13 => ?_)
    · refine r_iconst (pc := 42) (v := iv 0) dX12_isFalling_42 (by decide) ?_
      refine r_istore (pc := 43) (lv' := [(4, .int (iv 0)), (0, .ref y), (1, .int (iv x1)), (2, .int (iv x2)), (3, .int (iv (sz (Int.toNat x1))))]) dX12_isFalling_43 (by decide) rfl ?_
      refine r_iconst (pc := 45) (v := iv 0) dX12_isFalling_45 (by decide) ?_
      refine r_istore (pc := 46) (lv' := [(5, .int (iv 0)), (4, .int (iv 0)), (0, .ref y), (1, .int (iv x1)), (2, .int (iv x2)), (3, .int (iv (sz (Int.toNat x1))))]) dX12_isFalling_46 (by decide) rfl ?_
      have B48 : ∀ k : Nat, ∀ ra48 : Nat → Int64, ∀ rb48 : Nat → Int64, ∀ hp48 : MH, Tw (RX Γ cI cJ cZ y rf cn nm so sz dr mn fr tt wt co nu sa wo ln hw ro qi qc nf nt nw nc cl nx ie be sd bl bs wy ra48 rb48 lb bg os js ls sp jw go de yb ah im) hp48 → ∀  (v48_4 : Int) (v48_5 : Int), 0 ≤ v48_4 ∧ v48_4 ≤ 1 ∧ 0 ≤ v48_5 ∧ v48_5 ≤ 16 ∧ (v48_5 ≤ (sz (Int.toNat x1))) ∧ (rqP (bT (Int.toNat (mn (Int.toNat x1))) (dr (Int.toNat x1)) (sh fr (60 * x1)) (sh tt (60 * x1)) (sh wt (60 * x1)) 0 0 (Int.toNat x2) (Int.toNat v48_5)) ra48 (sz (Int.toNat x1))) ∧ (flP (Int.toNat (mn (Int.toNat x1))) (dr (Int.toNat x1)) (sh fr (60 * x1)) (sh tt (60 * x1)) (sh wt (60 * x1)) (Int.toNat x2) v48_5 v48_4) → 16 - v48_5 ≤ (k : Int) → Rn (gG D cI cJ cZ cT lo b L xs) mX12_isFalling d 48 [(0, .ref y), (1, .int (iv x1)), (2, .int (iv x2)), (3, .int (iv (sz (Int.toNat x1)))), (4, .int (iv v48_4)), (5, .int (iv v48_5))] [] hp48 n 0 0 Po9 := by
        refine lpS _ ?_
        intro k48 ih48 ra48 rb48 hp48 ht48 v48_4 v48_5 hf48 hm48
        obtain ⟨hf48_0, hf48_1, hf48_2, hf48_3, hf48_4, ha48_5, ha48_6⟩ := hf48
        refine r_iload (pc := 48) dX12_isFalling_48 rfl ?_
        refine r_iload_n (pc := 50) dX12_isFalling_50 (i := 3) rfl rfl ?_
        refine t_icmp_ge (pc := 51) (tgt := 245) dX12_isFalling_51 (by decide) (by omega) (by omega) (fun c51 => ?_) (fun c51 => ?_)
        · refine r_iload (pc := 245) dX12_isFalling_245 rfl ?_
          exact r_zret (pc := 247) dX12_isFalling_247 rfl (iv_nar (by omega)) (hPo _ _ _ ⟨rfl, ra48, rb48, v48_4, ht48, rfl, (by omega), (by exact fl_end (by assumption) (by omega) (by omega))⟩)
        · refine r_iload (pc := 54) dX12_isFalling_54 rfl ?_
          refine t_if_ne (pc := 56) (tgt := 245) dX12_isFalling_56 (by decide) (by omega) (fun c56 => ?_) (fun c56 => ?_)
          · refine r_iload (pc := 245) dX12_isFalling_245 rfl ?_
            exact r_zret (pc := 247) dX12_isFalling_247 rfl (iv_nar (by omega)) (hPo _ _ _ ⟨rfl, ra48, rb48, v48_4, ht48, rfl, (by omega), (by exact fl_end (by assumption) (by omega) (by omega))⟩)
          · refine r_iconst (pc := 59) (v := iv 0) dX12_isFalling_59 (by decide) ?_
            refine r_istore (pc := 60) (lv' := [(6, .int (iv 0)), (0, .ref y), (1, .int (iv x1)), (2, .int (iv x2)), (3, .int (iv (sz (Int.toNat x1)))), (4, .int (iv v48_4)), (5, .int (iv v48_5))]) dX12_isFalling_60 (by decide) rfl ?_
            have B62 : ∀ k : Nat, ∀ rb62 : Nat → Int64, ∀ hp62 : MH, Tw (RX Γ cI cJ cZ y rf cn nm so sz dr mn fr tt wt co nu sa wo ln hw ro qi qc nf nt nw nc cl nx ie be sd bl bs wy ra48 rb62 lb bg os js ls sp jw go de yb ah im) hp62 → ∀  (v62_6 : Int), 0 ≤ v62_6 ∧ v62_6 ≤ 16 ∧ (v62_6 ≤ (sz (Int.toNat x1))) ∧ (rqP (bT (Int.toNat (mn (Int.toNat x1))) (dr (Int.toNat x1)) (sh fr (60 * x1)) (sh tt (60 * x1)) (sh wt (60 * x1)) 0 0 (Int.toNat x2) (Int.toNat v48_5 + 1)) rb62 v62_6) ∧ (rqP (bT (Int.toNat (mn (Int.toNat x1))) (dr (Int.toNat x1)) (sh fr (60 * x1)) (sh tt (60 * x1)) (sh wt (60 * x1)) 0 0 (Int.toNat x2) (Int.toNat v48_5)) ra48 (sz (Int.toNat x1))) → 16 - v62_6 ≤ (k : Int) → Rn (gG D cI cJ cZ cT lo b L xs) mX12_isFalling d 62 [(0, .ref y), (1, .int (iv x1)), (2, .int (iv x2)), (3, .int (iv (sz (Int.toNat x1)))), (5, .int (iv v48_5)), (6, .int (iv v62_6))] [] hp62 n 0 0 Po9 := by
              refine lpS _ ?_
              intro k62 ih62 rb62 hp62 ht62 v62_6 hf62 hm62
              obtain ⟨hf62_0, hf62_1, hf62_2, ha62_3, ha62_4⟩ := hf62
              refine r_iload (pc := 62) dX12_isFalling_62 rfl ?_
              refine r_iload_n (pc := 64) dX12_isFalling_64 (i := 3) rfl rfl ?_
              refine t_icmp_ge (pc := 65) (tgt := 192) dX12_isFalling_65 (by decide) (by omega) (by omega) (fun c65 => ?_) (fun c65 => ?_)
              · refine r_iconst (pc := 192) (v := iv 0) dX12_isFalling_192 (by decide) ?_
                refine r_istore (pc := 193) (lv' := [(6, .int (iv 0)), (0, .ref y), (1, .int (iv x1)), (2, .int (iv x2)), (3, .int (iv (sz (Int.toNat x1)))), (5, .int (iv v48_5))]) dX12_isFalling_193 (by decide) rfl ?_
                have B195 : ∀ k : Nat, ∀ ra195 : Nat → Int64, ∀ hp195 : MH, Tw (RX Γ cI cJ cZ y rf cn nm so sz dr mn fr tt wt co nu sa wo ln hw ro qi qc nf nt nw nc cl nx ie be sd bl bs wy ra195 rb62 lb bg os js ls sp jw go de yb ah im) hp195 → ∀  (v195_6 : Int), 0 ≤ v195_6 ∧ v195_6 ≤ 16 ∧ (v195_6 ≤ (sz (Int.toNat x1))) ∧ (rqP (bT (Int.toNat (mn (Int.toNat x1))) (dr (Int.toNat x1)) (sh fr (60 * x1)) (sh tt (60 * x1)) (sh wt (60 * x1)) 0 0 (Int.toNat x2) (Int.toNat v48_5 + 1)) ra195 v195_6) ∧ (rqP (bT (Int.toNat (mn (Int.toNat x1))) (dr (Int.toNat x1)) (sh fr (60 * x1)) (sh tt (60 * x1)) (sh wt (60 * x1)) 0 0 (Int.toNat x2) (Int.toNat v48_5 + 1)) rb62 (sz (Int.toNat x1))) → 16 - v195_6 ≤ (k : Int) → Rn (gG D cI cJ cZ cT lo b L xs) mX12_isFalling d 195 [(0, .ref y), (1, .int (iv x1)), (2, .int (iv x2)), (3, .int (iv (sz (Int.toNat x1)))), (5, .int (iv v48_5)), (6, .int (iv v195_6))] [] hp195 n 0 0 Po9 := by
                  refine lpS _ ?_
                  intro k195 ih195 ra195 hp195 ht195 v195_6 hf195 hm195
                  obtain ⟨hf195_0, hf195_1, hf195_2, ha195_3, ha195_4⟩ := hf195
                  refine r_iload (pc := 195) dX12_isFalling_195 rfl ?_
                  refine r_iload_n (pc := 197) dX12_isFalling_197 (i := 3) rfl rfl ?_
                  refine t_icmp_ge (pc := 198) (tgt := 221) dX12_isFalling_198 (by decide) (by omega) (by omega) (fun c198 => ?_) (fun c198 => ?_)
                  · refine r_aload_n (pc := 221) dX12_isFalling_221 (i := 0) rfl rfl ?_
                    refine t_getE (pc := 222) (.ref (y + 29)) ht195 (rd_of RX_y) fX12_97 dX12_isFalling_222 rfl ?_
                    refine r_iload_n (pc := 225) dX12_isFalling_225 (i := 2) rfl rfl ?_
                    refine t_laldX (pc := 226) (t0 := 1) ht195 (rd_of RX_round) dX12_isFalling_226 rfl (by decide) (by omega) ?_
                    refine r_lconst (pc := 227) (v := 0) dX12_isFalling_227 (by decide) ?_
                    have hk227 : (0 : Int64).toInt = 0 := by decide
                    refine r_lcmp (pc := 228) dX12_isFalling_228 ?_
                    have B237 : ∀ hp237 : MH, Tw (RX Γ cI cJ cZ y rf cn nm so sz dr mn fr tt wt co nu sa wo ln hw ro qi qc nf nt nw nc cl nx ie be sd bl bs wy ra195 rb62 lb bg os js ls sp jw go de yb ah im) hp237 → ∀  (u237_0 : Int), 0 ≤ u237_0 ∧ u237_0 ≤ 1 ∧ (flP (Int.toNat (mn (Int.toNat x1))) (dr (Int.toNat x1)) (sh fr (60 * x1)) (sh tt (60 * x1)) (sh wt (60 * x1)) (Int.toNat x2) (v48_5 + 1) u237_0) → Rn (gG D cI cJ cZ cT lo b L xs) mX12_isFalling d 237 [(0, .ref y), (1, .int (iv x1)), (2, .int (iv x2)), (3, .int (iv (sz (Int.toNat x1)))), (5, .int (iv v48_5))] [.int (iv u237_0)] hp237 n 0 0 Po9 := by
                      intro hp237 ht237 u237_0 hf237
                      obtain ⟨hf237_0, hf237_1, ha237_2⟩ := hf237
                      refine r_istore (pc := 237) (lv' := [(4, .int (iv u237_0)), (0, .ref y), (1, .int (iv x1)), (2, .int (iv x2)), (3, .int (iv (sz (Int.toNat x1)))), (5, .int (iv v48_5))]) dX12_isFalling_237 (by decide) rfl ?_
                      refine r_iinc (pc := 239) (v := iv (v48_5 + 1)) (lv' := [(5, .int (iv (v48_5 + 1))), (4, .int (iv u237_0)), (0, .ref y), (1, .int (iv x1)), (2, .int (iv x2)), (3, .int (iv (sz (Int.toNat x1))))]) dX12_isFalling_239 rfl (iv_add _ _) (by decide) rfl ?_
                      refine r_goto (pc := 242) (tgt := 48) dX12_isFalling_242 (by decide) ?_
                      refine Rn.pick (lv' := [(0, .ref y), (1, .int (iv x1)), (2, .int (iv x2)), (3, .int (iv (sz (Int.toNat x1)))), (4, .int (iv u237_0)), (5, .int (iv (v48_5 + 1)))]) [2, 3, 4, 5, 1, 0] rfl ?_
                      exact ih48 (Int.toNat (16 - (v48_5 + 1))) (by omega) ra195 rb62 _ ht237 u237_0 (v48_5 + 1) ⟨by omega, by omega, by omega, by omega, by omega, by (first | exact rq_le (v := v10_4) (by assumption) (by omega) | (rw [tn1 (show (0 : Int) ≤ v48_5 by omega)]; exact rq_le (v := v195_6) (by assumption) (by omega))), by (first | exact fl_0 | assumption)⟩ (by omega)
                    refine t_lif_ge (pc := 229) (tgt := 236) dX12_isFalling_229 (by decide) (fun c229 => ?_) (fun c229 => ?_)
                    · refine r_iconst (pc := 236) (v := iv 0) dX12_isFalling_236 (by decide) ?_
                      refine Rn.pick (lv' := [(0, .ref y), (1, .int (iv x1)), (2, .int (iv x2)), (3, .int (iv (sz (Int.toNat x1)))), (5, .int (iv v48_5))]) [0, 1, 2, 3, 4] rfl ?_
                      exact B237 _ ht195 0 ⟨by omega, by omega, by (first | exact fl_y (by omega) ((by assumption : rqP (bT (Int.toNat (mn (Int.toNat x1))) (dr (Int.toNat x1)) (sh fr (60 * x1)) (sh tt (60 * x1)) (sh wt (60 * x1)) 0 0 (Int.toNat x2) (Int.toNat v48_5 + 1)) _ v195_6) _ (by omega)) (by omega) | exact fl_n (by assumption) (by omega) (by omega) ((by assumption : rqP (bT (Int.toNat (mn (Int.toNat x1))) (dr (Int.toNat x1)) (sh fr (60 * x1)) (sh tt (60 * x1)) (sh wt (60 * x1)) 0 0 (Int.toNat x2) (Int.toNat v48_5 + 1)) _ v195_6) _ (by omega)) (by omega))⟩
                    · refine r_iconst (pc := 232) (v := iv 1) dX12_isFalling_232 (by decide) ?_
                      refine r_goto (pc := 233) (tgt := 237) dX12_isFalling_233 (by decide) ?_
                      refine Rn.pick (lv' := [(0, .ref y), (1, .int (iv x1)), (2, .int (iv x2)), (3, .int (iv (sz (Int.toNat x1)))), (5, .int (iv v48_5))]) [0, 1, 2, 3, 4] rfl ?_
                      exact B237 _ ht195 1 ⟨by omega, by omega, by (first | exact fl_y (by omega) ((by assumption : rqP (bT (Int.toNat (mn (Int.toNat x1))) (dr (Int.toNat x1)) (sh fr (60 * x1)) (sh tt (60 * x1)) (sh wt (60 * x1)) 0 0 (Int.toNat x2) (Int.toNat v48_5 + 1)) _ v195_6) _ (by omega)) (by omega) | exact fl_n (by assumption) (by omega) (by omega) ((by assumption : rqP (bT (Int.toNat (mn (Int.toNat x1))) (dr (Int.toNat x1)) (sh fr (60 * x1)) (sh tt (60 * x1)) (sh wt (60 * x1)) 0 0 (Int.toNat x2) (Int.toNat v48_5 + 1)) _ v195_6) _ (by omega)) (by omega))⟩
                  · refine r_aload_n (pc := 201) dX12_isFalling_201 (i := 0) rfl rfl ?_
                    refine t_getE (pc := 202) (.ref (y + 29)) ht195 (rd_of RX_y) fX12_97 dX12_isFalling_202 rfl ?_
                    refine r_iload (pc := 205) dX12_isFalling_205 rfl ?_
                    refine r_aload_n (pc := 207) dX12_isFalling_207 (i := 0) rfl rfl ?_
                    refine t_getE (pc := 208) (.ref (y + 30)) ht195 (rd_of RX_y) fX12_100 dX12_isFalling_208 rfl ?_
                    refine r_iload (pc := 211) dX12_isFalling_211 rfl ?_
                    refine t_laldX (pc := 213) (t0 := 1) ht195 (rd_of RX_round2) dX12_isFalling_213 rfl (by decide) (by omega) ?_
                    refine t_lastX (pc := 214) (t0 := 1) ht195 RX_round dX12_isFalling_214 rfl (by decide) (by omega) (fun hp2 ht3 => ?_)
                    have ht4 := RXw_ra ht3
                    refine r_iinc (pc := 215) (v := iv (v195_6 + 1)) (lv' := [(6, .int (iv (v195_6 + 1))), (0, .ref y), (1, .int (iv x1)), (2, .int (iv x2)), (3, .int (iv (sz (Int.toNat x1)))), (5, .int (iv v48_5))]) dX12_isFalling_215 rfl (iv_add _ _) (by decide) rfl ?_
                    refine r_goto (pc := 218) (tgt := 195) dX12_isFalling_218 (by decide) ?_
                    refine Rn.pick (lv' := [(0, .ref y), (1, .int (iv x1)), (2, .int (iv x2)), (3, .int (iv (sz (Int.toNat x1)))), (5, .int (iv v48_5)), (6, .int (iv (v195_6 + 1)))]) [1, 2, 3, 4, 5, 0] rfl ?_
                    exact ih195 (Int.toNat (16 - (v195_6 + 1))) (by omega) (fuj ra195 (Int.toNat v195_6) (rb62 (Int.toNat v195_6))) _ ht4 (v195_6 + 1) ⟨by omega, by omega, by omega, by (first | exact rq_0 | exact rq_up (by assumption) (by omega) ((by assumption : rqP _ _ (sz (Int.toNat x1))) _ (by omega))), by (first | assumption | exact rq_le (v := v62_6) (by assumption) (by omega))⟩ (by omega)
                refine Rn.pick (lv' := [(0, .ref y), (1, .int (iv x1)), (2, .int (iv x2)), (3, .int (iv (sz (Int.toNat x1)))), (5, .int (iv v48_5)), (6, .int (iv 0))]) [1, 2, 3, 4, 5, 0] rfl ?_
                exact B195 (Int.toNat (16 - 0)) ra48 _ ht62 0 ⟨by omega, by omega, by omega, by (first | exact rq_0 | exact rq_up (by assumption) (by omega) ((by assumption : rqP _ _ (sz (Int.toNat x1))) _ (by omega))), by (first | assumption | exact rq_le (v := v62_6) (by assumption) (by omega))⟩ (by omega)
              · refine r_aload_n (pc := 68) dX12_isFalling_68 (i := 0) rfl rfl ?_
                refine t_getE (pc := 69) (.ref (y + 30)) ht62 (rd_of RX_y) fX12_100 dX12_isFalling_69 rfl ?_
                refine r_iload (pc := 72) dX12_isFalling_72 rfl ?_
                refine r_ldc2 (pc := 74) (v := 1000000000000) dX12_isFalling_74 kX12_251 ?_
                have hk74 : (1000000000000 : Int64).toInt = 1000000000000 := by decide
                refine t_lastX (pc := 77) (t0 := 1) ht62 RX_round2 dX12_isFalling_77 rfl (by decide) (by omega) (fun hp5 ht6 => ?_)
                have ht7 := RXw_rb ht6
                refine r_iconst (pc := 78) (v := iv 0) dX12_isFalling_78 (by decide) ?_
                refine r_istore (pc := 79) (lv' := [(7, .int (iv 0)), (0, .ref y), (1, .int (iv x1)), (2, .int (iv x2)), (3, .int (iv (sz (Int.toNat x1)))), (5, .int (iv v48_5)), (6, .int (iv v62_6))]) dX12_isFalling_79 (by decide) rfl ?_
                have B81 : ∀ k : Nat, ∀ rb81 : Nat → Int64, ∀ hp81 : MH, Tw (RX Γ cI cJ cZ y rf cn nm so sz dr mn fr tt wt co nu sa wo ln hw ro qi qc nf nt nw nc cl nx ie be sd bl bs wy ra48 rb81 lb bg os js ls sp jw go de yb ah im) hp81 → ∀  (v81_7 : Int), 0 ≤ v81_7 ∧ v81_7 ≤ 60 ∧ (v81_7 ≤ (mn (Int.toNat x1))) ∧ (rqP (bT (Int.toNat (mn (Int.toNat x1))) (dr (Int.toNat x1)) (sh fr (60 * x1)) (sh tt (60 * x1)) (sh wt (60 * x1)) 0 0 (Int.toNat x2) (Int.toNat v48_5 + 1)) rb81 v62_6) ∧ ((rb81 (Int.toNat v62_6)).toInt = mnS (dr (Int.toNat x1)) (sh fr (60 * x1)) (sh tt (60 * x1)) (sh wt (60 * x1)) 0 0 (bT (Int.toNat (mn (Int.toNat x1))) (dr (Int.toNat x1)) (sh fr (60 * x1)) (sh tt (60 * x1)) (sh wt (60 * x1)) 0 0 (Int.toNat x2) (Int.toNat v48_5)) v62_6 (Int.toNat v81_7)) ∧ (rqP (bT (Int.toNat (mn (Int.toNat x1))) (dr (Int.toNat x1)) (sh fr (60 * x1)) (sh tt (60 * x1)) (sh wt (60 * x1)) 0 0 (Int.toNat x2) (Int.toNat v48_5)) ra48 (sz (Int.toNat x1))) → 60 - v81_7 ≤ (k : Int) → Rn (gG D cI cJ cZ cT lo b L xs) mX12_isFalling d 81 [(0, .ref y), (1, .int (iv x1)), (2, .int (iv x2)), (3, .int (iv (sz (Int.toNat x1)))), (5, .int (iv v48_5)), (6, .int (iv v62_6)), (7, .int (iv v81_7))] [] hp81 n 0 0 Po9 := by
                  refine lpS _ ?_
                  intro k81 ih81 rb81 hp81 ht81 v81_7 hf81 hm81
                  obtain ⟨hf81_0, hf81_1, hf81_2, ha81_3, ha81_4, ha81_5⟩ := hf81
                  refine r_iload (pc := 81) dX12_isFalling_81 rfl ?_
                  refine r_aload_n (pc := 83) dX12_isFalling_83 (i := 0) rfl rfl ?_
                  refine t_getE (pc := 84) (.ref (y + 4)) ht81 (rd_of RX_y) fX12_20 dX12_isFalling_84 rfl ?_
                  refine r_iload_n (pc := 87) dX12_isFalling_87 (i := 1) rfl rfl ?_
                  refine t_ialdX (pc := 88) (t0 := 0) ht81 (rd_of RX_many) dX12_isFalling_88 rfl (by decide) (by omega) (fun b8 => ?_)
                  have rb8 := (show Rfx 121 0 60 mn by assumption) (Int.toNat x1) (by omega)
                  refine t_icmp_ge (pc := 89) (tgt := 186) dX12_isFalling_89 (by decide) (by omega) (by omega) (fun c89 => ?_) (fun c89 => ?_)
                  · refine r_iinc (pc := 186) (v := iv (v62_6 + 1)) (lv' := [(6, .int (iv (v62_6 + 1))), (0, .ref y), (1, .int (iv x1)), (2, .int (iv x2)), (3, .int (iv (sz (Int.toNat x1)))), (5, .int (iv v48_5)), (7, .int (iv v81_7))]) dX12_isFalling_186 rfl (iv_add _ _) (by decide) rfl ?_
                    refine r_goto (pc := 189) (tgt := 62) dX12_isFalling_189 (by decide) ?_
                    refine Rn.pick (lv' := [(0, .ref y), (1, .int (iv x1)), (2, .int (iv x2)), (3, .int (iv (sz (Int.toNat x1)))), (5, .int (iv v48_5)), (6, .int (iv (v62_6 + 1)))]) [1, 2, 3, 4, 5, 0] rfl ?_
                    exact ih62 (Int.toNat (16 - (v62_6 + 1))) (by omega) rb81 _ ht81 (v62_6 + 1) ⟨by omega, by omega, by omega, by (first | exact rq_0 | exact rq_st (by assumption) (by omega) (by assumption) (by rw [show v81_7 = (mn (Int.toNat x1)) by omega]; show _ = mnS _ _ _ _ _ _ _ ((Int.toNat v62_6 : Nat) : Int) _; rw [Int.toNat_of_nonneg (show (0 : Int) ≤ v62_6 by omega)])), by assumption⟩ (by omega)
                  · refine r_aload_n (pc := 92) dX12_isFalling_92 (i := 0) rfl rfl ?_
                    refine r_iload_n (pc := 93) dX12_isFalling_93 (i := 1) rfl rfl ?_
                    refine r_iload (pc := 94) dX12_isFalling_94 rfl ?_
                    refine r_iload (pc := 96) dX12_isFalling_96 rfl ?_
                    obtain ⟨fs13, hfs13⟩ := t_obj ht81 (rd_of RX_y)
                    refine r_callV (pc := 98) (as := [.int (iv x1), .int (iv v81_7), .int (iv v62_6)]) (st := []) kX12_253 rfl dX12_isFalling_98 hfs13 (x_X12_into (d := d - 1) (x1 := x1) (x2 := v81_7) (x3 := v62_6) (by omega) (by assumption) (by assumption) (by assumption) ht81 (by omega) (by omega) (by omega) (fun _ _ _ h => h)) rfl (by omega) (Nat.le_of_ble_eq_true rfl) (Nat.zero_le _) (Nat.zero_le _) rfl (fun r10 hp9 n11 hq12 => ?_)
                    obtain ⟨hnn11, r9_15, ht14, hrr10, hhq120, hhq121⟩ := hq12
                    subst n11 r10
                    have hhq120 : r9_15 = inV fr tt dr x1 v81_7 v62_6 := hhq120
                    have hhq121 : (-1) ≤ r9_15 ∧ r9_15 ≤ 15 := hhq121
                    change Rn _ _ _ 101 _ [.int (iv r9_15)] _ _ _ _ _
                    have hit := itV_inV hhq120 (by omega)
                    refine r_istore (pc := 101) (lv' := [(8, .int (iv r9_15)), (0, .ref y), (1, .int (iv x1)), (2, .int (iv x2)), (3, .int (iv (sz (Int.toNat x1)))), (5, .int (iv v48_5)), (6, .int (iv v62_6)), (7, .int (iv v81_7))]) dX12_isFalling_101 (by decide) rfl ?_
                    refine r_iload (pc := 103) dX12_isFalling_103 rfl ?_
                    refine t_if_lt (pc := 105) (tgt := 180) dX12_isFalling_105 (by decide) (by omega) (fun c105 => ?_) (fun c105 => ?_)
                    · refine r_iinc (pc := 180) (v := iv (v81_7 + 1)) (lv' := [(7, .int (iv (v81_7 + 1))), (8, .int (iv r9_15)), (0, .ref y), (1, .int (iv x1)), (2, .int (iv x2)), (3, .int (iv (sz (Int.toNat x1)))), (5, .int (iv v48_5)), (6, .int (iv v62_6))]) dX12_isFalling_180 rfl (iv_add _ _) (by decide) rfl ?_
                      refine r_goto (pc := 183) (tgt := 81) dX12_isFalling_183 (by decide) ?_
                      refine Rn.pick (lv' := [(0, .ref y), (1, .int (iv x1)), (2, .int (iv x2)), (3, .int (iv (sz (Int.toNat x1)))), (5, .int (iv v48_5)), (6, .int (iv v62_6)), (7, .int (iv (v81_7 + 1)))]) [2, 3, 4, 5, 6, 7, 0] rfl ?_
                      exact ih81 (Int.toNat (60 - (v81_7 + 1))) (by omega) rb81 _ ht14 (v81_7 + 1) ⟨by omega, by omega, by omega, by (first | exact rq_fuj (by assumption) (by omega) | assumption), by (first | (rw [fuj_s]; exact (by decide : (1000000000000 : Int64).toInt = 1000000000000)) | (rw [tn1 (show (0 : Int) ≤ v81_7 by omega)]; first | (rw [fuj_s, mnS_y hus (by omega)]; exact hxx178) | (rw [mnS_n (fun h9 => by have h8 := h9.2; omega)]; assumption) | (rw [mnS_n (fun h9 => by have h8 := h9.1.1; rw [← hit] at h8; omega)]; assumption) | (rw [mnS_n (fun h9 => by have h8 := h9.1.2.2; rw [← hit] at h8; omega)]; assumption))), by assumption⟩ (by omega)
                    · refine r_aload_n (pc := 108) dX12_isFalling_108 (i := 0) rfl rfl ?_
                      refine t_getE (pc := 109) (.ref (y + 29)) ht14 (rd_of RX_y) fX12_97 dX12_isFalling_109 rfl ?_
                      refine r_iload (pc := 112) dX12_isFalling_112 rfl ?_
                      refine t_laldX (pc := 114) (t0 := 1) ht14 (rd_of RX_round) dX12_isFalling_114 rfl (by decide) (by omega) ?_
                      have hun : r9_15 < (sz (Int.toNat x1)) := by have h9 := hFT (Int.toNat v81_7) (by omega); rw [hit]; unfold itV; split <;> first | omega | (split <;> omega)
                      have hbk1 := (by assumption : rqP (bT (Int.toNat (mn (Int.toNat x1))) (dr (Int.toNat x1)) (sh fr (60 * x1)) (sh tt (60 * x1)) (sh wt (60 * x1)) 0 0 (Int.toNat x2) (Int.toNat v48_5)) ra48 (sz (Int.toNat x1))) (Int.toNat r9_15) (by omega)
                      have hbb := bT_bd (m := (Int.toNat (mn (Int.toNat x1)))) (d := (dr (Int.toNat x1))) (F := (sh fr (60 * x1))) (T := (sh tt (60 * x1))) (W := (sh wt (60 * x1))) (kind := 0) (bd := 0) (s := Int.toNat x2) hW9 (Int.toNat v48_5) (Int.toNat r9_15)
                      refine r_ldc2 (pc := 115) (v := 1000000000000) dX12_isFalling_115 kX12_251 ?_
                      have hk115 : (1000000000000 : Int64).toInt = 1000000000000 := by decide
                      refine r_lcmp (pc := 118) dX12_isFalling_118 ?_
                      refine t_lif_ge (pc := 119) (tgt := 180) dX12_isFalling_119 (by decide) (fun c119 => ?_) (fun c119 => ?_)
                      · refine r_iinc (pc := 180) (v := iv (v81_7 + 1)) (lv' := [(7, .int (iv (v81_7 + 1))), (8, .int (iv r9_15)), (0, .ref y), (1, .int (iv x1)), (2, .int (iv x2)), (3, .int (iv (sz (Int.toNat x1)))), (5, .int (iv v48_5)), (6, .int (iv v62_6))]) dX12_isFalling_180 rfl (iv_add _ _) (by decide) rfl ?_
                        refine r_goto (pc := 183) (tgt := 81) dX12_isFalling_183 (by decide) ?_
                        refine Rn.pick (lv' := [(0, .ref y), (1, .int (iv x1)), (2, .int (iv x2)), (3, .int (iv (sz (Int.toNat x1)))), (5, .int (iv v48_5)), (6, .int (iv v62_6)), (7, .int (iv (v81_7 + 1)))]) [2, 3, 4, 5, 6, 7, 0] rfl ?_
                        exact ih81 (Int.toNat (60 - (v81_7 + 1))) (by omega) rb81 _ ht14 (v81_7 + 1) ⟨by omega, by omega, by omega, by (first | exact rq_fuj (by assumption) (by omega) | assumption), by (first | (rw [fuj_s]; exact (by decide : (1000000000000 : Int64).toInt = 1000000000000)) | (rw [tn1 (show (0 : Int) ≤ v81_7 by omega)]; first | (rw [fuj_s, mnS_y hus (by omega)]; exact hxx178) | (rw [mnS_n (fun h9 => by have h8 := h9.2; omega)]; assumption) | (rw [mnS_n (fun h9 => by have h8 := h9.1.1; rw [← hit] at h8; omega)]; assumption) | (rw [mnS_n (fun h9 => by have h8 := h9.1.2.2; rw [← hit] at h8; omega)]; assumption))), by assumption⟩ (by omega)
                      · have hus : usA (dr (Int.toNat x1)) (sh fr (60 * x1)) (sh tt (60 * x1)) (sh wt (60 * x1)) 0 0 (bT (Int.toNat (mn (Int.toNat x1))) (dr (Int.toNat x1)) (sh fr (60 * x1)) (sh tt (60 * x1)) (sh wt (60 * x1)) 0 0 (Int.toNat x2) (Int.toNat v48_5)) v62_6 (Int.toNat v81_7) := ⟨by rw [← hit]; omega, Or.inl (by decide), by rw [← hit]; omega⟩
                        refine r_aload_n (pc := 122) dX12_isFalling_122 (i := 0) rfl rfl ?_
                        refine t_getE (pc := 123) (.ref (y + 29)) ht14 (rd_of RX_y) fX12_97 dX12_isFalling_123 rfl ?_
                        refine r_iload (pc := 126) dX12_isFalling_126 rfl ?_
                        refine t_laldX (pc := 128) (t0 := 1) ht14 (rd_of RX_round) dX12_isFalling_128 rfl (by decide) (by omega) ?_
                        refine r_aload_n (pc := 129) dX12_isFalling_129 (i := 0) rfl rfl ?_
                        refine t_getE (pc := 130) (.ref (y + 7)) ht14 (rd_of RX_y) fX12_29 dX12_isFalling_130 rfl ?_
                        refine r_iload_n (pc := 133) dX12_isFalling_133 (i := 1) rfl rfl ?_
                        refine r_iload (pc := 134) dX12_isFalling_134 rfl ?_
                        refine t_callSI (pc := 136) (as := [.int (iv x1), .int (iv v81_7)]) (st := [.ref (y + 7), .long (ra48 (Int.toNat r9_15))]) kX12_157 dX12_isFalling_136 (t_X12_at1x (d := d - 1) (x1 := x1) (x2 := v81_7) (by omega)  ht14 (by omega) (by omega)) rfl (by omega) (Nat.le_of_ble_eq_true rfl) rfl (fun hp16 y18 ht17 by18 => ?_)
                        have ey18 : y18 = 60 * x1 + v81_7 := by18
                        subst ey18
                        refine t_ialdX (pc := 139) (t0 := 0) ht17 (rd_of RX_weight) dX12_isFalling_139 rfl (by decide) (by omega) (fun b19 => ?_)
                        have rb19 := (show Rfx 7260 (-1000) 1000 wt by assumption) (Int.toNat (60 * x1 + v81_7)) (by omega)
                        refine r_i2l (pc := 140) (v := (iv (wt (Int.toNat (60 * x1 + v81_7)))).toInt64) dX12_isFalling_140 rfl ?_
                        refine r_ladd (pc := 141) (v := (ra48 (Int.toNat r9_15)) + ((iv (wt (Int.toNat (60 * x1 + v81_7)))).toInt64)) dX12_isFalling_141 rfl ?_
                        have hxx141 : ((ra48 (Int.toNat r9_15)) + ((iv (wt (Int.toNat (60 * x1 + v81_7)))).toInt64)).toInt = vaA (dr (Int.toNat x1)) (sh fr (60 * x1)) (sh tt (60 * x1)) (sh wt (60 * x1)) 0 (bT (Int.toNat (mn (Int.toNat x1))) (dr (Int.toNat x1)) (sh fr (60 * x1)) (sh tt (60 * x1)) (sh wt (60 * x1)) 0 0 (Int.toNat x2) (Int.toNat v48_5)) v62_6 (Int.toNat v81_7) := by
                          have e9 := iv_long (x := wt (Int.toNat (60 * x1 + v81_7))) (by have h9 := hR_weight (Int.toNat (60 * x1 + v81_7)) (by omega); omega)
                          have e8 := hR_weight (Int.toNat (60 * x1 + v81_7)) (by omega)
                          rw [l_add (by omega)]
                          unfold vaA prA
                          rw [if_pos rfl, ← hit, ← sh_at wt (60 * x1) (v := v81_7) (by omega)]; omega
                        refine r_aload_n (pc := 142) dX12_isFalling_142 (i := 0) rfl rfl ?_
                        refine t_getE (pc := 143) (.ref (y + 30)) ht17 (rd_of RX_y) fX12_100 dX12_isFalling_143 rfl ?_
                        refine r_iload (pc := 146) dX12_isFalling_146 rfl ?_
                        refine t_laldX (pc := 148) (t0 := 1) ht17 (rd_of RX_round2) dX12_isFalling_148 rfl (by decide) (by omega) ?_
                        refine r_lcmp (pc := 149) dX12_isFalling_149 ?_
                        refine t_lif_ge (pc := 150) (tgt := 180) dX12_isFalling_150 (by decide) (fun c150 => ?_) (fun c150 => ?_)
                        · refine r_iinc (pc := 180) (v := iv (v81_7 + 1)) (lv' := [(7, .int (iv (v81_7 + 1))), (8, .int (iv r9_15)), (0, .ref y), (1, .int (iv x1)), (2, .int (iv x2)), (3, .int (iv (sz (Int.toNat x1)))), (5, .int (iv v48_5)), (6, .int (iv v62_6))]) dX12_isFalling_180 rfl (iv_add _ _) (by decide) rfl ?_
                          refine r_goto (pc := 183) (tgt := 81) dX12_isFalling_183 (by decide) ?_
                          refine Rn.pick (lv' := [(0, .ref y), (1, .int (iv x1)), (2, .int (iv x2)), (3, .int (iv (sz (Int.toNat x1)))), (5, .int (iv v48_5)), (6, .int (iv v62_6)), (7, .int (iv (v81_7 + 1)))]) [2, 3, 4, 5, 6, 7, 0] rfl ?_
                          exact ih81 (Int.toNat (60 - (v81_7 + 1))) (by omega) rb81 _ ht17 (v81_7 + 1) ⟨by omega, by omega, by omega, by (first | exact rq_fuj (by assumption) (by omega) | assumption), by (first | (rw [fuj_s]; exact (by decide : (1000000000000 : Int64).toInt = 1000000000000)) | (rw [tn1 (show (0 : Int) ≤ v81_7 by omega)]; first | (rw [fuj_s, mnS_y hus (by omega)]; exact hxx178) | (rw [mnS_n (fun h9 => by have h8 := h9.2; omega)]; assumption) | (rw [mnS_n (fun h9 => by have h8 := h9.1.1; rw [← hit] at h8; omega)]; assumption) | (rw [mnS_n (fun h9 => by have h8 := h9.1.2.2; rw [← hit] at h8; omega)]; assumption))), by assumption⟩ (by omega)
                        · refine r_aload_n (pc := 153) dX12_isFalling_153 (i := 0) rfl rfl ?_
                          refine t_getE (pc := 154) (.ref (y + 30)) ht17 (rd_of RX_y) fX12_100 dX12_isFalling_154 rfl ?_
                          refine r_iload (pc := 157) dX12_isFalling_157 rfl ?_
                          refine r_aload_n (pc := 159) dX12_isFalling_159 (i := 0) rfl rfl ?_
                          refine t_getE (pc := 160) (.ref (y + 29)) ht17 (rd_of RX_y) fX12_97 dX12_isFalling_160 rfl ?_
                          refine r_iload (pc := 163) dX12_isFalling_163 rfl ?_
                          refine t_laldX (pc := 165) (t0 := 1) ht17 (rd_of RX_round) dX12_isFalling_165 rfl (by decide) (by omega) ?_
                          refine r_aload_n (pc := 166) dX12_isFalling_166 (i := 0) rfl rfl ?_
                          refine t_getE (pc := 167) (.ref (y + 7)) ht17 (rd_of RX_y) fX12_29 dX12_isFalling_167 rfl ?_
                          refine r_iload_n (pc := 170) dX12_isFalling_170 (i := 1) rfl rfl ?_
                          refine r_iload (pc := 171) dX12_isFalling_171 rfl ?_
                          refine t_callSI (pc := 173) (as := [.int (iv x1), .int (iv v81_7)]) (st := [.ref (y + 7), .long (ra48 (Int.toNat r9_15)), .int (iv v62_6), .ref (y + 30)]) kX12_157 dX12_isFalling_173 (t_X12_at1x (d := d - 1) (x1 := x1) (x2 := v81_7) (by omega)  ht17 (by omega) (by omega)) rfl (by omega) (Nat.le_of_ble_eq_true rfl) rfl (fun hp20 y22 ht21 by22 => ?_)
                          have ey22 : y22 = 60 * x1 + v81_7 := by22
                          subst ey22
                          refine t_ialdX (pc := 176) (t0 := 0) ht21 (rd_of RX_weight) dX12_isFalling_176 rfl (by decide) (by omega) (fun b23 => ?_)
                          have rb23 := (show Rfx 7260 (-1000) 1000 wt by assumption) (Int.toNat (60 * x1 + v81_7)) (by omega)
                          refine r_i2l (pc := 177) (v := (iv (wt (Int.toNat (60 * x1 + v81_7)))).toInt64) dX12_isFalling_177 rfl ?_
                          refine r_ladd (pc := 178) (v := (ra48 (Int.toNat r9_15)) + ((iv (wt (Int.toNat (60 * x1 + v81_7)))).toInt64)) dX12_isFalling_178 rfl ?_
                          have hxx178 : ((ra48 (Int.toNat r9_15)) + ((iv (wt (Int.toNat (60 * x1 + v81_7)))).toInt64)).toInt = vaA (dr (Int.toNat x1)) (sh fr (60 * x1)) (sh tt (60 * x1)) (sh wt (60 * x1)) 0 (bT (Int.toNat (mn (Int.toNat x1))) (dr (Int.toNat x1)) (sh fr (60 * x1)) (sh tt (60 * x1)) (sh wt (60 * x1)) 0 0 (Int.toNat x2) (Int.toNat v48_5)) v62_6 (Int.toNat v81_7) := by
                            have e9 := iv_long (x := wt (Int.toNat (60 * x1 + v81_7))) (by have h9 := hR_weight (Int.toNat (60 * x1 + v81_7)) (by omega); omega)
                            have e8 := hR_weight (Int.toNat (60 * x1 + v81_7)) (by omega)
                            rw [l_add (by omega)]
                            unfold vaA prA
                            rw [if_pos rfl, ← hit, ← sh_at wt (60 * x1) (v := v81_7) (by omega)]; omega
                          refine t_lastX (pc := 179) (t0 := 1) ht21 RX_round2 dX12_isFalling_179 rfl (by decide) (by omega) (fun hp24 ht25 => ?_)
                          have ht26 := RXw_rb ht25
                          refine r_iinc (pc := 180) (v := iv (v81_7 + 1)) (lv' := [(7, .int (iv (v81_7 + 1))), (8, .int (iv r9_15)), (0, .ref y), (1, .int (iv x1)), (2, .int (iv x2)), (3, .int (iv (sz (Int.toNat x1)))), (5, .int (iv v48_5)), (6, .int (iv v62_6))]) dX12_isFalling_180 rfl (iv_add _ _) (by decide) rfl ?_
                          refine r_goto (pc := 183) (tgt := 81) dX12_isFalling_183 (by decide) ?_
                          refine Rn.pick (lv' := [(0, .ref y), (1, .int (iv x1)), (2, .int (iv x2)), (3, .int (iv (sz (Int.toNat x1)))), (5, .int (iv v48_5)), (6, .int (iv v62_6)), (7, .int (iv (v81_7 + 1)))]) [2, 3, 4, 5, 6, 7, 0] rfl ?_
                          exact ih81 (Int.toNat (60 - (v81_7 + 1))) (by omega) (fuj rb81 (Int.toNat v62_6) ((ra48 (Int.toNat r9_15)) + ((iv (wt (Int.toNat (60 * x1 + v81_7)))).toInt64))) _ ht26 (v81_7 + 1) ⟨by omega, by omega, by omega, by (first | exact rq_fuj (by assumption) (by omega) | assumption), by (first | (rw [fuj_s]; exact (by decide : (1000000000000 : Int64).toInt = 1000000000000)) | (rw [tn1 (show (0 : Int) ≤ v81_7 by omega)]; first | (rw [fuj_s, mnS_y hus (by omega)]; exact hxx178) | (rw [mnS_n (fun h9 => by have h8 := h9.2; omega)]; assumption) | (rw [mnS_n (fun h9 => by have h8 := h9.1.1; rw [← hit] at h8; omega)]; assumption) | (rw [mnS_n (fun h9 => by have h8 := h9.1.2.2; rw [← hit] at h8; omega)]; assumption))), by assumption⟩ (by omega)
                refine Rn.pick (lv' := [(0, .ref y), (1, .int (iv x1)), (2, .int (iv x2)), (3, .int (iv (sz (Int.toNat x1)))), (5, .int (iv v48_5)), (6, .int (iv v62_6)), (7, .int (iv 0))]) [1, 2, 3, 4, 5, 6, 0] rfl ?_
                exact B81 (Int.toNat (60 - 0)) (fuj rb62 (Int.toNat v62_6) (1000000000000 : Int64)) _ ht7 0 ⟨by omega, by omega, by omega, by (first | exact rq_fuj (by assumption) (by omega) | assumption), by (first | (rw [fuj_s]; exact (by decide : (1000000000000 : Int64).toInt = 1000000000000)) | (rw [tn1 (show (0 : Int) ≤ v81_7 by omega)]; first | (rw [fuj_s, mnS_y hus (by omega)]; exact hxx178) | (rw [mnS_n (fun h9 => by have h8 := h9.2; omega)]; assumption) | (rw [mnS_n (fun h9 => by have h8 := h9.1.1; rw [← hit] at h8; omega)]; assumption) | (rw [mnS_n (fun h9 => by have h8 := h9.1.2.2; rw [← hit] at h8; omega)]; assumption))), by assumption⟩ (by omega)
            refine Rn.pick (lv' := [(0, .ref y), (1, .int (iv x1)), (2, .int (iv x2)), (3, .int (iv (sz (Int.toNat x1)))), (5, .int (iv v48_5)), (6, .int (iv 0))]) [1, 2, 3, 4, 6, 0] rfl ?_
            exact B62 (Int.toNat (16 - 0)) rb48 _ ht48 0 ⟨by omega, by omega, by omega, by (first | exact rq_0 | exact rq_st (by assumption) (by omega) (by assumption) (by rw [show v81_7 = (mn (Int.toNat x1)) by omega]; show _ = mnS _ _ _ _ _ _ _ ((Int.toNat v62_6 : Nat) : Int) _; rw [Int.toNat_of_nonneg (show (0 : Int) ≤ v62_6 by omega)])), by assumption⟩ (by omega)
      refine Rn.pick (lv' := [(0, .ref y), (1, .int (iv x1)), (2, .int (iv x2)), (3, .int (iv (sz (Int.toNat x1)))), (4, .int (iv 0)), (5, .int (iv 0))]) [2, 3, 4, 5, 1, 0] rfl ?_
      exact B48 (Int.toNat (16 - 0)) ra10 rb _ ht10 0 0 ⟨by omega, by omega, by omega, by omega, by omega, by (first | exact rq_le (v := v10_4) (by assumption) (by omega) | (rw [tn1 (show (0 : Int) ≤ v48_5 by omega)]; exact rq_le (v := v195_6) (by assumption) (by omega))), by (first | exact fl_0 | assumption)⟩ (by omega)
    · refine r_aload_n (pc := 16) dX12_isFalling_16 (i := 0) rfl rfl ?_
      refine t_getE (pc := 17) (.ref (y + 29)) ht10 (rd_of RX_y) fX12_97 dX12_isFalling_17 rfl ?_
      refine r_iload (pc := 20) dX12_isFalling_20 rfl ?_
      refine r_iload (pc := 22) dX12_isFalling_22 rfl ?_
      refine r_iload_n (pc := 24) dX12_isFalling_24 (i := 2) rfl rfl ?_
      refine t_icmp_ne (pc := 25) (tgt := 32) dX12_isFalling_25 (by decide) (by omega) (by omega) (fun c25 => ?_) (fun c25 => ?_)
      · refine r_ldc2 (pc := 32) (v := 1000000000000) dX12_isFalling_32 kX12_251 ?_
        have hk32 : (1000000000000 : Int64).toInt = 1000000000000 := by decide
        refine t_lastX (pc := 35) (t0 := 1) ht10 RX_round dX12_isFalling_35 rfl (by decide) (by omega) (fun hp27 ht28 => ?_)
        have ht29 := RXw_ra ht28
        refine r_iinc (pc := 36) (v := iv (v10_4 + 1)) (lv' := [(4, .int (iv (v10_4 + 1))), (0, .ref y), (1, .int (iv x1)), (2, .int (iv x2)), (3, .int (iv (sz (Int.toNat x1))))]) dX12_isFalling_36 rfl (iv_add _ _) (by decide) rfl ?_
        refine r_goto (pc := 39) (tgt := 10) dX12_isFalling_39 (by decide) ?_
        refine Rn.pick (lv' := [(0, .ref y), (1, .int (iv x1)), (2, .int (iv x2)), (3, .int (iv (sz (Int.toNat x1)))), (4, .int (iv (v10_4 + 1)))]) [1, 2, 3, 4, 0] rfl ?_
        exact ih10 (Int.toNat (16 - (v10_4 + 1))) (by omega) (fuj ra10 (Int.toNat v10_4) (1000000000000 : Int64)) _ ht29 (v10_4 + 1) ⟨by omega, by omega, by omega, by (first | exact rq_0 | exact rq_up (by assumption) (by omega) (by show _ = (if _ then (0 : Int) else 1000000000000); first | (rw [if_pos (by omega)]; rfl) | (rw [if_neg (by omega)]; decide)))⟩ (by omega)
      · refine r_lconst (pc := 28) (v := 0) dX12_isFalling_28 (by decide) ?_
        have hk28 : (0 : Int64).toInt = 0 := by decide
        refine r_goto (pc := 29) (tgt := 35) dX12_isFalling_29 (by decide) ?_
        refine t_lastX (pc := 35) (t0 := 1) ht10 RX_round dX12_isFalling_35 rfl (by decide) (by omega) (fun hp30 ht31 => ?_)
        have ht32 := RXw_ra ht31
        refine r_iinc (pc := 36) (v := iv (v10_4 + 1)) (lv' := [(4, .int (iv (v10_4 + 1))), (0, .ref y), (1, .int (iv x1)), (2, .int (iv x2)), (3, .int (iv (sz (Int.toNat x1))))]) dX12_isFalling_36 rfl (iv_add _ _) (by decide) rfl ?_
        refine r_goto (pc := 39) (tgt := 10) dX12_isFalling_39 (by decide) ?_
        refine Rn.pick (lv' := [(0, .ref y), (1, .int (iv x1)), (2, .int (iv x2)), (3, .int (iv (sz (Int.toNat x1)))), (4, .int (iv (v10_4 + 1)))]) [1, 2, 3, 4, 0] rfl ?_
        exact ih10 (Int.toNat (16 - (v10_4 + 1))) (by omega) (fuj ra10 (Int.toNat v10_4) (0 : Int64)) _ ht32 (v10_4 + 1) ⟨by omega, by omega, by omega, by (first | exact rq_0 | exact rq_up (by assumption) (by omega) (by show _ = (if _ then (0 : Int) else 1000000000000); first | (rw [if_pos (by omega)]; rfl) | (rw [if_neg (by omega)]; decide)))⟩ (by omega)
  refine Rn.pick (lv' := [(0, .ref y), (1, .int (iv x1)), (2, .int (iv x2)), (3, .int (iv (sz (Int.toNat x1)))), (4, .int (iv 0))]) [2, 3, 4, 1, 0] rfl ?_
  exact B10 (Int.toNat (16 - 0)) ra _ ht 0 ⟨by omega, by omega, by omega, by (first | exact rq_0 | exact rq_up (by assumption) (by omega) (by show _ = (if _ then (0 : Int) else 1000000000000); first | (rw [if_pos (by omega)]; rfl) | (rw [if_neg (by omega)]; decide)))⟩ (by omega)
set_option maxHeartbeats 4000000 in
set_option maxRecDepth 100000 in
theorem x_X12_isEndless {D : va_G} {cI cJ cZ cT : ClassId} {lo b L : Nat} {xs : Nat → Int32} {hp : MH} {n d : Nat} {Γ : TG} {y : Nat} {rf cn nm : Int} {so sz dr mn fr tt wt co : Nat → Int} {nu : Nat → Int64} {sa : Nat → Int} {wo : Nat → Int64} {ln : Nat → Int} {hw : Nat → Int64} {ro qi qc nf nt nw nc : Nat → Int} {cl nx : Nat → Int64} {ie be sd bl : Nat → Int} {bs wy ra rb : Nat → Int64} {lb bg os js ls : Nat → Int} {sp : Nat → Int64} {jw go : Nat → Int} {de : Nat → Int64} {yb ah im : Nat → Int} {x1 x2 x3 : Int} {Po9 : Option Value → MH → Nat → Prop} (hd0 : 3 ≤ d) (hR_sizes : Rfx 121 0 16 sz) (hR_many : Rfx 121 0 60 mn) (hR_from : Rfx 7260 0 15 fr) (hR_to : Rfx 7260 0 15 tt) (hR_weight : Rfx 7260 (-1000) 1000 wt) (hR_directs : Rfx 121 0 1 dr) (ht : Tw (RX Γ cI cJ cZ y rf cn nm so sz dr mn fr tt wt co nu sa wo ln hw ro qi qc nf nt nw nc cl nx ie be sd bl bs wy ra rb lb bg os js ls sp jw go de yb ah im) hp) (hx1 : 0 ≤ x1 ∧ x1 ≤ 120) (hx2 : 0 ≤ x2 ∧ x2 ≤ 15) (hx3 : 0 ≤ x3 ∧ x3 ≤ 15) (hEn : enP fr tt mn sz x1) (hx9 : x2 < (sz (Int.toNat x1)) ∧ x3 < (sz (Int.toNat x1))) (hPo : ∀ r hp1 n1, (n1 = n ∧ ∃ (k1 : Nat → Int64) (w1 : Nat → Int64) (r9 : Int), Tw (RX Γ cI cJ cZ y rf cn nm so sz dr mn fr tt wt co nu sa wo ln hw ro qi qc nf nt nw nc cl nx ie be sd bl bs wy k1 w1 lb bg os js ls sp jw go de yb ah im) hp1 ∧ r = some (.int (iv r9)) ∧ (0 ≤ r9 ∧ r9 ≤ 1) ∧ ((r9 = 1 ∧ edP (Int.toNat (mn (Int.toNat x1))) (dr (Int.toNat x1)) (sh fr (60 * x1)) (sh tt (60 * x1)) (sh wt (60 * x1)) (sz (Int.toNat x1)) (Int.toNat x2) (Int.toNat x3)) ∨ (r9 = 0 ∧ ¬ edP (Int.toNat (mn (Int.toNat x1))) (dr (Int.toNat x1)) (sh fr (60 * x1)) (sh tt (60 * x1)) (sh wt (60 * x1)) (sz (Int.toNat x1)) (Int.toNat x2) (Int.toNat x3)))) → Po9 r hp1 n1) : Mt (gG D cI cJ cZ cT lo b L xs) mX12_isEndless d 0 0 [.ref y, .int (iv x1), .int (iv x2), .int (iv x3)] hp n Po9 := by
  refine Mt.of rfl (Nat.le_of_ble_eq_true rfl) ?_
  refine Rn.pick (lv' := [(0, .ref y), (1, .int (iv x1)), (2, .int (iv x2)), (3, .int (iv x3))]) [0, 1, 2, 3] rfl ?_
  have rsz := hR_sizes (Int.toNat x1) (by omega)
  have rmn := hR_many (Int.toNat x1) (by omega)
  have rdr := hR_directs (Int.toNat x1) (by omega)
  have hFT := enF hEn (by assumption) (by assumption) (by omega) (by omega)
  refine r_aload_n (pc := 0) dX12_isEndless_0 (i := 0) rfl rfl ?_
  refine t_getE (pc := 1) (.ref (y + 2)) ht (rd_of RX_y) fX12_13 dX12_isEndless_1 rfl ?_
  refine r_iload_n (pc := 4) dX12_isEndless_4 (i := 1) rfl rfl ?_
  refine t_ialdX (pc := 5) (t0 := 0) ht (rd_of RX_sizes) dX12_isEndless_5 rfl (by decide) (by omega) (fun b1 => ?_)
  have rb1 := (show Rfx 121 0 16 sz by assumption) (Int.toNat x1) (by omega)
  refine r_istore (pc := 6) (lv' := [(4, .int (iv (sz (Int.toNat x1)))), (0, .ref y), (1, .int (iv x1)), (2, .int (iv x2)), (3, .int (iv x3))]) dX12_isEndless_6 (by decide) rfl ?_
  refine r_iconst (pc := 8) (v := iv 0) dX12_isEndless_8 (by decide) ?_
  refine r_istore (pc := 9) (lv' := [(5, .int (iv 0)), (4, .int (iv (sz (Int.toNat x1)))), (0, .ref y), (1, .int (iv x1)), (2, .int (iv x2)), (3, .int (iv x3))]) dX12_isEndless_9 (by decide) rfl ?_
  refine r_iconst (pc := 11) (v := iv 0) dX12_isEndless_11 (by decide) ?_
  refine r_istore (pc := 12) (lv' := [(6, .int (iv 0)), (5, .int (iv 0)), (4, .int (iv (sz (Int.toNat x1)))), (0, .ref y), (1, .int (iv x1)), (2, .int (iv x2)), (3, .int (iv x3))]) dX12_isEndless_12 (by decide) rfl ?_
  have B14 : ∀ k : Nat, ∀ ra14 : Nat → Int64, ∀ rb14 : Nat → Int64, ∀ hp14 : MH, Tw (RX Γ cI cJ cZ y rf cn nm so sz dr mn fr tt wt co nu sa wo ln hw ro qi qc nf nt nw nc cl nx ie be sd bl bs wy ra14 rb14 lb bg os js ls sp jw go de yb ah im) hp14 → ∀  (v14_5 : Int) (v14_6 : Int), 0 ≤ v14_5 ∧ v14_5 ≤ 65535 ∧ 0 ≤ v14_6 ∧ v14_6 ≤ 16 ∧ (v14_6 ≤ (sz (Int.toNat x1))) ∧ (faS (Int.toNat (mn (Int.toNat x1))) (dr (Int.toNat x1)) (sh fr (60 * x1)) (sh tt (60 * x1)) (sh wt (60 * x1)) (sz (Int.toNat x1)) (Int.toNat x2) v14_6 v14_5) → 16 - v14_6 ≤ (k : Int) → Rn (gG D cI cJ cZ cT lo b L xs) mX12_isEndless d 14 [(0, .ref y), (1, .int (iv x1)), (2, .int (iv x2)), (3, .int (iv x3)), (4, .int (iv (sz (Int.toNat x1)))), (5, .int (iv v14_5)), (6, .int (iv v14_6))] [] hp14 n 0 0 Po9 := by
    refine lpS _ ?_
    intro k14 ih14 ra14 rb14 hp14 ht14 v14_5 v14_6 hf14 hm14
    obtain ⟨hf14_0, hf14_1, hf14_2, hf14_3, hf14_4, ha14_5⟩ := hf14
    refine r_iload (pc := 14) dX12_isEndless_14 rfl ?_
    refine r_iload (pc := 16) dX12_isEndless_16 rfl ?_
    refine t_icmp_ge (pc := 18) (tgt := 63) dX12_isEndless_18 (by decide) (by omega) (by omega) (fun c18 => ?_) (fun c18 => ?_)
    · refine r_iload (pc := 63) dX12_isEndless_63 rfl ?_
      refine t_if_eq (pc := 65) (tgt := 87) dX12_isEndless_65 (by decide) (by omega) (fun c65 => ?_) (fun c65 => ?_)
      · refine r_iconst (pc := 87) (v := iv 0) dX12_isEndless_87 (by decide) ?_
        exact r_zret (pc := 88) dX12_isEndless_88 rfl (iv_nar (by omega)) (hPo _ _ _ ⟨rfl, ra14, rb14, 0, ht14, rfl, (by omega), (by first | exact Or.inl ⟨rfl, hed.mp pm80⟩ | exact Or.inr ⟨rfl, fun h9 => nm80 (hed.mpr h9)⟩ | exact Or.inr ⟨rfl, ed_no (by assumption : faS (Int.toNat (mn (Int.toNat x1))) (dr (Int.toNat x1)) (sh fr (60 * x1)) (sh tt (60 * x1)) (sh wt (60 * x1)) (sz (Int.toNat x1)) (Int.toNat x2) v14_6 v14_5) (by omega) (by omega)⟩)⟩)
      · refine r_aload_n (pc := 68) dX12_isEndless_68 (i := 0) rfl rfl ?_
        refine r_iload_n (pc := 69) dX12_isEndless_69 (i := 1) rfl rfl ?_
        refine r_iload (pc := 70) dX12_isEndless_70 rfl ?_
        obtain ⟨fs6, hfs6⟩ := t_obj ht14 (rd_of RX_y)
        refine r_callV (pc := 72) (as := [.int (iv x1), .int (iv v14_5)]) (st := []) kX12_283 rfl dX12_isEndless_72 hfs6 (x_X12_reachAll (d := d - 1) (x1 := x1) (x2 := v14_5) (by omega) (by assumption) (by assumption) (by assumption) (by assumption) (by assumption) ht14 (by omega) (by omega) (by assumption) (fun _ _ _ h => h)) rfl (by omega) (Nat.le_of_ble_eq_true rfl) (Nat.zero_le _) (Nat.zero_le _) rfl (fun r3 hp2 n4 hq5 => ?_)
        obtain ⟨hnn4, r9_8, ht7, hrr3, hhq50, hhq51⟩ := hq5
        subst n4 r3
        have hhq50 : 0 ≤ r9_8 ∧ r9_8 ≤ 65535 := hhq50
        have hhq51 : ∀ j, Me r9_8 j ↔ RC (stP (Int.toNat (mn (Int.toNat x1))) (dr (Int.toNat x1)) (sh fr (60 * x1)) (sh tt (60 * x1))) (fun x => Me v14_5 x) j := hhq51
        change Rn _ _ _ 75 _ [.int (iv r9_8)] _ _ _ _ _
        have hed := ed_iff (v := Int.toNat x3) (by assumption : faS (Int.toNat (mn (Int.toNat x1))) (dr (Int.toNat x1)) (sh fr (60 * x1)) (sh tt (60 * x1)) (sh wt (60 * x1)) (sz (Int.toNat x1)) (Int.toNat x2) v14_6 v14_5) (by omega) hhq51
        refine r_iload_n (pc := 75) dX12_isEndless_75 (i := 3) rfl rfl ?_
        have hq76_9 := shr_le (Int.toNat r9_8) (Int.toNat x3)
        refine r_ishr (pc := 76) (v := iv ((Int.toNat r9_8 >>> Int.toNat x3 : Nat) : Int)) dX12_isEndless_76 (shr_e (by omega) (by omega)) ?_
        refine r_iconst (pc := 77) (v := iv 1) dX12_isEndless_77 (by decide) ?_
        refine r_iand (pc := 78) (v := iv (((Int.toNat r9_8 >>> Int.toNat x3 : Nat) : Int) % 2)) dX12_isEndless_78 (and1_e _ (by omega)) ?_
        have mb78 := @Me_bit r9_8 x3
        refine r_iconst (pc := 79) (v := iv 1) dX12_isEndless_79 (by decide) ?_
        refine t_icmp_ne (pc := 80) (tgt := 87) dX12_isEndless_80 (by decide) (by omega) (by omega) (fun c80 => ?_) (fun c80 => ?_)
        · have nm80 : ¬ Me r9_8 (Int.toNat x3) := fun h9 => absurd (Me_bit.mpr h9) (by omega)
          refine r_iconst (pc := 87) (v := iv 0) dX12_isEndless_87 (by decide) ?_
          exact r_zret (pc := 88) dX12_isEndless_88 rfl (iv_nar (by omega)) (hPo _ _ _ ⟨rfl, ra14, rb14, 0, ht7, rfl, (by omega), (by first | exact Or.inl ⟨rfl, hed.mp pm80⟩ | exact Or.inr ⟨rfl, fun h9 => nm80 (hed.mpr h9)⟩ | exact Or.inr ⟨rfl, ed_no (by assumption : faS (Int.toNat (mn (Int.toNat x1))) (dr (Int.toNat x1)) (sh fr (60 * x1)) (sh tt (60 * x1)) (sh wt (60 * x1)) (sz (Int.toNat x1)) (Int.toNat x2) v14_6 v14_5) (by omega) (by omega)⟩)⟩)
        · have pm80 : Me r9_8 (Int.toNat x3) := Me_bit.mp (by omega)
          refine r_iconst (pc := 83) (v := iv 1) dX12_isEndless_83 (by decide) ?_
          refine r_goto (pc := 84) (tgt := 88) dX12_isEndless_84 (by decide) ?_
          exact r_zret (pc := 88) dX12_isEndless_88 rfl (iv_nar (by omega)) (hPo _ _ _ ⟨rfl, ra14, rb14, 1, ht7, rfl, (by omega), (by first | exact Or.inl ⟨rfl, hed.mp pm80⟩ | exact Or.inr ⟨rfl, fun h9 => nm80 (hed.mpr h9)⟩ | exact Or.inr ⟨rfl, ed_no (by assumption : faS (Int.toNat (mn (Int.toNat x1))) (dr (Int.toNat x1)) (sh fr (60 * x1)) (sh tt (60 * x1)) (sh wt (60 * x1)) (sz (Int.toNat x1)) (Int.toNat x2) v14_6 v14_5) (by omega) (by omega)⟩)⟩)
    · refine r_aload_n (pc := 21) dX12_isEndless_21 (i := 0) rfl rfl ?_
      refine r_iload_n (pc := 22) dX12_isEndless_22 (i := 1) rfl rfl ?_
      refine r_iconst (pc := 23) (v := iv 1) dX12_isEndless_23 (by decide) ?_
      refine r_iload_n (pc := 24) dX12_isEndless_24 (i := 2) rfl rfl ?_
      refine r_ishl (pc := 25) (v := iv ((2 ^ Int.toNat x2 : Nat) : Int)) dX12_isEndless_25 (shl_e (by omega)) ?_
      have mp25_10 : 1 ≤ 2 ^ Int.toNat x2 := Nat.one_le_two_pow
      have mq25_11 : 2 ^ Int.toNat x2 ≤ 2 ^ 15 := Nat.pow_le_pow_right (by omega) (by omega)
      have ms25 := Me_shl (Int.toNat x2)
      obtain ⟨fs16, hfs16⟩ := t_obj ht14 (rd_of RX_y)
      refine r_callV (pc := 26) (as := [.int (iv x1), .int (iv ((2 ^ Int.toNat x2 : Nat) : Int))]) (st := []) kX12_283 rfl dX12_isEndless_26 hfs16 (x_X12_reachAll (d := d - 1) (x1 := x1) (x2 := ((2 ^ Int.toNat x2 : Nat) : Int)) (by omega) (by assumption) (by assumption) (by assumption) (by assumption) (by assumption) ht14 (by omega) (by omega) (by assumption) (fun _ _ _ h => h)) rfl (by omega) (Nat.le_of_ble_eq_true rfl) (Nat.zero_le _) (Nat.zero_le _) rfl (fun r13 hp12 n14 hq15 => ?_)
      obtain ⟨hnn14, r9_18, ht17, hrr13, hhq150, hhq151⟩ := hq15
      subst n14 r13
      have hhq150 : 0 ≤ r9_18 ∧ r9_18 ≤ 65535 := hhq150
      have hhq151 : ∀ j, Me r9_18 j ↔ RC (stP (Int.toNat (mn (Int.toNat x1))) (dr (Int.toNat x1)) (sh fr (60 * x1)) (sh tt (60 * x1))) (fun x => Me ((2 ^ Int.toNat x2 : Nat) : Int) x) j := hhq151
      change Rn _ _ _ 29 _ [.int (iv r9_18)] _ _ _ _ _
      have hraV := fun j => (hhq151 j).trans (RC_pt ms25 j)
      refine r_iload (pc := 29) dX12_isEndless_29 rfl ?_
      have hq31_19 := shr_le (Int.toNat r9_18) (Int.toNat v14_6)
      refine r_ishr (pc := 31) (v := iv ((Int.toNat r9_18 >>> Int.toNat v14_6 : Nat) : Int)) dX12_isEndless_31 (shr_e (by omega) (by omega)) ?_
      refine r_iconst (pc := 32) (v := iv 1) dX12_isEndless_32 (by decide) ?_
      refine r_iand (pc := 33) (v := iv (((Int.toNat r9_18 >>> Int.toNat v14_6 : Nat) : Int) % 2)) dX12_isEndless_33 (and1_e _ (by omega)) ?_
      have mb33 := @Me_bit r9_18 v14_6
      refine r_iconst (pc := 34) (v := iv 1) dX12_isEndless_34 (by decide) ?_
      refine t_icmp_ne (pc := 35) (tgt := 57) dX12_isEndless_35 (by decide) (by omega) (by omega) (fun c35 => ?_) (fun c35 => ?_)
      · have nm35 : ¬ Me r9_18 (Int.toNat v14_6) := fun h9 => absurd (Me_bit.mpr h9) (by omega)
        refine r_iinc (pc := 57) (v := iv (v14_6 + 1)) (lv' := [(6, .int (iv (v14_6 + 1))), (0, .ref y), (1, .int (iv x1)), (2, .int (iv x2)), (3, .int (iv x3)), (4, .int (iv (sz (Int.toNat x1)))), (5, .int (iv v14_5))]) dX12_isEndless_57 rfl (iv_add _ _) (by decide) rfl ?_
        refine r_goto (pc := 60) (tgt := 14) dX12_isEndless_60 (by decide) ?_
        refine Rn.pick (lv' := [(0, .ref y), (1, .int (iv x1)), (2, .int (iv x2)), (3, .int (iv x3)), (4, .int (iv (sz (Int.toNat x1)))), (5, .int (iv v14_5)), (6, .int (iv (v14_6 + 1)))]) [1, 2, 3, 4, 5, 6, 0] rfl ?_
        exact ih14 (Int.toNat (16 - (v14_6 + 1))) (by omega) ra14 rb14 _ ht17 v14_5 (v14_6 + 1) ⟨by omega, by omega, by omega, by omega, by omega, by (first | exact fs_0 | exact fs_y (by assumption) (by omega) (by assumption) ms53 ((hraV _).mp pm35) hyf | exact fs_n (by assumption) (by omega) (fun h9 => nm35 ((hraV _).mpr h9.1)) | exact fs_n (by assumption) (by omega) (fun h9 => hnf h9.2))⟩ (by omega)
      · have pm35 : Me r9_18 (Int.toNat v14_6) := Me_bit.mp (by omega)
        refine r_aload_n (pc := 38) dX12_isEndless_38 (i := 0) rfl rfl ?_
        refine r_iload_n (pc := 39) dX12_isEndless_39 (i := 1) rfl rfl ?_
        refine r_iload (pc := 40) dX12_isEndless_40 rfl ?_
        obtain ⟨fs24, hfs24⟩ := t_obj ht17 (rd_of RX_y)
        refine r_callV (pc := 42) (as := [.int (iv x1), .int (iv v14_6)]) (st := []) kX12_286 rfl dX12_isEndless_42 hfs24 (x_X12_isFalling (d := d - 1) (x1 := x1) (x2 := v14_6) (by omega) (by assumption) (by assumption) (by assumption) (by assumption) (by assumption) (by assumption) ht17 (by omega) (by omega) (by assumption) (by omega) (fun _ _ _ h => h)) rfl (by omega) (Nat.le_of_ble_eq_true rfl) (Nat.zero_le _) (Nat.zero_le _) rfl (fun r21 hp20 n22 hq23 => ?_)
        obtain ⟨hnn22, k1_26, w1_27, r9_28, ht25, hrr21, hhq230, hhq231⟩ := hq23
        subst n22 r21
        have hhq230 : 0 ≤ r9_28 ∧ r9_28 ≤ 1 := hhq230
        have hhq231 : (r9_28 = 1 ∧ fallP (Int.toNat (mn (Int.toNat x1))) (dr (Int.toNat x1)) (sh fr (60 * x1)) (sh tt (60 * x1)) (sh wt (60 * x1)) (sz (Int.toNat x1)) (Int.toNat v14_6)) ∨ (r9_28 = 0 ∧ ¬ fallP (Int.toNat (mn (Int.toNat x1))) (dr (Int.toNat x1)) (sh fr (60 * x1)) (sh tt (60 * x1)) (sh wt (60 * x1)) (sz (Int.toNat x1)) (Int.toNat v14_6)) := hhq231
        change Rn _ _ _ 45 _ [.int (iv r9_28)] _ _ _ _ _
        refine t_if_eq (pc := 45) (tgt := 57) dX12_isEndless_45 (by decide) (by omega) (fun c45 => ?_) (fun c45 => ?_)
        · have hnf := (Or.resolve_left hhq231 (by omega)).2
          clear hhq231
          refine r_iinc (pc := 57) (v := iv (v14_6 + 1)) (lv' := [(6, .int (iv (v14_6 + 1))), (0, .ref y), (1, .int (iv x1)), (2, .int (iv x2)), (3, .int (iv x3)), (4, .int (iv (sz (Int.toNat x1)))), (5, .int (iv v14_5))]) dX12_isEndless_57 rfl (iv_add _ _) (by decide) rfl ?_
          refine r_goto (pc := 60) (tgt := 14) dX12_isEndless_60 (by decide) ?_
          refine Rn.pick (lv' := [(0, .ref y), (1, .int (iv x1)), (2, .int (iv x2)), (3, .int (iv x3)), (4, .int (iv (sz (Int.toNat x1)))), (5, .int (iv v14_5)), (6, .int (iv (v14_6 + 1)))]) [1, 2, 3, 4, 5, 6, 0] rfl ?_
          exact ih14 (Int.toNat (16 - (v14_6 + 1))) (by omega) k1_26 w1_27 _ ht25 v14_5 (v14_6 + 1) ⟨by omega, by omega, by omega, by omega, by omega, by (first | exact fs_0 | exact fs_y (by assumption) (by omega) (by assumption) ms53 ((hraV _).mp pm35) hyf | exact fs_n (by assumption) (by omega) (fun h9 => nm35 ((hraV _).mpr h9.1)) | exact fs_n (by assumption) (by omega) (fun h9 => hnf h9.2))⟩ (by omega)
        · have hyf := (Or.resolve_right hhq231 (by omega)).2
          clear hhq231
          refine r_iload (pc := 48) dX12_isEndless_48 rfl ?_
          refine r_iconst (pc := 50) (v := iv 1) dX12_isEndless_50 (by decide) ?_
          refine r_iload (pc := 51) dX12_isEndless_51 rfl ?_
          refine r_ishl (pc := 53) (v := iv ((2 ^ Int.toNat v14_6 : Nat) : Int)) dX12_isEndless_53 (shl_e (by omega)) ?_
          have mp53_29 : 1 ≤ 2 ^ Int.toNat v14_6 := Nat.one_le_two_pow
          have mq53_30 : 2 ^ Int.toNat v14_6 ≤ 2 ^ 15 := Nat.pow_le_pow_right (by omega) (by omega)
          have ms53 := Me_shl (Int.toNat v14_6)
          obtain ⟨z31, hz31, bz31⟩ := or_2 16 v14_5 ((2 ^ Int.toNat v14_6 : Nat) : Int) (by omega) (by omega) (by decide)
          refine r_ior (pc := 54) (v := iv z31) dX12_isEndless_54 hz31 ?_
          have mez31 := Me_or hz31 (by omega) (by omega) (by omega)
          refine r_istore (pc := 55) (lv' := [(5, .int (iv z31)), (0, .ref y), (1, .int (iv x1)), (2, .int (iv x2)), (3, .int (iv x3)), (4, .int (iv (sz (Int.toNat x1)))), (6, .int (iv v14_6))]) dX12_isEndless_55 (by decide) rfl ?_
          refine r_iinc (pc := 57) (v := iv (v14_6 + 1)) (lv' := [(6, .int (iv (v14_6 + 1))), (5, .int (iv z31)), (0, .ref y), (1, .int (iv x1)), (2, .int (iv x2)), (3, .int (iv x3)), (4, .int (iv (sz (Int.toNat x1))))]) dX12_isEndless_57 rfl (iv_add _ _) (by decide) rfl ?_
          refine r_goto (pc := 60) (tgt := 14) dX12_isEndless_60 (by decide) ?_
          refine Rn.pick (lv' := [(0, .ref y), (1, .int (iv x1)), (2, .int (iv x2)), (3, .int (iv x3)), (4, .int (iv (sz (Int.toNat x1)))), (5, .int (iv z31)), (6, .int (iv (v14_6 + 1)))]) [2, 3, 4, 5, 6, 1, 0] rfl ?_
          exact ih14 (Int.toNat (16 - (v14_6 + 1))) (by omega) k1_26 w1_27 _ ht25 z31 (v14_6 + 1) ⟨by omega, by omega, by omega, by omega, by omega, by (first | exact fs_0 | exact fs_y (by assumption) (by omega) (by assumption) ms53 ((hraV _).mp pm35) hyf | exact fs_n (by assumption) (by omega) (fun h9 => nm35 ((hraV _).mpr h9.1)) | exact fs_n (by assumption) (by omega) (fun h9 => hnf h9.2))⟩ (by omega)
  refine Rn.pick (lv' := [(0, .ref y), (1, .int (iv x1)), (2, .int (iv x2)), (3, .int (iv x3)), (4, .int (iv (sz (Int.toNat x1)))), (5, .int (iv 0)), (6, .int (iv 0))]) [3, 4, 5, 6, 2, 1, 0] rfl ?_
  exact B14 (Int.toNat (16 - 0)) ra rb _ ht 0 0 ⟨by omega, by omega, by omega, by omega, by omega, by (first | exact fs_0 | exact fs_y (by assumption) (by omega) (by assumption) ms53 ((hraV _).mp pm35) hyf | exact fs_n (by assumption) (by omega) (fun h9 => nm35 ((hraV _).mpr h9.1)) | exact fs_n (by assumption) (by omega) (fun h9 => hnf h9.2))⟩ (by omega)
