theorem bT_k0 {m : Nat} {d : Int} {F T W : Nat → Int} {kind bd : Int} {s : Nat} (hk : kind ≠ 0) : ∀ (k v : Nat), bT m d F T W kind bd s k v = 0 ∨ bT m d F T W kind bd s k v = 1000000000000 := by
  intro k
  induction k with
  | zero =>
    intro v
    show (if v = s then (0 : Int) else 1000000000000) = 0 ∨ (if v = s then (0 : Int) else 1000000000000) = 1000000000000
    by_cases h : v = s
    · rw [if_pos h]; exact Or.inl rfl
    · rw [if_neg h]; exact Or.inr rfl
  | succ k ih =>
    intro v
    rcases mnS_at (d := d) (F := F) (T := T) (W := W) (kind := kind) (bd := bd) (B := bT m d F T W kind bd s k) (v := (v : Int)) (E := m) with h | ⟨e, h1, h2, h3⟩
    · exact Or.inr h
    · refine Or.inl ?_
      show mnS d F T W kind bd (bT m d F T W kind bd s k) (v : Int) m = 0
      rw [← h3]
      have h4 := h2.2.2
      have h5 := ih (itV d F T e (v : Int)).toNat
      unfold vaA prA
      rw [if_neg hk]
      omega
/-- the first of the least -/
def kbP (f : Nat → Int) (q k : Int) : Prop := (k = -1 ∧ ∀ i : Nat, (i : Int) < q → ¬ f i < 1000000000000) ∨ (0 ≤ k ∧ k < q ∧ f k.toNat < 1000000000000 ∧ ∀ i : Nat, (i : Int) < q → f k.toNat ≤ f i ∧ (f i = f k.toNat → k ≤ (i : Int)))
theorem kb_0 {f : Nat → Int} : kbP f 0 (-1) := Or.inl ⟨rfl, fun i hi => by omega⟩
theorem kb_keep {f : Nat → Int} {q k : Int} (h : kbP f q k) (h0 : 0 ≤ q) (hq : ¬ f q.toNat < 1000000000000 ∨ (0 ≤ k ∧ f k.toNat ≤ f q.toNat)) : kbP f (q + 1) k := by
  rcases h with ⟨h1, h2⟩ | ⟨h1, h2, h3, h4⟩
  · refine Or.inl ⟨h1, fun i hi => ?_⟩
    by_cases e : i = q.toNat
    · subst e
      rcases hq with g | g
      · exact g
      · omega
    · exact h2 i (by omega)
  · refine Or.inr ⟨h1, by omega, h3, fun i hi => ?_⟩
    by_cases e : i = q.toNat
    · subst e
      rcases hq with g | g
      · exact ⟨by omega, fun h9 => by omega⟩
      · exact ⟨g.2, fun h9 => by omega⟩
    · exact h4 i (by omega)
theorem kb_new {f : Nat → Int} {q k : Int} (h : kbP f q k) (h0 : 0 ≤ q) (hq : f q.toNat < 1000000000000) (hk : k < 0 ∨ f q.toNat < f k.toNat) : kbP f (q + 1) q := by
  refine Or.inr ⟨h0, by omega, hq, fun i hi => ?_⟩
  by_cases e : i = q.toNat
  · subst e; exact ⟨Int.le_refl _, fun _ => by omega⟩
  · rcases h with ⟨h1, h2⟩ | ⟨h1, h2, h3, h4⟩
    · have h5 := h2 i (by omega)
      exact ⟨by omega, fun h9 => by omega⟩
    · rcases hk with g | g
      · omega
      · have h5 := (h4 i (by omega)).1
        exact ⟨by omega, fun h9 => by omega⟩
/-- arcs of a best way, traced back -/
def tcP (m : Nat) (d : Int) (F T W : Nat → Int) (kind bd : Int) (s : Nat) : Nat → Int → (Nat → Int) → Prop
  | 0, _, _ => True
  | q + 1, v, r => 0 ≤ r q ∧ (r q).toNat < m ∧ laB m d F T W kind bd s ((q + 1 : Nat) : Int) v (r q).toNat ∧ (∀ e, e < (r q).toNat → ¬ laB m d F T W kind bd s ((q + 1 : Nat) : Int) v e) ∧ tcP m d F T W kind bd s q (itV d F T (r q).toNat v) r
theorem tc_uq {m : Nat} {d : Int} {F T W : Nat → Int} {kind bd : Int} {s : Nat} : ∀ {k : Nat} {v : Int} {r r' : Nat → Int}, tcP m d F T W kind bd s k v r → tcP m d F T W kind bd s k v r' → ∀ i, i < k → r i = r' i := by
  intro k
  induction k with
  | zero => intro v r r' _ _ i hi; omega
  | succ k ih =>
    intro v r r' h h' i hi
    obtain ⟨a1, a2, a3, a4, a5⟩ := h
    obtain ⟨b1, b2, b3, b4, b5⟩ := h'
    have e : (r k).toNat = (r' k).toNat := by
      rcases Nat.lt_trichotomy (r k).toNat (r' k).toNat with g | g | g
      · exact absurd a3 (b4 _ g)
      · exact g
      · exact absurd b3 (a4 _ g)
    by_cases hk : i = k
    · subst hk; omega
    · rw [← e] at b5
      exact ih a5 b5 i (by omega)
theorem tc_eq {m : Nat} {d : Int} {F T W : Nat → Int} {kind bd : Int} {s : Nat} : ∀ {k : Nat} {v : Int} {r r' : Nat → Int}, tcP m d F T W kind bd s k v r → (∀ i, i < k → r i = r' i) → tcP m d F T W kind bd s k v r' := by
  intro k
  induction k with
  | zero => intro v r r' _ _; exact trivial
  | succ k ih =>
    intro v r r' h hr
    obtain ⟨a1, a2, a3, a4, a5⟩ := h
    have e := hr k (by omega)
    exact ⟨by rw [← e]; exact a1, by rw [← e]; exact a2, by rw [← e]; exact a3, by rw [← e]; exact a4, by rw [← e]; exact ih a5 (fun i hi => hr i (by omega))⟩
/-- what is still to be traced -/
def tcC (m : Nat) (d : Int) (F T W : Nat → Int) (kind bd : Int) (s : Nat) (k v q u : Int) (r : Nat → Int) : Prop := ∀ r' : Nat → Int, (∀ i : Nat, q ≤ (i : Int) → (i : Int) < k → r' i = r i) → tcP m d F T W kind bd s q.toNat u r' → tcP m d F T W kind bd s k.toNat v r'
theorem tcc_0 {m : Nat} {d : Int} {F T W : Nat → Int} {kind bd : Int} {s : Nat} {k v : Int} {r : Nat → Int} : tcC m d F T W kind bd s k v k v r := fun r' _ h => h
theorem tcc_st {m : Nat} {d : Int} {F T W : Nat → Int} {kind bd : Int} {s : Nat} {k v q u w : Int} {r r2 : Nat → Int} {e : Int} (h : tcC m d F T W kind bd s k v q u r) (hq : 1 ≤ q ∧ q ≤ k) (he : 0 ≤ e ∧ e.toNat < m) (hl : laB m d F T W kind bd s q u e.toNat) (hn : ∀ e' : Nat, (e' : Int) < e → ¬ laB m d F T W kind bd s q u e') (h2 : r2 (q - 1).toNat = e) (h3 : ∀ i : Nat, q ≤ (i : Int) → (i : Int) < k → r2 i = r i) (hw : w = itV d F T e.toNat u) : tcC m d F T W kind bd s k v (q - 1) w r2 := by
  intro r' g1 g2
  have e1 : q.toNat = (q - 1).toNat + 1 := by omega
  have e2 : (((q - 1).toNat + 1 : Nat) : Int) = q := by omega
  have e3 := (g1 (q - 1).toNat (by omega) (by omega)).trans h2
  refine h r' (fun i a b => (g1 i (by omega) b).trans (h3 i a b)) ?_
  rw [e1]
  show 0 ≤ r' (q - 1).toNat ∧ (r' (q - 1).toNat).toNat < m ∧ laB m d F T W kind bd s (((q - 1).toNat + 1 : Nat) : Int) u (r' (q - 1).toNat).toNat ∧ (∀ e, e < (r' (q - 1).toNat).toNat → ¬ laB m d F T W kind bd s (((q - 1).toNat + 1 : Nat) : Int) u e) ∧ tcP m d F T W kind bd s (q - 1).toNat (itV d F T (r' (q - 1).toNat).toNat u) r'
  rw [e3, e2]
  exact ⟨he.1, he.2, hl, fun e' h9 => hn e' (by omega), by rw [← hw]; exact g2⟩
theorem tcc_end {m : Nat} {d : Int} {F T W : Nat → Int} {kind bd : Int} {s : Nat} {k v q u : Int} {r : Nat → Int} (h : tcC m d F T W kind bd s k v q u r) (hq : q = 0) : tcP m d F T W kind bd s k.toNat v r := by
  refine h r (fun _ _ _ => rfl) ?_
  rw [hq]
  exact trivial
/-- an arc is still to be found -/
def lxB (m : Nat) (d : Int) (F T W : Nat → Int) (kind bd : Int) (s : Nat) (q v E : Int) : Prop := (∃ e : Nat, E ≤ (e : Int) ∧ e < m ∧ laB m d F T W kind bd s q v e) ∧ ∀ e : Nat, (e : Int) < E → ¬ laB m d F T W kind bd s q v e
theorem lxb_0 {m : Nat} {d : Int} {F T W : Nat → Int} {kind bd : Int} {s : Nat} {q v : Int} (hq : 1 ≤ q) (hv : 0 ≤ v) (h : bT m d F T W kind bd s q.toNat v.toNat < 1000000000000) : lxB m d F T W kind bd s q v 0 := by
  obtain ⟨e, h1, h2⟩ := laB_ex hq hv h
  exact ⟨⟨e, by omega, h1, h2⟩, fun e' h9 => by omega⟩
theorem lxb_lt {m : Nat} {d : Int} {F T W : Nat → Int} {kind bd : Int} {s : Nat} {q v E : Int} (h : lxB m d F T W kind bd s q v E) : E < (m : Int) := by
  obtain ⟨⟨e, h1, h2, -⟩, -⟩ := h
  omega
theorem lxb_st {m : Nat} {d : Int} {F T W : Nat → Int} {kind bd : Int} {s : Nat} {q v E : Int} (h : lxB m d F T W kind bd s q v E) (h0 : 0 ≤ E) (hn : ¬ laB m d F T W kind bd s q v E.toNat) : lxB m d F T W kind bd s q v (E + 1) := by
  obtain ⟨⟨e, h1, h2, h3⟩, h4⟩ := h
  refine ⟨⟨e, ?_, h2, h3⟩, fun e' h9 => ?_⟩
  · by_cases e9 : e = E.toNat
    · subst e9; exact absurd h3 hn
    · omega
  · by_cases e9 : e' = E.toNat
    · subst e9; exact hn
    · exact h4 e' (by omega)
/-- what ways hold at a node -/
def fiP (m : Nat) (d : Int) (F T W : Nat → Int) (kind bd : Int) (s : Nat) (n : Int) (v : Int) (st : Int) (wr : Int64) (lg : Int) (hm : Int64) (r : Nat → Int) : Prop := ∃ k : Int, kbP (fun i => bT m d F T W kind bd s i v.toNat) n k ∧ ((k < 0 ∧ st = 0 ∧ wr = 0 ∧ lg = -1 ∧ hm = 0) ∨ (0 ≤ k ∧ (kind = 0 ∧ edP m d F T W n s v.toNat) ∧ st = 2 ∧ wr = 0 ∧ lg = -1 ∧ hm = 0) ∨ (0 ≤ k ∧ ¬ (kind = 0 ∧ edP m d F T W n s v.toNat) ∧ st = 1 ∧ wr.toInt = (if kind = 0 then bT m d F T W kind bd s k.toNat v.toNat else if kind = 1 then k else bd) ∧ lg = k ∧ hm = nT m d F T W kind bd s k.toNat v.toNat ∧ tcP m d F T W kind bd s k.toNat v r))
theorem kb_uq {f : Nat → Int} {q k k' : Int} (h : kbP f q k) (h' : kbP f q k') : k = k' := by
  rcases h with ⟨h1, h2⟩ | ⟨h1, h2, h3, h4⟩ <;> rcases h' with ⟨g1, g2⟩ | ⟨g1, g2, g3, g4⟩
  · omega
  · exact absurd g3 (h2 k'.toNat (by omega))
  · exact absurd h3 (g2 k.toNat (by omega))
  · have a := h4 k'.toNat (by omega)
    have b := g4 k.toNat (by omega)
    have e : f k.toNat = f k'.toNat := by omega
    have a2 := a.2 e.symm
    have b2 := b.2 e
    omega
/-- arcs that are wide enough -/
def stW (m : Nat) (d : Int) (F T W : Nat → Int) (w : Int) (i j : Nat) : Prop := ∃ k, k < m ∧ w ≤ W k ∧ goP d F T k (i : Int) (j : Int)
def wiP (m : Nat) (d : Int) (F T W : Nat → Int) (w : Int) (s : Nat) (more : Int) (k : Nat) (set : Int) : Prop := Me set s ∧ (∀ j, Me set j → RC (stW m d F T W w) (fun x => x = s) j) ∧ (∀ j, Me more j → Me set j) ∧ ((∀ j, Me set j → Me more j) → ∀ k', k' < k → w ≤ W k' → (Me set (F k').toNat → Me set (T k').toNat) ∧ (d = 0 → Me set (T k').toNat → Me set (F k').toNat))
theorem wi_0 {m : Nat} {d : Int} {F T W : Nat → Int} {w : Int} {s k : Nat} {set : Int} (hs : ∀ i, Me set i ↔ i = s) : wiP m d F T W w s 0 k set := by
  have h1 : Me set s := (hs s).mpr rfl
  exact ⟨h1, fun j hj => RC_in ((hs j).mp hj), fun j hj => absurd hj (Me_0 j), fun h => absurd (h s h1) (Me_0 s)⟩
theorem wi_go {m : Nat} {d : Int} {F T W : Nat → Int} {w : Int} {s k : Nat} {more set : Int} (h : wiP m d F T W w s more k set) : wiP m d F T W w s set 0 set := ⟨h.1, h.2.1, fun _ q => q, fun _ k' hk => absurd hk (Nat.not_lt_zero k')⟩
theorem wi_up {m : Nat} {d : Int} {F T W : Nat → Int} {w : Int} {s : Nat} {more set set2 k : Int} (h : wiP m d F T W w s more k.toNat set) (h0 : 0 ≤ k) (hsub : ∀ j, Me set j → Me set2 j) (hrc : ∀ j, Me set2 j → RC (stW m d F T W w) (fun x => x = s) j) (hc : w ≤ W k.toNat → (Me set (F k.toNat).toNat → Me set2 (T k.toNat).toNat) ∧ (d = 0 → Me set (T k.toNat).toNat → Me set2 (F k.toNat).toNat)) : wiP m d F T W w s more (k + 1).toNat set2 := by
  refine ⟨hsub _ h.1, hrc, fun j hj => hsub j (h.2.2.1 j hj), fun hp k' hk hw => ?_⟩
  have back : ∀ j, Me set2 j → Me set j := fun j hj => h.2.2.1 j (hp j hj)
  rw [tn1 h0] at hk
  by_cases e : k' = k.toNat
  · subst e
    exact ⟨fun g => (hc hw).1 (back _ g), fun g0 g => (hc hw).2 g0 (back _ g)⟩
  · have q := h.2.2.2 (fun j hj => hp j (hsub j hj)) k' (by omega) hw
    exact ⟨fun g => hsub _ (q.1 (back _ g)), fun g0 g => hsub _ (q.2 g0 (back _ g))⟩
theorem wi_T {m : Nat} {d : Int} {F T W : Nat → Int} {w : Int} {s k : Nat} (hF : ∀ k, k < m → (0 ≤ F k ∧ 0 ≤ T k)) (hk : k < m) (hw : w ≤ W k) (h : RC (stW m d F T W w) (fun x => x = s) (F k).toNat) : RC (stW m d F T W w) (fun x => x = s) (T k).toNat :=
  RC_st h ⟨k, hk, hw, Or.inl ⟨(Int.toNat_of_nonneg (hF k hk).1).symm, (Int.toNat_of_nonneg (hF k hk).2).symm⟩⟩
theorem wi_F {m : Nat} {d : Int} {F T W : Nat → Int} {w : Int} {s k : Nat} (hF : ∀ k, k < m → (0 ≤ F k ∧ 0 ≤ T k)) (hk : k < m) (hw : w ≤ W k) (hd : d = 0) (h : RC (stW m d F T W w) (fun x => x = s) (T k).toNat) : RC (stW m d F T W w) (fun x => x = s) (F k).toNat :=
  RC_st h ⟨k, hk, hw, Or.inr ⟨hd, (Int.toNat_of_nonneg (hF k hk).2).symm, (Int.toNat_of_nonneg (hF k hk).1).symm⟩⟩
theorem wi_end {m : Nat} {d : Int} {F T W : Nat → Int} {w : Int} {s : Nat} {more set : Int} (h : wiP m d F T W w s more m set) (he : more = set) (j : Nat) : Me set j ↔ RC (stW m d F T W w) (fun x => x = s) j := by
  refine ⟨h.2.1 j, fun hr => hr (fun x => Me set x) (fun i hi => by rw [hi]; exact h.1) (fun i j hi hij => ?_)⟩
  obtain ⟨k, k1, k2, k3⟩ := hij
  have q := h.2.2.2 (fun j hj => by rw [he]; exact hj) k k1 k2
  rcases k3 with ⟨e1, e2⟩ | ⟨e0, e1, e2⟩
  · have f1 : (F k).toNat = i := by omega
    have f2 : (T k).toNat = j := by omega
    rw [f1, f2] at q; exact q.1 hi
  · have f1 : (F k).toNat = j := by omega
    have f2 : (T k).toNat = i := by omega
    rw [f1, f2] at q; exact q.2 e0 hi
/-- how wide the widest way is -/
def wdP (m : Nat) (d : Int) (F T W : Nat → Int) (s v : Nat) (r : Int) : Prop := (s = v ∧ r = 1001) ∨ (s ≠ v ∧ -1000 ≤ r ∧ r ≤ 1000 ∧ RC (stW m d F T W r) (fun x => x = s) v ∧ ∀ w, r < w → w ≤ 1000 → ¬ RC (stW m d F T W w) (fun x => x = s) v) ∨ (s ≠ v ∧ r = -5000 ∧ ∀ w, -1000 ≤ w → w ≤ 1000 → ¬ RC (stW m d F T W w) (fun x => x = s) v)
theorem wd_uq {m : Nat} {d : Int} {F T W : Nat → Int} {s v : Nat} {r r' : Int} (h : wdP m d F T W s v r) (h' : wdP m d F T W s v r') : r = r' := by
  rcases h with ⟨a, b⟩ | ⟨a, b1, b2, b3, b4⟩ | ⟨a, b, c⟩ <;> rcases h' with ⟨a', b'⟩ | ⟨a', b1', b2', b3', b4'⟩ | ⟨a', b', c'⟩
  · omega
  · exact absurd a a'
  · exact absurd a a'
  · exact absurd a' a
  · rcases Int.lt_trichotomy r r' with g | g | g
    · exact absurd b3' (b4 r' g b2')
    · exact g
    · exact absurd b3 (b4' r g b2)
  · exact absurd b3 (c' r b1 b2)
  · exact absurd a' a
  · exact absurd b3' (c r' b1' b2')
  · omega
def nwP (m : Nat) (d : Int) (F T W : Nat → Int) (s v : Nat) (w : Int) : Prop := ∀ x, w < x → x ≤ 1000 → ¬ RC (stW m d F T W x) (fun y => y = s) v
theorem nw_st {m : Nat} {d : Int} {F T W : Nat → Int} {s v : Nat} {w : Int} (h : nwP m d F T W s v w) (hn : ¬ RC (stW m d F T W w) (fun y => y = s) v) : nwP m d F T W s v (w - 1) := by
  intro x h1 h2
  by_cases e : x = w
  · subst e; exact hn
  · exact h x (by omega) h2
theorem fi_r {m : Nat} {d : Int} {F T W : Nat → Int} {kind bd : Int} {s : Nat} {n v st lg : Int} {wr hm : Int64} {r r' : Nat → Int} (h : fiP m d F T W kind bd s n v st wr lg hm r) (hr : ∀ i : Nat, (i : Int) < n → r i = r' i) : fiP m d F T W kind bd s n v st wr lg hm r' := by
  obtain ⟨k, h1, h2⟩ := h
  refine ⟨k, h1, ?_⟩
  rcases h2 with g | g | ⟨g1, g2, g3, g4, g5, g6, g7⟩
  · exact Or.inl g
  · exact Or.inr (Or.inl g)
  · have hk : k < n := by
      rcases h1 with ⟨a, -⟩ | ⟨-, b, -⟩
      · omega
      · exact b
    exact Or.inr (Or.inr ⟨g1, g2, g3, g4, g5, g6, tc_eq g7 (fun i hi => hr i (by omega))⟩)
/-- up to which width arcs count -/
def wbP (m : Nat) (d : Int) (F T W : Nat → Int) (kind : Int) (s v : Nat) (bd : Int) : Prop := (kind = 2 ∧ wdP m d F T W s v bd) ∨ (kind ≠ 2 ∧ bd = 0)
theorem wb_uq {m : Nat} {d : Int} {F T W : Nat → Int} {kind : Int} {s v : Nat} {bd bd' : Int} (h : wbP m d F T W kind s v bd) (h' : wbP m d F T W kind s v bd') : bd = bd' := by
  rcases h with ⟨a, b⟩ | ⟨a, b⟩ <;> rcases h' with ⟨a', b'⟩ | ⟨a', b'⟩
  · exact wd_uq b b'
  · exact absurd a a'
  · exact absurd a' a
  · omega
/-- what ways of a graph hold -/
def wyP (m : Nat) (d : Int) (F T W : Nat → Int) (kind : Int) (s : Nat) (n : Int) (u : Nat) (st : Int) (wr : Int64) (lg : Int) (hm : Int64) (r : Nat → Int) : Prop := ∃ bd : Int, wbP m d F T W kind s u bd ∧ fiP m d F T W kind bd s n (u : Int) st wr lg hm r
theorem wy_uq {m : Nat} {d : Int} {F T W : Nat → Int} {kind : Int} {s : Nat} {n : Int} {u : Nat} {st st' : Int} {wr wr' : Int64} {lg lg' : Int} {hm hm' : Int64} {r r' : Nat → Int} (h : wyP m d F T W kind s n u st wr lg hm r) (h' : wyP m d F T W kind s n u st' wr' lg' hm' r') : st = st' ∧ wr = wr' ∧ lg = lg' ∧ hm = hm' ∧ ∀ i : Nat, (i : Int) < lg → r i = r' i := by
  obtain ⟨bd, hb, k, k1, k2⟩ := h
  obtain ⟨bd', hb', k', k1', k2'⟩ := h'
  have e := wb_uq hb hb'
  subst e
  have ek := kb_uq k1 k1'
  subst ek
  rcases k2 with ⟨a0, a1, a2, a3, a4⟩ | ⟨a0, ae, a1, a2, a3, a4⟩ | ⟨a0, ae, a1, a2, a3, a4, a5⟩ <;> rcases k2' with ⟨b0, b1, b2, b3, b4⟩ | ⟨b0, be, b1, b2, b3, b4⟩ | ⟨b0, be, b1, b2, b3, b4, b5⟩
  · exact ⟨by omega, by rw [a2, b2], by omega, by rw [a4, b4], fun i hi => by omega⟩
  · omega
  · omega
  · omega
  · exact ⟨by omega, by rw [a2, b2], by omega, by rw [a4, b4], fun i hi => by omega⟩
  · exact absurd ae be
  · omega
  · exact absurd be ae
  · exact ⟨by omega, Int64.toInt_inj.mp (by rw [a2, b2]), by omega, by rw [a4, b4], fun i hi => tc_uq a5 b5 i (by omega)⟩
/-- the rows of ways under handle h, up to node v -/
def wsQ (m : Nat) (d : Int) (F T W : Nat → Int) (kind : Int) (s : Nat) (n h v : Int) (sa : Nat → Int) (wo : Nat → Int64) (ln : Nat → Int) (hw : Nat → Int64) (ro sa0 : Nat → Int) (wo0 : Nat → Int64) (ln0 : Nat → Int) (hw0 : Nat → Int64) (ro0 : Nat → Int) : Prop := (∀ u : Nat, (u : Int) < v → wyP m d F T W kind s n u (sh sa (16 * h) u) (sj wo (16 * h) u) (sh ln (16 * h) u) (sj hw (16 * h) u) (sh ro (256 * h + 16 * (u : Int)))) ∧ (∀ i : Nat, (i : Int) < 16 * h → sa i = sa0 i ∧ wo i = wo0 i ∧ ln i = ln0 i ∧ hw i = hw0 i) ∧ ∀ i : Nat, (i : Int) < 256 * h → ro i = ro0 i
theorem ws_0 {m : Nat} {d : Int} {F T W : Nat → Int} {kind : Int} {s : Nat} {n h : Int} {sa : Nat → Int} {wo : Nat → Int64} {ln : Nat → Int} {hw : Nat → Int64} {ro : Nat → Int} : wsQ m d F T W kind s n h 0 sa wo ln hw ro sa wo ln hw ro := ⟨fun u hu => by omega, fun _ _ => ⟨rfl, rfl, rfl, rfl⟩, fun _ _ => rfl⟩
theorem wsq_up {m : Nat} {d : Int} {F T W : Nat → Int} {kind bd : Int} {s : Nat} {n h v : Int} {sa sa1 sa0 : Nat → Int} {wo wo1 wo0 : Nat → Int64} {ln ln1 ln0 : Nat → Int} {hw hw1 hw0 : Nat → Int64} {ro ro1 ro0 : Nat → Int} (hq : wsQ m d F T W kind s n h v sa wo ln hw ro sa0 wo0 ln0 hw0 ro0) (hv : 0 ≤ v ∧ v < n) (hn : n ≤ 16) (hh : 0 ≤ h) (hb : wbP m d F T W kind s v.toNat bd) (hf : fiP m d F T W kind bd s n v (sa1 (Int.toNat (16 * h + v))) (wo1 (Int.toNat (16 * h + v))) (ln1 (Int.toNat (16 * h + v))) (hw1 (Int.toNat (16 * h + v))) (sh ro1 (256 * h + 16 * v))) (e1 : ∀ j, j ≠ Int.toNat (16 * h + v) → sa1 j = sa j) (e2 : ∀ j, j ≠ Int.toNat (16 * h + v) → wo1 j = wo j) (e3 : ∀ j, j ≠ Int.toNat (16 * h + v) → ln1 j = ln j) (e4 : ∀ j, j ≠ Int.toNat (16 * h + v) → hw1 j = hw j) (e5 : ∀ i : Nat, ((i : Int) < 256 * h + 16 * v ∨ 256 * h + 16 * v + 16 ≤ (i : Int)) → ro1 i = ro i) : wsQ m d F T W kind s n h (v + 1) sa1 wo1 ln1 hw1 ro1 sa0 wo0 ln0 hw0 ro0 := by
  obtain ⟨q1, q2, q3⟩ := hq
  refine ⟨fun u hu => ?_, fun i hi => ?_, fun i hi => ?_⟩
  · by_cases e : u = v.toNat
    · have ev : (u : Int) = v := by omega
      refine ⟨bd, by rw [e]; exact hb, ?_⟩
      show fiP m d F T W kind bd s n (u : Int) (sa1 (16 * h + (u : Int)).toNat) (wo1 (16 * h + (u : Int)).toNat) (ln1 (16 * h + (u : Int)).toNat) (hw1 (16 * h + (u : Int)).toNat) (sh ro1 (256 * h + 16 * (u : Int)))
      rw [ev]; exact hf
    · obtain ⟨b, g1, g2⟩ := q1 u (by omega)
      refine ⟨b, g1, ?_⟩
      have ne : (16 * h + (u : Int)).toNat ≠ Int.toNat (16 * h + v) := by omega
      show fiP m d F T W kind b s n (u : Int) (sa1 (16 * h + (u : Int)).toNat) (wo1 (16 * h + (u : Int)).toNat) (ln1 (16 * h + (u : Int)).toNat) (hw1 (16 * h + (u : Int)).toNat) (sh ro1 (256 * h + 16 * (u : Int)))
      rw [e1 _ ne, e2 _ ne, e3 _ ne, e4 _ ne]
      exact fi_r g2 (fun i hi => (e5 (256 * h + 16 * (u : Int) + (i : Int)).toNat (by omega)).symm)
  · rw [e1 i (by omega), e2 i (by omega), e3 i (by omega), e4 i (by omega)]; exact q2 i hi
  · rw [e5 i (by omega)]; exact q3 i hi
/-- walks, told by their nodes and arcs -/
def sumI (f : Nat → Int) : Nat → Int
  | 0 => 0
  | k + 1 => sumI f k + f k
theorem sumI_eq {f g : Nat → Int} : ∀ {k : Nat}, (∀ i, i < k → f i = g i) → sumI f k = sumI g k := by
  intro k
  induction k with
  | zero => intro _; rfl
  | succ k ih =>
    intro h
    show sumI f k + f k = sumI g k + g k
    rw [ih (fun i hi => h i (by omega)), h k (by omega)]
theorem sumI_add {f : Nat → Int} {a : Nat} : ∀ {b : Nat}, sumI f (a + b) = sumI f a + sumI (fun i => f (a + i)) b := by
  intro b
  induction b with
  | zero => show sumI f a = sumI f a + 0; omega
  | succ b ih =>
    show sumI f (a + b) + f (a + b) = sumI f a + (sumI (fun i => f (a + i)) b + f (a + b))
    rw [ih]; omega
def WkF (m : Nat) (d : Int) (F T pr : Nat → Int) (ok : Nat → Prop) (s j v : Nat) (x : Int) : Prop := ∃ nd ar : Nat → Nat, nd 0 = s ∧ nd j = v ∧ (∀ i, i < j → ar i < m ∧ ok (ar i) ∧ goP d F T (ar i) (nd i : Int) (nd (i + 1) : Int)) ∧ x = sumI (fun i => pr (ar i)) j
theorem wk_0 {m : Nat} {d : Int} {F T pr : Nat → Int} {ok : Nat → Prop} {s : Nat} : WkF m d F T pr ok s 0 s 0 := ⟨fun _ => s, fun _ => 0, rfl, rfl, fun i hi => by omega, rfl⟩
theorem wk_up {m : Nat} {d : Int} {F T pr : Nat → Int} {ok : Nat → Prop} {s j u v e : Nat} {x : Int} (h : WkF m d F T pr ok s j u x) (he : e < m) (ho : ok e) (hg : goP d F T e (u : Int) (v : Int)) : WkF m d F T pr ok s (j + 1) v (x + pr e) := by
  obtain ⟨nd, ar, h1, h2, h3, h4⟩ := h
  refine ⟨fun i => if i ≤ j then nd i else v, fun i => if i < j then ar i else e, ?_, ?_, fun i hi => ?_, ?_⟩
  · show (if 0 ≤ j then nd 0 else v) = s
    rw [if_pos (Nat.zero_le j)]; exact h1
  · show (if j + 1 ≤ j then nd (j + 1) else v) = v
    rw [if_neg (by omega)]
  · show (if i < j then ar i else e) < m ∧ ok (if i < j then ar i else e) ∧ goP d F T (if i < j then ar i else e) ((if i ≤ j then nd i else v : Nat) : Int) ((if i + 1 ≤ j then nd (i + 1) else v : Nat) : Int)
    by_cases hj : i < j
    · rw [if_pos hj, if_pos (by omega), if_pos (by omega)]; exact h3 i hj
    · have ei : i = j := by omega
      subst ei
      rw [if_neg hj, if_pos (Nat.le_refl i), if_neg (by omega), h2]
      exact ⟨he, ho, hg⟩
  · show x + pr e = sumI (fun i => pr (if i < j then ar i else e)) j + pr (if j < j then ar j else e)
    rw [if_neg (Nat.lt_irrefl j), h4]
    congr 1
    exact sumI_eq (fun i hi => by rw [if_pos hi])
theorem wk_dn {m : Nat} {d : Int} {F T pr : Nat → Int} {ok : Nat → Prop} {s j v : Nat} {x : Int} (h : WkF m d F T pr ok s (j + 1) v x) : ∃ e u : Nat, e < m ∧ ok e ∧ goP d F T e (u : Int) (v : Int) ∧ WkF m d F T pr ok s j u (x - pr e) := by
  obtain ⟨nd, ar, h1, h2, h3, h4⟩ := h
  obtain ⟨g1, g2, g3⟩ := h3 j (by omega)
  rw [h2] at g3
  refine ⟨ar j, nd j, g1, g2, g3, nd, ar, h1, rfl, fun i hi => h3 i (by omega), ?_⟩
  rw [h4]
  show sumI (fun i => pr (ar i)) j + pr (ar j) - pr (ar j) = _
  omega
/-- among n + 1 nodes of n two are the same -/
theorem pgn : ∀ (n : Nat) (f : Nat → Nat), (∀ i, i ≤ n → f i < n) → ∃ i j, i < j ∧ j ≤ n ∧ f i = f j := by
  intro n
  induction n with
  | zero => intro f h; exact absurd (h 0 (Nat.le_refl 0)) (Nat.not_lt_zero _)
  | succ n ih =>
    intro f h
    by_cases hc : ∃ i, i ≤ n ∧ f i = f (n + 1)
    · obtain ⟨i, h1, h2⟩ := hc
      exact ⟨i, n + 1, by omega, Nat.le_refl _, h2⟩
    · have hne : ∀ i, i ≤ n → f i ≠ f (n + 1) := fun i hi e => hc ⟨i, hi, e⟩
      obtain ⟨i, j, h1, h2, h3⟩ := ih (fun i => if f (n + 1) < f i then f i - 1 else f i) (fun i hi => by
        have a := h i (by omega)
        have b := h (n + 1) (by omega)
        have c := hne i hi
        show (if f (n + 1) < f i then f i - 1 else f i) < n
        split <;> omega)
      refine ⟨i, j, h1, by omega, ?_⟩
      have c1 := hne i (by omega)
      have c2 := hne j h2
      have h4 : (if f (n + 1) < f i then f i - 1 else f i) = (if f (n + 1) < f j then f j - 1 else f j) := h3
      split at h4 <;> split at h4 <;> omega
/-- a part of a walk is a walk -/
theorem wk_part {m : Nat} {d : Int} {F T pr : Nat → Int} {ok : Nat → Prop} {nd ar : Nat → Nat} {j a b : Nat} (h3 : ∀ i, i < j → ar i < m ∧ ok (ar i) ∧ goP d F T (ar i) (nd i : Int) (nd (i + 1) : Int)) (hb : a + b ≤ j) : WkF m d F T pr ok (nd a) b (nd (a + b)) (sumI (fun i => pr (ar (a + i))) b) :=
  ⟨fun i => nd (a + i), fun i => ar (a + i), rfl, rfl, fun i hi => h3 (a + i) (by omega), rfl⟩
/-- a round is left out -/
theorem wk_cut {m : Nat} {d : Int} {F T pr : Nat → Int} {ok : Nat → Prop} {s j v n : Nat} {x : Int} (h : WkF m d F T pr ok s j v x) (hn : n ≤ j) (hs : s < n) (hF : ∀ k, k < m → (0 ≤ F k ∧ F k < (n : Int)) ∧ (0 ≤ T k ∧ T k < (n : Int))) : ∃ c l a y, 1 ≤ l ∧ l ≤ n ∧ a + l ≤ j ∧ WkF m d F T pr ok c l c y ∧ WkF m d F T pr ok s (j - l) v (x - y) ∧ (∃ z, WkF m d F T pr ok s a c z) ∧ ∃ z, WkF m d F T pr ok c (j - (a + l)) v z := by
  obtain ⟨nd, ar, h1, h2, h3, h4⟩ := h
  have hnd : ∀ i, i ≤ j → nd i < n := by
    intro i hi
    by_cases e : i = 0
    · subst e; rw [h1]; exact hs
    · obtain ⟨g1, g2, g3⟩ := h3 (i - 1) (by omega)
      have e1 : i - 1 + 1 = i := by omega
      rw [e1] at g3
      have hk := hF _ g1
      rcases g3 with ⟨f1, f2⟩ | ⟨f0, f1, f2⟩ <;> omega
  obtain ⟨a, b, q1, q2, q3⟩ := pgn n nd (fun i hi => hnd i (by omega))
  obtain ⟨l, rfl⟩ : ∃ l, b = a + l := ⟨b - a, by omega⟩
  have tot : sumI (fun i => pr (ar i)) j = sumI (fun i => pr (ar i)) a + sumI (fun i => pr (ar (a + i))) l + sumI (fun i => pr (ar (a + l + i))) (j - (a + l)) := by
    have e1 : j = a + l + (j - (a + l)) := by omega
    rw [e1, sumI_add, sumI_add]
    have e2 : a + l + (j - (a + l)) - (a + l) = j - (a + l) := by omega
    rw [e2]
  refine ⟨nd a, l, a, sumI (fun i => pr (ar (a + i))) l, by omega, by omega, by omega, ?_, ?_, ?_, ?_⟩
  · have w := wk_part (pr := pr) (ok := ok) (a := a) (b := l) h3 (by omega)
    rw [← q3] at w
    exact w
  · refine ⟨fun i => if i ≤ a then nd i else nd (i + l), fun i => if i < a then ar i else ar (i + l), ?_, ?_, fun i hi => ?_, ?_⟩
    · show (if 0 ≤ a then nd 0 else nd (0 + l)) = s
      rw [if_pos (Nat.zero_le a)]; exact h1
    · show (if j - l ≤ a then nd (j - l) else nd (j - l + l)) = v
      by_cases e : j - l ≤ a
      · have e1 : j - l = a := by omega
        have e2 : a + l = j := by omega
        rw [if_pos e, e1, q3, e2]; exact h2
      · have e2 : j - l + l = j := by omega
        rw [if_neg e, e2]; exact h2
    · show (if i < a then ar i else ar (i + l)) < m ∧ ok (if i < a then ar i else ar (i + l)) ∧ goP d F T (if i < a then ar i else ar (i + l)) ((if i ≤ a then nd i else nd (i + l) : Nat) : Int) ((if i + 1 ≤ a then nd (i + 1) else nd (i + 1 + l) : Nat) : Int)
      by_cases e : i < a
      · rw [if_pos e, if_pos (by omega), if_pos (by omega)]; exact h3 i (by omega)
      · rw [if_neg e, if_neg (show ¬ i + 1 ≤ a by omega)]
        have g := h3 (i + l) (by omega)
        have e3 : i + l + 1 = i + 1 + l := by omega
        rw [e3] at g
        by_cases e2 : i ≤ a
        · have e4 : i = a := by omega
          rw [if_pos e2, e4, q3]
          rw [e4] at g
          exact g
        · rw [if_neg e2]; exact g
    · rw [h4, tot]
      have e1 : j - l = a + (j - (a + l)) := by omega
      rw [e1, sumI_add]
      have e2 : sumI (fun i => pr (if i < a then ar i else ar (i + l))) a = sumI (fun i => pr (ar i)) a := sumI_eq (fun i hi => by rw [if_pos hi])
      have e3 : sumI (fun i => pr (if a + i < a then ar (a + i) else ar (a + i + l))) (j - (a + l)) = sumI (fun i => pr (ar (a + l + i))) (j - (a + l)) := sumI_eq (fun i hi => by
        rw [if_neg (by omega)]
        have e5 : a + i + l = a + l + i := by omega
        rw [e5])
      rw [e2, e3]; omega
  · have w := wk_part (pr := pr) (ok := ok) (a := 0) (b := a) h3 (by omega)
    have e1 : 0 + a = a := by omega
    rw [e1, h1] at w
    exact ⟨_, w⟩
  · have w := wk_part (pr := pr) (ok := ok) (a := a + l) (b := j - (a + l)) h3 (by omega)
    have e1 : a + l + (j - (a + l)) = j := by omega
    rw [e1, h2, ← q3] at w
    exact ⟨_, w⟩
section WY
variable {m : Nat} {d : Int} {F T W Wt : Nat → Int} {pr pr' : Nat → Int} {ok ok' : Nat → Prop} {kind bd : Int} {s : Nat}
theorem wk_mono {j v : Nat} {x : Int} (hp : ∀ e, e < m → pr e = pr' e) (ho : ∀ e, ok e → ok' e) (h : WkF m d F T pr ok s j v x) : WkF m d F T pr' ok' s j v x := by
  obtain ⟨nd, ar, h1, h2, h3, h4⟩ := h
  refine ⟨nd, ar, h1, h2, fun i hi => ⟨(h3 i hi).1, ho _ (h3 i hi).2.1, (h3 i hi).2.2⟩, ?_⟩
  rw [h4]
  exact sumI_eq (fun i hi => hp _ (h3 i hi).1)
theorem wk_z {v : Nat} {x : Int} (h : WkF m d F T pr ok s 0 v x) : v = s ∧ x = 0 := by
  obtain ⟨nd, ar, h1, h2, h3, h4⟩ := h
  exact ⟨h2.symm.trans h1, h4⟩
theorem wk_rc : ∀ {j v : Nat} {x : Int}, WkF m d F T pr ok s j v x → RC (stP m d F T) (fun y => y = s) v := by
  intro j
  induction j with
  | zero => intro v x h; exact RC_in (wk_z h).1
  | succ j ih =>
    intro v x h
    obtain ⟨e, u, he, ho, hg, hw⟩ := wk_dn h
    exact RC_st (ih hw) ⟨e, he, hg⟩
theorem rc_wk {v : Nat} (hok : ∀ e, e < m → ok e) (h : RC (stP m d F T) (fun y => y = s) v) : ∃ (j : Nat) (x : Int), WkF m d F T pr ok s j v x := by
  refine h (fun v => ∃ (j : Nat) (x : Int), WkF m d F T pr ok s j v x) (fun i hi => ?_) (fun i j hi hj => ?_)
  · show ∃ (j : Nat) (x : Int), WkF m d F T pr ok s j i x
    rw [hi]
    exact ⟨0, 0, wk_0⟩
  · obtain ⟨a, x, hw⟩ := hi
    obtain ⟨e, he, hg⟩ := hj
    exact ⟨a + 1, _, wk_up hw he (hok e he) hg⟩
theorem wk_bd (hp : ∀ e, e < m → -1000 ≤ pr e ∧ pr e ≤ 1000) : ∀ {j v : Nat} {x : Int}, WkF m d F T pr ok s j v x → -1000 * (j : Int) ≤ x ∧ x ≤ 1000 * (j : Int) := by
  intro j
  induction j with
  | zero =>
    intro v x h
    have h1 := (wk_z h).2
    omega
  | succ j ih =>
    intro v x h
    obtain ⟨e, u, he, ho, hg, hw⟩ := wk_dn h
    have h1 := ih hw
    have h2 := hp e he
    omega
theorem bT_wk : ∀ {k v : Nat}, bT m d F T W kind bd s k v < 1000000000000 → WkF m d F T (prA kind W) (okA kind bd W) s k v (bT m d F T W kind bd s k v) := by
  intro k
  induction k with
  | zero =>
    intro v h
    by_cases e : v = s
    · have e1 : bT m d F T W kind bd s 0 v = 0 := if_pos e
      rw [e1, e]
      exact wk_0
    · have e1 : bT m d F T W kind bd s 0 v = 1000000000000 := if_neg e
      omega
  | succ k ih =>
    intro v h
    rcases mnS_at (d := d) (F := F) (T := T) (W := W) (kind := kind) (bd := bd) (B := bT m d F T W kind bd s k) (v := (v : Int)) (E := m) with h1 | ⟨e, h1, h2, h3⟩
    · exact absurd (show mnS d F T W kind bd (bT m d F T W kind bd s k) (v : Int) m < 1000000000000 from h) (by omega)
    · have w := wk_up (v := v) (ih h2.2.2) h1 h2.2.1 (by rw [Int.toNat_of_nonneg h2.1]; exact itV_go h2.1)
      show WkF m d F T (prA kind W) (okA kind bd W) s (k + 1) v (mnS d F T W kind bd (bT m d F T W kind bd s k) (v : Int) m)
      rw [← h3]
      exact w
theorem wk_bT (hW : ∀ e, e < m → -1000 ≤ W e ∧ W e ≤ 1000) : ∀ {k v : Nat} {x : Int}, k ≤ 1000000 → WkF m d F T (prA kind W) (okA kind bd W) s k v x → bT m d F T W kind bd s k v ≤ x := by
  have hp : ∀ e, e < m → -1000 ≤ prA kind W e ∧ prA kind W e ≤ 1000 := fun e he => by
    have := hW e he
    unfold prA
    split <;> omega
  intro k
  induction k with
  | zero =>
    intro v x _ h
    obtain ⟨e1, e2⟩ := wk_z h
    have e3 : bT m d F T W kind bd s 0 v = 0 := if_pos e1
    omega
  | succ k ih =>
    intro v x hk h
    obtain ⟨e, u, he, ho, hg, hw⟩ := wk_dn h
    have h1 := ih (by omega) hw
    have h2 := wk_bd hp hw
    have hi : itV d F T e (v : Int) = (u : Int) := go_itV hg
    have hiN : (itV d F T e (v : Int)).toNat = u := by rw [hi]; rfl
    have hu : usA d F T W kind bd (bT m d F T W kind bd s k) (v : Int) e := ⟨by rw [hi]; omega, ho, by rw [hiN]; omega⟩
    have h3 := mnS_le he hu
    have h4 : vaA d F T W kind (bT m d F T W kind bd s k) (v : Int) e = bT m d F T W kind bd s k u + prA kind W e := by unfold vaA; rw [hiN]
    show mnS d F T W kind bd (bT m d F T W kind bd s k) (v : Int) m ≤ x
    omega
theorem prA_0 {e : Nat} : prA 0 Wt e = Wt e := by unfold prA; exact if_pos rfl
theorem bT_w0 {k v : Nat} (h : bT m d F T Wt 0 0 s k v < 1000000000000) : WkF m d F T Wt (fun _ => True) s k v (bT m d F T Wt 0 0 s k v) := wk_mono (fun _ _ => prA_0) (fun _ _ => trivial) (bT_wk h)
theorem w0_bT {k v : Nat} {x : Int} (hW : ∀ e, e < m → -1000 ≤ Wt e ∧ Wt e ≤ 1000) (hk : k ≤ 1000000) (h : WkF m d F T Wt (fun _ => True) s k v x) : bT m d F T Wt 0 0 s k v ≤ x := wk_bT hW hk (wk_mono (fun _ _ => prA_0.symm) (fun _ _ => Or.inl (by decide)) h)
/-- v can be had for less and less: told by walks -/
def edW (m : Nat) (d : Int) (F T Wt : Nat → Int) (n s v : Nat) : Prop := ∃ (c l : Nat) (y : Int), 1 ≤ l ∧ l ≤ n ∧ WkF m d F T Wt (fun _ => True) c l c y ∧ y < 0 ∧ RC (stP m d F T) (fun x => x = s) c ∧ RC (stP m d F T) (fun x => x = c) v
theorem edW_st {n v w : Nat} (h : edW m d F T Wt n s v) (hs : stP m d F T v w) : edW m d F T Wt n s w := by
  obtain ⟨c, l, y, h1, h2, h3, h4, h5, h6⟩ := h
  exact ⟨c, l, y, h1, h2, h3, h4, h5, RC_st h6 hs⟩
theorem ed_W {n v : Nat} (hW : ∀ e, e < m → -1000 ≤ Wt e ∧ Wt e ≤ 1000) (hn : n ≤ 16) (hs : s < n) (hF : ∀ k, k < m → (0 ≤ F k ∧ F k < (n : Int)) ∧ (0 ≤ T k ∧ T k < (n : Int))) : edP m d F T Wt (n : Int) s v ↔ edW m d F T Wt n s v := by
  constructor
  · intro h
    refine h (fun v => edW m d F T Wt n s v) (fun u hu => ?_) (fun i j hi hij => edW_st hi hij)
    obtain ⟨h1, h2, k, k1, k2, k3⟩ := hu
    exact ⟨u, k, _, k1, by omega, bT_w0 (by omega), k3, h2, RC_in rfl⟩
  · rintro ⟨c, l, y, h1, h2, h3, h4, h5, h6⟩
    have hc : (c : Int) < (n : Int) := RC_bd hF (by omega) h5
    have hb := w0_bT hW (by omega) h3
    exact RC_tr (RC_in ⟨hc, h5, l, h1, by omega, by omega⟩) h6
/-- a way that is not endless has one of fewer than n arcs that is no worse -/
theorem wk_sh {n : Nat} (hs : s < n) (hF : ∀ k, k < m → (0 ≤ F k ∧ F k < (n : Int)) ∧ (0 ≤ T k ∧ T k < (n : Int))) : ∀ (j : Nat) {v : Nat} {x : Int}, WkF m d F T Wt (fun _ => True) s j v x → ¬ edW m d F T Wt n s v → ∃ (j' : Nat) (x' : Int), j' < n ∧ WkF m d F T Wt (fun _ => True) s j' v x' ∧ x' ≤ x ∧ j' ≤ j := by
  intro j
  induction j using Nat.strongRecOn with
  | _ j ih =>
    intro v x h hn
    by_cases hj : j < n
    · exact ⟨j, x, hj, h, Int.le_refl _, Nat.le_refl _⟩
    · obtain ⟨c, l, a, y, l1, l2, l3, w1, w2, ⟨z, w3⟩, ⟨z', w4⟩⟩ := wk_cut h (by omega) hs hF
      by_cases hy : y < 0
      · exact absurd ⟨c, l, y, l1, l2, w1, hy, wk_rc w3, wk_rc w4⟩ hn
      · obtain ⟨j', x', q1, q2, q3, q4⟩ := ih (j - l) (by omega) w2 hn
        exact ⟨j', x', q1, q2, by omega, by omega⟩
theorem wk_end {j v n : Nat} {x : Int} (h : WkF m d F T pr ok s j v x) (hs : s < n) (hF : ∀ k, k < m → (0 ≤ F k ∧ F k < (n : Int)) ∧ (0 ≤ T k ∧ T k < (n : Int))) : v < n := by
  have := RC_bd hF (v := s) (by omega) (wk_rc h)
  omega
end WY
/-- lowering: what is held is a way's; what is held is no worse than ways of at most r arcs -/
def leX (a b x y : Int) : Prop := a < x ∨ (a = x ∧ b ≤ y)
theorem leX_tr {a b c e x y : Int} (h : leX a b c e) (h' : leX c e x y) : leX a b x y := by unfold leX at *; omega
theorem leX_ad {a b x y w : Int} (h : leX a b x y) : leX (a + w) (b + 1) (x + w) (y + 1) := by unfold leX at *; omega
def lwW (m : Nat) (d : Int) (F T Wt : Nat → Int) (s n : Nat) (S : Nat → Int) (Wo : Nat → Int64) (Lf : Nat → Int) : Prop := ∀ i : Nat, i < n → (S i = 0 ∧ Wo i = 0 ∧ Lf i = -1) ∨ (S i = 1 ∧ 0 ≤ Lf i ∧ WkF m d F T Wt (fun _ => True) s (Lf i).toNat i (Wo i).toInt)
def lwB (m : Nat) (d : Int) (F T Wt : Nat → Int) (s : Nat) (S : Nat → Int) (Wo : Nat → Int64) (Lf : Nat → Int) (r : Int) : Prop := ∀ (j v : Nat) (x : Int), (j : Int) ≤ r → WkF m d F T Wt (fun _ => True) s j v x → S v ≠ 0 ∧ leX (Wo v).toInt (Lf v) x (j : Int)
def lwG (m : Nat) (d : Int) (F T Wt : Nat → Int) (s : Nat) (Tl Hd By S : Nat → Int) (Wo : Nat → Int64) (Lf : Nat → Int) (r k : Int) : Prop := ∀ (k' j : Nat) (x : Int), (k' : Int) < k → (j : Int) ≤ r → WkF m d F T Wt (fun _ => True) s j (Tl k').toNat x → S (Hd k').toNat ≠ 0 ∧ leX (Wo (Hd k').toNat).toInt (Lf (Hd k').toNat) (x + Wt (By k').toNat) ((j : Int) + 1)
def lwC (Tl Hd p S : Nat → Int) (Wo : Nat → Int64) (Lf : Nat → Int) (c k : Int) : Prop := c = 0 → ∀ k' : Nat, (k' : Int) < k → ¬ loP Tl Hd p S Wo Lf k'
def lwD (S : Nat → Int) (Wo : Nat → Int64) (Lf S' : Nat → Int) (Wo' : Nat → Int64) (Lf' : Nat → Int) : Prop := ∀ v : Nat, S v ≠ 0 → S' v ≠ 0 ∧ leX (Wo' v).toInt (Lf' v) (Wo v).toInt (Lf v)
section LW
variable {m q n s : Nat} {d : Int} {F T Wt Tl Hd By p S S' Lf Lf' : Nat → Int} {Wo Wo' : Nat → Int64} {pos : Nat → Nat}
theorem lwW_0 (hs : s < n) : lwW m d F T Wt s n (fup (fun _ => 0) s 1) (fun _ => 0) (fup (fun _ => -1) s 0) := by
  intro i hi
  by_cases e : i = s
  · right
    rw [e, fup_s, fup_s]
    exact ⟨rfl, Int.le_refl _, wk_0⟩
  · left
    rw [fup_o _ _ e, fup_o _ _ e]
    exact ⟨rfl, rfl, rfl⟩
theorem lwB_0 (h : S s ≠ 0) (h1 : Wo s = 0) (h2 : Lf s = 0) : lwB m d F T Wt s S Wo Lf 0 := by
  intro j v x hj hw
  have ej : j = 0 := by omega
  subst ej
  obtain ⟨e1, e2⟩ := wk_z hw
  rw [e1, e2, h1, h2]
  exact ⟨h, Or.inr ⟨by decide, Int.le_refl _⟩⟩
theorem lwC_1 {k : Int} : lwC Tl Hd p S Wo Lf 1 k := fun h => absurd h (by decide)
theorem lwC_0 {c : Int} : lwC Tl Hd p S Wo Lf c 0 := fun _ k' hk => by omega
theorem lwC_n {c k : Int} (h : lwC Tl Hd p S Wo Lf c k) (h0 : 0 ≤ k) (hn : ¬ loP Tl Hd p S Wo Lf k.toNat) : lwC Tl Hd p S Wo Lf c (k + 1) := by
  intro hc k' hk
  by_cases e : k' = k.toNat
  · rw [e]; exact hn
  · exact h hc k' (by omega)
theorem lwG_0 {r : Int} : lwG m d F T Wt s Tl Hd By S Wo Lf r 0 := fun k' j x hk => by omega
theorem lw_W {k : Nat} {x : Int64} (hgo : GoS m q d F T Tl Hd By pos) (hF : ∀ k, k < m → (0 ≤ F k ∧ F k < (n : Int)) ∧ (0 ≤ T k ∧ T k < (n : Int))) (h : lwW m d F T Wt s n S Wo Lf) (hk : k < q) (hl : S (Tl k).toNat ≠ 0) (hx : x.toInt = (Wo (Tl k).toNat).toInt + Wt (By k).toNat) : lwW m d F T Wt s n (fup S (Hd k).toNat 1) (fuj Wo (Hd k).toNat x) (fup Lf (Hd k).toNat (Lf (Tl k).toNat + 1)) := by
  obtain ⟨e0, g1, g2, g3⟩ := go_goP hgo k hk
  have hb := hF e0 g1
  have ht : 0 ≤ Tl k ∧ Tl k < (n : Int) ∧ 0 ≤ Hd k ∧ Hd k < (n : Int) := by rcases g3 with ⟨a, b⟩ | ⟨-, a, b⟩ <;> omega
  intro i hi
  by_cases e : i = (Hd k).toNat
  · right
    rw [e, fup_s, fuj_s, fup_s]
    rcases h (Tl k).toNat (by omega) with ⟨a, -, -⟩ | ⟨a1, a2, a3⟩
    · exact absurd a hl
    · have w := wk_up (v := (Hd k).toNat) (e := e0) a3 g1 trivial (by rw [Int.toNat_of_nonneg ht.1, Int.toNat_of_nonneg ht.2.2.1]; exact g3)
      have e2 : (By k).toNat = e0 := by omega
      rw [hx, tn1 a2, e2]
      exact ⟨rfl, by omega, w⟩
  · rw [fup_o _ _ e, fuj_o _ _ e, fup_o _ _ e]
    exact h i hi
theorem lw_D {k : Nat} {x : Int64} (hl : loP Tl Hd p S Wo Lf k) (hx : x.toInt = (Wo (Tl k).toNat).toInt + p k) : lwD S Wo Lf (fup S (Hd k).toNat 1) (fuj Wo (Hd k).toNat x) (fup Lf (Hd k).toNat (Lf (Tl k).toNat + 1)) := by
  intro v hv
  by_cases e : v = (Hd k).toNat
  · rw [e] at hv ⊢
    rw [fup_s, fuj_s, fup_s]
    have h2 := hl.2
    refine ⟨by decide, ?_⟩
    unfold leX
    omega
  · rw [fup_o _ _ e, fuj_o _ _ e, fup_o _ _ e]
    exact ⟨hv, Or.inr ⟨rfl, Int.le_refl _⟩⟩
theorem lwB_d {r : Int} (h : lwB m d F T Wt s S Wo Lf r) (hd : lwD S Wo Lf S' Wo' Lf') : lwB m d F T Wt s S' Wo' Lf' r := by
  intro j v x hj hw
  obtain ⟨h1, h2⟩ := h j v x hj hw
  obtain ⟨h3, h4⟩ := hd v h1
  exact ⟨h3, leX_tr h4 h2⟩
theorem lwG_d {r k : Int} (h : lwG m d F T Wt s Tl Hd By S Wo Lf r k) (hd : lwD S Wo Lf S' Wo' Lf') : lwG m d F T Wt s Tl Hd By S' Wo' Lf' r k := by
  intro k' j x hk hj hw
  obtain ⟨h1, h2⟩ := h k' j x hk hj hw
  obtain ⟨h3, h4⟩ := hd _ h1
  exact ⟨h3, leX_tr h4 h2⟩
theorem lwG_up {r k : Int} (hB : lwB m d F T Wt s S Wo Lf r) (hG : lwG m d F T Wt s Tl Hd By S' Wo' Lf' r k) (h0 : 0 ≤ k) (hb : S (Tl k.toNat).toNat ≠ 0 → S' (Hd k.toNat).toNat ≠ 0 ∧ leX (Wo' (Hd k.toNat).toNat).toInt (Lf' (Hd k.toNat).toNat) ((Wo (Tl k.toNat).toNat).toInt + Wt (By k.toNat).toNat) (Lf (Tl k.toNat).toNat + 1)) : lwG m d F T Wt s Tl Hd By S' Wo' Lf' r (k + 1) := by
  intro k' j x hk hj hw
  by_cases e : k' = k.toNat
  · subst e
    obtain ⟨h1, h2⟩ := hB j _ x hj hw
    obtain ⟨h3, h4⟩ := hb h1
    exact ⟨h3, leX_tr h4 (leX_ad h2)⟩
  · exact hG k' j x (by omega) hj hw
/-- a going that lowers -/
theorem lw_y {r k : Int} {x : Int64} (hp : ∀ k, p k = Wt (By k).toNat) (hB : lwB m d F T Wt s S Wo Lf r) (hG : lwG m d F T Wt s Tl Hd By S Wo Lf r k) (h0 : 0 ≤ k) (hl : loP Tl Hd p S Wo Lf k.toNat) (hx : x.toInt = (Wo (Tl k.toNat).toNat).toInt + p k.toNat) : lwB m d F T Wt s (fup S (Hd k.toNat).toNat 1) (fuj Wo (Hd k.toNat).toNat x) (fup Lf (Hd k.toNat).toNat (Lf (Tl k.toNat).toNat + 1)) r ∧ lwG m d F T Wt s Tl Hd By (fup S (Hd k.toNat).toNat 1) (fuj Wo (Hd k.toNat).toNat x) (fup Lf (Hd k.toNat).toNat (Lf (Tl k.toNat).toNat + 1)) r (k + 1) := by
  have hd := lw_D hl hx
  refine ⟨lwB_d hB hd, lwG_up hB (lwG_d hG hd) h0 (fun _ => ?_)⟩
  rw [fup_s, fuj_s, fup_s, hx, hp]
  exact ⟨by decide, Or.inr ⟨rfl, Int.le_refl _⟩⟩
/-- a going that does not -/
theorem lw_n {r k : Int} (hp : ∀ k, p k = Wt (By k).toNat) (hB : lwB m d F T Wt s S Wo Lf r) (hG : lwG m d F T Wt s Tl Hd By S Wo Lf r k) (h0 : 0 ≤ k) (hl : ¬ loP Tl Hd p S Wo Lf k.toNat) : lwG m d F T Wt s Tl Hd By S Wo Lf r (k + 1) := by
  refine lwG_up hB hG h0 (fun h1 => ?_)
  unfold loP at hl
  rw [hp] at hl
  unfold leX
  omega
theorem lw_rd {r k : Int} (hgo : GoS m q d F T Tl Hd By pos) (h0 : 0 ≤ r) (hB : lwB m d F T Wt s S Wo Lf r) (hG : lwG m d F T Wt s Tl Hd By S Wo Lf r k) (hk : k = (q : Int)) : lwB m d F T Wt s S Wo Lf (r + 1) := by
  intro j v x hj hw
  match j, hj, hw with
  | 0, hj, hw => exact hB 0 v x (by omega) hw
  | j + 1, hj, hw =>
    obtain ⟨e, u, he, -, hg, hw'⟩ := wk_dn hw
    obtain ⟨k', g1, g2, g3, g4⟩ := arc_go hgo he hg
    have e1 : (Tl k').toNat = u := by omega
    have e2 : (Hd k').toNat = v := by omega
    have e3 : (By k').toNat = e := by omega
    have h := hG k' j (x - Wt e) (by omega) (by omega) (by rw [e1]; exact hw')
    rw [e2, e3] at h
    have e4 : x - Wt e + Wt e = x := by omega
    have e5 : ((j : Int) + 1) = ((j + 1 : Nat) : Int) := by omega
    rw [e4, e5] at h
    exact h
theorem lw_no (hgo : GoS m q d F T Tl Hd By pos) (hp : ∀ k, p k = Wt (By k).toNat) (hB : lwB m d F T Wt s S Wo Lf 0) (hC : ∀ k, k < q → ¬ loP Tl Hd p S Wo Lf k) : ∀ (j v : Nat) (x : Int), WkF m d F T Wt (fun _ => True) s j v x → S v ≠ 0 ∧ leX (Wo v).toInt (Lf v) x (j : Int) := by
  intro j
  induction j with
  | zero => intro v x hw; exact hB 0 v x (by omega) hw
  | succ j ih =>
    intro v x hw
    obtain ⟨e, u, he, -, hg, hw'⟩ := wk_dn hw
    obtain ⟨k', g1, g2, g3, g4⟩ := arc_go hgo he hg
    have e1 : (Tl k').toNat = u := by omega
    have e2 : (Hd k').toNat = v := by omega
    have e3 : (By k').toNat = e := by omega
    obtain ⟨h1, h2⟩ := ih u _ hw'
    have h3 := hC k' g1
    unfold loP at h3
    rw [hp, e1, e2, e3] at h3
    unfold leX at h2 ⊢
    omega
theorem lw_end {r c : Int} (hgo : GoS m q d F T Tl Hd By pos) (hp : ∀ k, p k = Wt (By k).toNat) (h0 : 1 ≤ r) (hB : lwB m d F T Wt s S Wo Lf (r - 1)) (hC : lwC Tl Hd p S Wo Lf c (q : Int)) (hr : (n : Int) ≤ r ∨ c = 0) : lwB m d F T Wt s S Wo Lf ((n : Int) - 1) := by
  rcases hr with h | h
  · intro j v x hj hw
    exact hB j v x (by omega) hw
  · intro j v x _ hw
    exact lw_no hgo hp (fun j v x hj hw => hB j v x (by omega) hw) (fun k hk => hC h k (by omega)) j v x hw
/-- a going that still lowers leads to a node that is endless -/
theorem ed_1 {k : Nat} (hgo : GoS m q d F T Tl Hd By pos) (hp : ∀ k, p k = Wt (By k).toNat) (hs : s < n) (hF : ∀ k, k < m → (0 ≤ F k ∧ F k < (n : Int)) ∧ (0 ≤ T k ∧ T k < (n : Int))) (hW : lwW m d F T Wt s n S Wo Lf) (hB : lwB m d F T Wt s S Wo Lf ((n : Int) - 1)) (hk : k < q) (hl : loP Tl Hd p S Wo Lf k) : edW m d F T Wt n s (Hd k).toNat := by
  obtain ⟨e0, g1, g2, g3⟩ := go_goP hgo k hk
  have hb := hF e0 g1
  have ht : 0 ≤ Tl k ∧ Tl k < (n : Int) ∧ 0 ≤ Hd k ∧ Hd k < (n : Int) := by rcases g3 with ⟨a, b⟩ | ⟨-, a, b⟩ <;> omega
  have e2 : (By k).toNat = e0 := by omega
  refine Classical.byContradiction (fun hn => ?_)
  obtain ⟨l1, l2⟩ := hl
  rw [hp, e2] at l2
  rcases hW (Tl k).toNat (by omega) with ⟨a, -, -⟩ | ⟨a1, a2, a3⟩
  · exact absurd a l1
  · have w := wk_up (v := (Hd k).toNat) (e := e0) a3 g1 trivial (by rw [Int.toNat_of_nonneg ht.1, Int.toNat_of_nonneg ht.2.2.1]; exact g3)
    obtain ⟨j', x', q1, q2, q3, q4⟩ := wk_sh hs hF _ w hn
    obtain ⟨b1, b2⟩ := hB j' _ x' (by omega) q2
    unfold leX at b2
    omega
/-- where no going lowers on the way to v -/
theorem wk_pot {c v : Nat} (hgo : GoS m q d F T Tl Hd By pos) (hp : ∀ k, p k = Wt (By k).toNat) (hV : ¬ RC (stP m d F T) (fun x => ∃ k, k < q ∧ loP Tl Hd p S Wo Lf k ∧ x = (Hd k).toNat) v) (hc : S c ≠ 0) : ∀ (l : Nat) {w : Nat} {y : Int}, WkF m d F T Wt (fun _ => True) c l w y → RC (stP m d F T) (fun x => x = w) v → S w ≠ 0 ∧ (Wo w).toInt ≤ (Wo c).toInt + y := by
  intro l
  induction l with
  | zero =>
    intro w y h _
    obtain ⟨e1, e2⟩ := wk_z h
    rw [e1, e2]
    exact ⟨hc, by omega⟩
  | succ l ih =>
    intro w y h hw
    obtain ⟨e, u, he, -, hg, h'⟩ := wk_dn h
    have hu : RC (stP m d F T) (fun x => x = u) v := RC_tr (RC_st (RC_in rfl) ⟨e, he, hg⟩) hw
    obtain ⟨h1, h2⟩ := ih h' hu
    obtain ⟨k', g1, g2, g3, g4⟩ := arc_go hgo he hg
    have e1 : (Tl k').toNat = u := by omega
    have e2 : (Hd k').toNat = w := by omega
    have e3 : (By k').toNat = e := by omega
    have hnl : ¬ loP Tl Hd p S Wo Lf k' := fun h9 => hV (RC_tr (RC_in ⟨k', g1, h9, e2.symm⟩) hw)
    unfold loP at hnl
    rw [hp, e1, e2, e3] at hnl
    omega
theorem ed_2 {v : Nat} (hgo : GoS m q d F T Tl Hd By pos) (hp : ∀ k, p k = Wt (By k).toNat) (hB : lwB m d F T Wt s S Wo Lf 0) (h : edW m d F T Wt n s v) : RC (stP m d F T) (fun x => ∃ k, k < q ∧ loP Tl Hd p S Wo Lf k ∧ x = (Hd k).toNat) v := by
  refine Classical.byContradiction (fun hV => ?_)
  obtain ⟨c, l, y, h1, h2, h3, h4, h5, h6⟩ := h
  have hS := (hB 0 s 0 (by omega) wk_0).1
  obtain ⟨j, x, hw⟩ := rc_wk (pr := Wt) (ok := fun _ => True) (fun _ _ => trivial) h5
  have hc := (wk_pot hgo hp hV hS j hw h6).1
  have hl := (wk_pot hgo hp hV hc l h3 h6).2
  omega
theorem ed_V {v : Nat} (hgo : GoS m q d F T Tl Hd By pos) (hp : ∀ k, p k = Wt (By k).toNat) (hs : s < n) (hF : ∀ k, k < m → (0 ≤ F k ∧ F k < (n : Int)) ∧ (0 ≤ T k ∧ T k < (n : Int))) (hW : lwW m d F T Wt s n S Wo Lf) (hB : lwB m d F T Wt s S Wo Lf ((n : Int) - 1)) : RC (stP m d F T) (fun x => ∃ k, k < q ∧ loP Tl Hd p S Wo Lf k ∧ x = (Hd k).toNat) v ↔ edW m d F T Wt n s v := by
  refine ⟨fun h => h (fun v => edW m d F T Wt n s v) (fun i hi => ?_) (fun i j hi hij => edW_st hi hij), fun h => ed_2 hgo hp (fun j v x hj hw => hB j v x (by omega) hw) h⟩
  obtain ⟨k, k1, k2, k3⟩ := hi
  show edW m d F T Wt n s i
  rw [k3]
  exact ed_1 hgo hp hs hF hW hB k1 k2
end LW
/-- heads of goings that still lower -/
def fnX (Tl Hd p S : Nat → Int) (Wo : Nat → Int64) (Lf : Nat → Int) (f k : Int) : Prop := ∀ j : Nat, Me f j ↔ ∃ k' : Nat, (k' : Int) < k ∧ loP Tl Hd p S Wo Lf k' ∧ j = (Hd k').toNat
theorem fnx_0 {Tl Hd p S : Nat → Int} {Wo : Nat → Int64} {Lf : Nat → Int} : fnX Tl Hd p S Wo Lf 0 0 := fun j => ⟨fun h => absurd h (Me_0 j), fun ⟨k', h, _⟩ => by omega⟩
theorem fnx_y {Tl Hd p S : Nat → Int} {Wo : Nat → Int64} {Lf : Nat → Int} {f k z b : Int} (h : fnX Tl Hd p S Wo Lf f k) (h0 : 0 ≤ k) (hz : ∀ i, Me z i ↔ Me f i ∨ Me b i) (hb : ∀ i, Me b i ↔ i = (Hd k.toNat).toNat) (hl : loP Tl Hd p S Wo Lf k.toNat) : fnX Tl Hd p S Wo Lf z (k + 1) := by
  intro j
  rw [hz j, hb j, h j]
  constructor
  · rintro (⟨k', q1, q2⟩ | e)
    · exact ⟨k', by omega, q2⟩
    · exact ⟨k.toNat, by omega, hl, e⟩
  · rintro ⟨k', q1, q2, q3⟩
    by_cases e : k' = k.toNat
    · rw [e] at q3; exact Or.inr q3
    · exact Or.inl ⟨k', by omega, q2, q3⟩
theorem fnx_n {Tl Hd p S : Nat → Int} {Wo : Nat → Int64} {Lf : Nat → Int} {f k : Int} (h : fnX Tl Hd p S Wo Lf f k) (h0 : 0 ≤ k) (hl : ¬ loP Tl Hd p S Wo Lf k.toNat) : fnX Tl Hd p S Wo Lf f (k + 1) := by
  intro j
  rw [h j]
  constructor
  · rintro ⟨k', q1, q2⟩; exact ⟨k', by omega, q2⟩
  · rintro ⟨k', q1, q2, q3⟩
    by_cases e : k' = k.toNat
    · rw [e] at q2; exact absurd q2 hl
    · exact ⟨k', by omega, q2, q3⟩
/-- what is marked endless -/
def meX (n : Nat) (E : Int) (S0 : Nat → Int) (W0 : Nat → Int64) (L0 : Nat → Int) (M0 : Nat → Int64) (S : Nat → Int) (Wo : Nat → Int64) (Lf : Nat → Int) (Mn : Nat → Int64) (k : Int) : Prop := ∀ i : Nat, i < n → (((i : Int) < k ∧ Me E i) → S i = 2 ∧ Wo i = 0 ∧ Lf i = -1 ∧ Mn i = 0) ∧ (¬ ((i : Int) < k ∧ Me E i) → S i = S0 i ∧ Wo i = W0 i ∧ Lf i = L0 i ∧ Mn i = M0 i)
theorem mex_0 {n : Nat} {E : Int} {S0 : Nat → Int} {W0 : Nat → Int64} {L0 : Nat → Int} {M0 : Nat → Int64} : meX n E S0 W0 L0 M0 S0 W0 L0 M0 0 := fun i _ => ⟨fun h => by omega, fun _ => ⟨rfl, rfl, rfl, rfl⟩⟩
theorem mex_y {n : Nat} {E : Int} {S0 : Nat → Int} {W0 : Nat → Int64} {L0 : Nat → Int} {M0 : Nat → Int64} {S : Nat → Int} {Wo : Nat → Int64} {Lf : Nat → Int} {Mn : Nat → Int64} {k : Int} (h : meX n E S0 W0 L0 M0 S Wo Lf Mn k) (h0 : 0 ≤ k) (hE : Me E k.toNat) : meX n E S0 W0 L0 M0 (fup S k.toNat 2) (fuj Wo k.toNat 0) (fup Lf k.toNat (-1)) (fuj Mn k.toNat 0) (k + 1) := by
  intro i hi
  by_cases e : i = k.toNat
  · subst e
    rw [fup_s, fuj_s, fup_s, fuj_s]
    exact ⟨fun _ => ⟨rfl, rfl, rfl, rfl⟩, fun h9 => absurd ⟨by omega, hE⟩ h9⟩
  · rw [fup_o _ _ e, fuj_o _ _ e, fup_o _ _ e, fuj_o _ _ e]
    exact ⟨fun h9 => (h i hi).1 ⟨by omega, h9.2⟩, fun h9 => (h i hi).2 (fun h8 => h9 ⟨by omega, h8.2⟩)⟩
theorem mex_n {n : Nat} {E : Int} {S0 : Nat → Int} {W0 : Nat → Int64} {L0 : Nat → Int} {M0 : Nat → Int64} {S : Nat → Int} {Wo : Nat → Int64} {Lf : Nat → Int} {Mn : Nat → Int64} {k : Int} (h : meX n E S0 W0 L0 M0 S Wo Lf Mn k) (h0 : 0 ≤ k) (hE : ¬ Me E k.toNat) : meX n E S0 W0 L0 M0 S Wo Lf Mn (k + 1) := by
  intro i hi
  by_cases e : i = k.toNat
  · subst e
    exact ⟨fun h9 => absurd h9.2 hE, fun _ => (h _ hi).2 (fun h8 => hE h8.2)⟩
  · exact ⟨fun h9 => (h i hi).1 ⟨by omega, h9.2⟩, fun h9 => (h i hi).2 (fun h8 => h9 ⟨by omega, h8.2⟩)⟩
/-- how things stand when the endless ones are marked -/
def lwF (m : Nat) (d : Int) (F T Wt : Nat → Int) (s n : Nat) (S : Nat → Int) (Wo : Nat → Int64) (Lf : Nat → Int) (v : Nat) : Prop := (S v = 0 ∧ Wo v = 0 ∧ Lf v = -1 ∧ ¬ RC (stP m d F T) (fun x => x = s) v) ∨ (S v = 2 ∧ Wo v = 0 ∧ Lf v = -1 ∧ edW m d F T Wt n s v) ∨ (S v = 1 ∧ (0 ≤ Lf v ∧ Lf v < (n : Int)) ∧ ¬ edW m d F T Wt n s v ∧ WkF m d F T Wt (fun _ => True) s (Lf v).toNat v (Wo v).toInt ∧ ∀ (j : Nat) (x : Int), WkF m d F T Wt (fun _ => True) s j v x → leX (Wo v).toInt (Lf v) x (j : Int))
theorem mk_end {m n s : Nat} {d : Int} {F T Wt S0 L0 S Lf : Nat → Int} {W0 M0 Wo Mn : Nat → Int64} {E k : Int} (hs : s < n) (hF : ∀ k, k < m → (0 ≤ F k ∧ F k < (n : Int)) ∧ (0 ≤ T k ∧ T k < (n : Int))) (hW : lwW m d F T Wt s n S0 W0 L0) (hB : lwB m d F T Wt s S0 W0 L0 ((n : Int) - 1)) (hE : ∀ v, Me E v ↔ edW m d F T Wt n s v) (hM : ∀ v, M0 v = if v = s then 1 else 0) (h : meX n E S0 W0 L0 M0 S Wo Lf Mn k) (hk : k = (n : Int)) : ∀ v, v < n → lwF m d F T Wt s n S Wo Lf v ∧ Mn v = (if S v = 1 ∧ v = s then 1 else 0) := by
  intro v hv
  obtain ⟨h1, h2⟩ := h v hv
  by_cases he : Me E v
  · obtain ⟨a1, a2, a3, a4⟩ := h1 ⟨by omega, he⟩
    refine ⟨Or.inr (Or.inl ⟨a1, a2, a3, (hE v).mp he⟩), ?_⟩
    rw [a4, if_neg (by omega)]
  · obtain ⟨a1, a2, a3, a4⟩ := h2 (fun h9 => he h9.2)
    have hn : ¬ edW m d F T Wt n s v := fun h9 => he ((hE v).mpr h9)
    have all : ∀ (j : Nat) (x : Int), WkF m d F T Wt (fun _ => True) s j v x → S0 v ≠ 0 ∧ leX (W0 v).toInt (L0 v) x (j : Int) := by
      intro j x hw
      obtain ⟨j', x', q1, q2, q3, q4⟩ := wk_sh hs hF j hw hn
      obtain ⟨b1, b2⟩ := hB j' v x' (by omega) q2
      refine ⟨b1, ?_⟩
      unfold leX at b2 ⊢
      omega
    rw [hM] at a4
    rcases hW v hv with ⟨b1, b2, b3⟩ | ⟨b1, b2, b3⟩
    · have hr : ¬ RC (stP m d F T) (fun x => x = s) v := fun h9 => by
        obtain ⟨j, x, hw⟩ := rc_wk (pr := Wt) (ok := fun _ => True) (fun _ _ => trivial) h9
        exact (all j x hw).1 b1
      refine ⟨Or.inl ⟨by rw [a1]; exact b1, by rw [a2]; exact b2, by rw [a3]; exact b3, hr⟩, ?_⟩
      have hvs : v ≠ s := fun e => hr (by rw [e]; exact RC_in rfl)
      rw [a4, if_neg hvs, if_neg (fun h9 => hvs h9.2)]
    · obtain ⟨j', x', q1, q2, q3, q4⟩ := wk_sh hs hF _ b3 hn
      have b4 := (all j' x' q2).2
      unfold leX at b4
      refine ⟨Or.inr (Or.inr ⟨by rw [a1]; exact b1, by rw [a3]; omega, hn, by rw [a2, a3]; exact b3, fun j x hw => by rw [a2, a3]; exact (all j x hw).2⟩), ?_⟩
      rw [a4]
      by_cases e : v = s
      · rw [if_pos e, if_pos ⟨by omega, e⟩]
      · rw [if_neg e, if_neg (fun h9 => e h9.2)]
theorem lwC_le {Tl Hd p S : Nat → Int} {Wo : Nat → Int64} {Lf : Nat → Int} {c k K : Int} (h : lwC Tl Hd p S Wo Lf c k) (hk : K ≤ k) : lwC Tl Hd p S Wo Lf c K := fun hc k' h9 => h hc k' (by omega)
theorem lw_rd2 {m q s : Nat} {d : Int} {F T Wt Tl Hd By S Lf : Nat → Int} {Wo : Nat → Int64} {pos : Nat → Nat} {r k R : Int} (hgo : GoS m q d F T Tl Hd By pos) (h0 : 0 ≤ r) (hB : lwB m d F T Wt s S Wo Lf r) (hG : lwG m d F T Wt s Tl Hd By S Wo Lf r k) (hk : k = (q : Int)) (hR : R = r + 1) : lwB m d F T Wt s S Wo Lf R := by
  subst hR
  exact lw_rd hgo h0 hB hG hk
theorem rx_set {Nx : Nat → Int} {n : Nat} {f E : Int} {R : Nat → Nat → Prop} (h : rxP Nx n f (((2 ^ n : Nat) : Int) - 1) E) (hN : rwP Nx n R) (hs : ∀ i, Me f i → i < n) (j : Nat) : Me E j ↔ RC R (fun x => Me f x) j := by
  rw [rx_RC h hN j]
  exact ⟨RC_mono (fun _ _ q => q.1) (fun _ q => q.1), RC_mono (fun i j q => ⟨q, (Me_all j).mpr (hN.2 i j q).2⟩) (fun x q => ⟨q, (Me_all x).mpr (hs x q)⟩)⟩
theorem me_ed {m q n s : Nat} {d : Int} {F T Wt Tl Hd By p S Lf Ou : Nat → Int} {Wo : Nat → Int64} {pos : Nat → Nat} {f k E : Int} (hgo : GoS m q d F T Tl Hd By pos) (hp : ∀ k, p k = Wt (By k).toNat) (hs : s < n) (hF : ∀ k, k < m → (0 ≤ F k ∧ F k < (n : Int)) ∧ (0 ≤ T k ∧ T k < (n : Int))) (hW : lwW m d F T Wt s n S Wo Lf) (hB : lwB m d F T Wt s S Wo Lf ((n : Int) - 1)) (hf : fnX Tl Hd p S Wo Lf f k) (hk : k = (q : Int)) (hrx : rxP Ou n f (((2 ^ n : Nat) : Int) - 1) E) (hou : rwP Ou n (stP m d F T)) : ∀ v, Me E v ↔ edW m d F T Wt n s v := by
  intro v
  have hs9 : ∀ i, Me f i → i < n := by
    intro i hi
    obtain ⟨k', k1, k2, k3⟩ := (hf i).mp hi
    obtain ⟨e0, g1, g2, g3⟩ := go_goP hgo k' (by omega)
    have hb := hF e0 g1
    rcases g3 with ⟨a, b⟩ | ⟨-, a, b⟩ <;> omega
  rw [rx_set hrx hou hs9 v, ← ed_V hgo hp hs hF hW hB]
  constructor
  · refine RC_mono (fun _ _ q => q) (fun x hx => ?_)
    obtain ⟨k', k1, k2, k3⟩ := (hf x).mp hx
    exact ⟨k', by omega, k2, k3⟩
  · refine RC_mono (fun _ _ q => q) (fun x hx => ?_)
    obtain ⟨k', k1, k2, k3⟩ := hx
    exact (hf x).mpr ⟨k', by omega, k2, k3⟩
theorem row_ne {n v w i j : Nat} (h : w ≠ v) (hi : i < n) (hj : j < n) : w * n + i ≠ v * n + j := by
  rcases Nat.lt_or_gt_of_ne h with g | g
  · have := Nat.mul_le_mul_right n (show w + 1 ≤ v from g)
    rw [Nat.add_mul, Nat.one_mul] at this
    omega
  · have := Nat.mul_le_mul_right n (show v + 1 ≤ w from g)
    rw [Nat.add_mul, Nat.one_mul] at this
    omega
theorem idx_e {n : Nat} {v i : Int} (hv : 0 ≤ v) (hi : 0 ≤ i) : (v * (n : Int) + i).toNat = v.toNat * n + i.toNat := by
  obtain ⟨a, rfl⟩ := Int.eq_ofNat_of_zero_le hv
  obtain ⟨b, rfl⟩ := Int.eq_ofNat_of_zero_le hi
  have e : (a : Int) * (n : Int) + (b : Int) = ((a * n + b : Nat) : Int) := by rw [Int.natCast_add, Int.natCast_mul]
  rw [e]
  rfl
theorem idx_0 {n : Nat} {v : Int} (hv : 0 ≤ v) : (v * (n : Int)).toNat = v.toNat * n := by
  have h := idx_e (n := n) (i := 0) hv (Int.le_refl 0)
  rw [Int.add_zero] at h
  exact h
/-- a going that is last of a best way to v -/
def btQ (Tl Hd p S : Nat → Int) (Wo : Nat → Int64) (Lf : Nat → Int) (v k : Nat) : Prop := Hd k = (v : Int) ∧ S (Tl k).toNat = 1 ∧ Lf (Tl k).toNat = Lf v - 1 ∧ (Wo (Tl k).toNat).toInt + p k = (Wo v).toInt
noncomputable def tsG (Q : Nat → Prop) (c : Nat → Int64) : Nat → Int64
  | 0 => 0
  | k + 1 => tsG Q c k + @ite _ (Q k) (Classical.propDecidable _) (c k) 0
theorem tsG_y {Q : Nat → Prop} {c : Nat → Int64} {k : Nat} (h : Q k) : tsG Q c (k + 1) = tsG Q c k + c k := by
  show tsG Q c k + @ite _ (Q k) (Classical.propDecidable _) (c k) 0 = _
  rw [if_pos h]
theorem tsG_n {Q : Nat → Prop} {c : Nat → Int64} {k : Nat} (h : ¬ Q k) : tsG Q c (k + 1) = tsG Q c k := by
  show tsG Q c k + @ite _ (Q k) (Classical.propDecidable _) (c k) 0 = _
  rw [if_neg h, i64_o]
section TL
variable {m q n s : Nat} {d : Int} {F T Wt Tl Hd By p S Lf : Nat → Int} {Wo : Nat → Int64} {pos : Nat → Nat}
theorem lf_bT {v : Nat} (hW : ∀ e, e < m → -1000 ≤ Wt e ∧ Wt e ≤ 1000) (hn : n ≤ 16) (h : lwF m d F T Wt s n S Wo Lf v) (hS : S v = 1) : bT m d F T Wt 0 0 s (Lf v).toNat v = (Wo v).toInt ∧ bT m d F T Wt 0 0 s (Lf v).toNat v < 1000000000000 := by
  rcases h with ⟨a, -⟩ | ⟨a, -⟩ | ⟨a, b, c, e, f⟩
  · omega
  · omega
  · have h1 := w0_bT hW (by omega) e
    have h2 := wk_bd hW e
    have h3 : bT m d F T Wt 0 0 s (Lf v).toNat v < 1000000000000 := by omega
    have h4 := f _ _ (bT_w0 h3)
    unfold leX at h4
    exact ⟨by omega, h3⟩
theorem bt_la {v k : Nat} (hgo : GoS m q d F T Tl Hd By pos) (hp : ∀ k, p k = Wt (By k).toNat) (hW : ∀ e, e < m → -1000 ≤ Wt e ∧ Wt e ≤ 1000) (hn : n ≤ 16) (hF : ∀ k, k < m → (0 ≤ F k ∧ F k < (n : Int)) ∧ (0 ≤ T k ∧ T k < (n : Int))) (hl : ∀ v, v < n → lwF m d F T Wt s n S Wo Lf v) (hv : v < n) (hS : S v = 1) (hL : 1 ≤ Lf v) (hk : k < q) (hh : Hd k = (v : Int)) : btQ Tl Hd p S Wo Lf v k ↔ laB m d F T Wt 0 0 s (Lf v) (v : Int) (By k).toNat := by
  obtain ⟨e0, g1, g2, g3⟩ := go_goP hgo k hk
  have e2 : (By k).toNat = e0 := by omega
  have hpk : p k = Wt e0 := by rw [hp, e2]
  have hb := hF e0 g1
  have ht : 0 ≤ Tl k ∧ Tl k < (n : Int) := by rcases g3 with ⟨a, b⟩ | ⟨-, a, b⟩ <;> omega
  have hi : itV d F T e0 (v : Int) = Tl k := go_itV (by rw [← hh]; exact g3)
  have hg4 : goP d F T e0 ((Tl k).toNat : Int) (v : Int) := by rw [Int.toNat_of_nonneg ht.1, ← hh]; exact g3
  obtain ⟨b1, b2⟩ := lf_bT hW hn (hl v hv) hS
  rw [e2]
  constructor
  · rintro ⟨-, c1, c2, c3⟩
    obtain ⟨d1, d2⟩ := lf_bT hW hn (hl (Tl k).toNat (by omega)) c1
    rw [c2] at d1 d2
    refine ⟨⟨by rw [hi]; exact ht.1, Or.inl (by decide), by rw [hi]; exact d2⟩, ?_⟩
    show vaA d F T Wt 0 (bT m d F T Wt 0 0 s (Lf v - 1).toNat) (v : Int) e0 = bT m d F T Wt 0 0 s (Lf v).toNat v
    unfold vaA
    rw [hi, d1, prA_0, b1, ← c3, hpk]
  · rintro ⟨⟨u1, u2, u3⟩, hva⟩
    have hva2 : vaA d F T Wt 0 (bT m d F T Wt 0 0 s (Lf v - 1).toNat) (v : Int) e0 = (Wo v).toInt := hva.trans b1
    unfold vaA at hva2
    rw [hi, prA_0] at hva2
    rw [hi] at u3
    have w1 := bT_w0 u3
    rcases hl v hv with ⟨a, -⟩ | ⟨a, -⟩ | ⟨a, b, c, e, f⟩
    · omega
    · omega
    · rcases hl (Tl k).toNat (by omega) with ⟨x1, x2, x3, x4⟩ | ⟨x1, x2, x3, x4⟩ | ⟨x1, x2, x3, x4, x5⟩
      · exact absurd (wk_rc w1) x4
      · exact absurd (edW_st x4 ⟨e0, g1, hg4⟩) c
      · have y1 := x5 _ _ w1
        have y2 := f _ _ (wk_up x4 g1 trivial hg4)
        unfold leX at y1 y2
        exact ⟨hh, x1, by omega, by rw [hpk]; omega⟩
theorem by_mo {k k' : Nat} (h : GoS m q d F T Tl Hd By pos) (hk : k < q) (hk' : k' < q) (hb : By k' < By k) : k' < k := by
  obtain ⟨j, j1, j2⟩ := gos_cov h m (Nat.le_refl _) k (by rw [h.2.1]; exact hk)
  obtain ⟨j', j1', j2'⟩ := gos_cov h m (Nat.le_refl _) k' (by rw [h.2.1]; exact hk')
  obtain ⟨p1, p2, p3, p4, p5⟩ := h.2.2 j j1
  obtain ⟨q1, q2, q3, q4, q5⟩ := h.2.2 j' j1'
  have ek : By k = (j : Int) ∧ pos j ≤ k := by
    rcases j2 with e | ⟨hc, e⟩
    · rw [e]; exact ⟨p3, Nat.le_refl _⟩
    · rw [e]; exact ⟨(p4 hc).2.2.2, by omega⟩
  have ek' : By k' = (j' : Int) ∧ k' < pos (j' + 1) := by
    rcases j2' with e | ⟨hc, e⟩
    · rw [e]; exact ⟨q3, by have := gos_lt h j' j1'; omega⟩
    · rw [e]; exact ⟨(q4 hc).2.2.2, by have := (q4 hc).1; omega⟩
  have := go_lt h (j' + 1) j (by omega) (by omega)
  omega
theorem ts_su {Q L : Nat → Prop} {c N A : Nat → Int64} {v : Int} (h : GoS m q d F T Tl Hd By pos) (hQ1 : ∀ k, k < q → Hd k ≠ v → ¬ Q k) (hQ2 : ∀ k, k < q → Hd k = v → (Q k ↔ L (By k).toNat)) (hQ3 : ∀ k, k < q → Q k → c k = N (Tl k).toNat) (hL : ∀ e, L e → 0 ≤ itV d F T e v) (hA : ∀ e, A e = @ite _ (L e) (Classical.propDecidable _) (N (itV d F T e v).toNat) 0) : tsG Q c q = suA A m := by
  have key : ∀ j, j ≤ m → tsG Q c (pos j) = suA A j := by
    intro j
    induction j with
    | zero => intro _; rw [h.1]; rfl
    | succ j ih =>
      intro hj
      have e := ih (by omega)
      obtain ⟨h2, h3, h4, h5, h6⟩ := h.2.2 j (by omega)
      have hle := go_lt h (j + 1) m (by omega) (Nat.le_refl _)
      rw [h.2.1] at hle
      have hl1 := gos_lt h j (by omega)
      have eb : (By (pos j)).toNat = j := by rw [h4]; rfl
      have s1 : tsG Q c (pos j + 1) = suA A j + (if T j = v then A j else 0) := by
        by_cases hv : T j = v
        · rw [if_pos hv]
          have hi : itV d F T j v = F j := by unfold itV; rw [if_pos hv]
          have hq := hQ2 (pos j) (by omega) (h3.trans hv)
          rw [eb] at hq
          by_cases hl : L j
          · have hqj := hq.mpr hl
            rw [tsG_y hqj, hQ3 _ (by omega) hqj, h2, e, hA, if_pos hl, hi]
          · rw [tsG_n (fun g => hl (hq.mp g)), e, hA, if_neg hl, i64_o]
        · rw [if_neg hv, i64_o, tsG_n (hQ1 _ (by omega) (by rw [h3]; exact hv)), e]
      show tsG Q c (pos (j + 1)) = suA A j + A j
      by_cases hc : d = 0 ∧ F j ≠ T j
      · obtain ⟨g1, g2, g3, g4⟩ := h5 hc
        have eb2 : (By (pos j + 1)).toNat = j := by rw [g4]; rfl
        rw [g1]
        show tsG Q c (pos j + 1 + 1) = _
        by_cases hv : F j = v
        · have hT : ¬ T j = v := fun g => hc.2 (hv.trans g.symm)
          have hi : itV d F T j v = T j := by unfold itV; rw [if_neg hT, if_pos ⟨hc.1, hv⟩]
          have hq := hQ2 (pos j + 1) (by omega) (g3.trans hv)
          rw [eb2] at hq
          rw [if_neg hT, i64_o] at s1
          by_cases hl : L j
          · have hqj := hq.mpr hl
            rw [tsG_y hqj, hQ3 _ (by omega) hqj, g2, s1, hA, if_pos hl, hi]
          · rw [tsG_n (fun g => hl (hq.mp g)), s1, hA, if_neg hl, i64_o]
        · rw [tsG_n (hQ1 _ (by omega) (by rw [g3]; exact hv)), s1]
          by_cases hT : T j = v
          · rw [if_pos hT]
          · rw [if_neg hT, hA, if_neg (fun hl => by
              have h9 := hL j hl
              unfold itV at h9
              rw [if_neg hT, if_neg (fun g => hv g.2)] at h9
              omega)]
      · rw [h6 hc, s1]
        by_cases hT : T j = v
        · rw [if_pos hT]
        · rw [if_neg hT, hA, if_neg (fun hl => by
            have h9 := hL j hl
            unfold itV at h9
            rw [if_neg hT, if_neg (fun g => hc ⟨g.1, fun g2 => hT (g2.symm.trans g.2)⟩)] at h9
            omega)]
  have h9 := key m (Nat.le_refl _)
  rw [h.2.1] at h9
  exact h9
end TL
def cpI (f g : Nat → Int) (s d x : Nat) : Nat → Int := fun i => if d ≤ i ∧ i < d + x then f (s + (i - d)) else g i
/-- the way to v is the way to u and one arc more -/
def rwS (n : Nat) (R0 R : Nat → Int) (v u : Nat) (K e : Int) : Prop := (∀ i : Nat, (i : Int) < K - 1 → R (v * n + i) = R0 (u * n + i)) ∧ R (v * n + (K - 1).toNat) = e ∧ ∀ w i : Nat, w ≠ v → i < n → R (w * n + i) = R0 (w * n + i)
theorem rws_up {n : Nat} {R0 R : Nat → Int} {v u K e : Int} {ix : Nat} (hv : 0 ≤ v) (hu : 0 ≤ u) (hK : 1 ≤ K ∧ K ≤ (n : Int)) (hix : ix = Int.toNat (v * (n : Int) + (K - 1))) (hR : ∀ i, R i = R0 i) : rwS n R0 (fup (cpI R R (Int.toNat (u * (n : Int))) (Int.toNat (v * (n : Int))) (Int.toNat (K - 1))) ix e) v.toNat u.toNat K e := by
  rw [hix, idx_e hv (show 0 ≤ K - 1 by omega), idx_0 hv, idx_0 hu]
  refine ⟨fun i hi => ?_, fup_s _ _ _, fun w i hw hi => ?_⟩
  · rw [fup_o _ _ (by omega)]
    show (if v.toNat * n ≤ v.toNat * n + i ∧ v.toNat * n + i < v.toNat * n + (K - 1).toNat then R (u.toNat * n + (v.toNat * n + i - v.toNat * n)) else R (v.toNat * n + i)) = _
    rw [if_pos (by omega), hR]
    congr 1
    omega
  · rw [fup_o _ _ (row_ne hw hi (by omega))]
    show (if v.toNat * n ≤ w * n + i ∧ w * n + i < v.toNat * n + (K - 1).toNat then R (u.toNat * n + (w * n + i - v.toNat * n)) else R (w * n + i)) = _
    rw [if_neg (fun h9 => ?_), hR]
    obtain ⟨j, hj⟩ : ∃ j, w * n + i = v.toNat * n + j := ⟨w * n + i - v.toNat * n, by omega⟩
    exact row_ne hw hi (show j < n by omega) hj
def tlP (n : Nat) (Tl Hd By p S : Nat → Int) (Wo : Nat → Int64) (Lf : Nat → Int) (v : Nat) (M0 Mn : Nat → Int64) (R0 R : Nat → Int) (fd k : Int) : Prop := Mn v = M0 v + tsG (btQ Tl Hd p S Wo Lf v) (fun i => M0 (Tl i).toNat) k.toNat ∧ (∀ w, w ≠ v → Mn w = M0 w) ∧ ((fd = 0 ∧ (∀ i : Nat, (i : Int) < k → ¬ btQ Tl Hd p S Wo Lf v i) ∧ ∀ i, R i = R0 i) ∨ (fd = 1 ∧ ∃ i0 : Nat, (i0 : Int) < k ∧ btQ Tl Hd p S Wo Lf v i0 ∧ (∀ i, i < i0 → ¬ btQ Tl Hd p S Wo Lf v i) ∧ rwS n R0 R v (Tl i0).toNat (Lf v) (By i0)))
section TM
variable {n v : Nat} {Tl Hd By p S Lf R0 R : Nat → Int} {Wo M0 Mn : Nat → Int64} {fd k : Int}
theorem tl_0 : tlP n Tl Hd By p S Wo Lf v M0 M0 R0 R0 0 0 := ⟨(i64_o _).symm, fun _ _ => rfl, Or.inl ⟨rfl, fun i hi => by omega, fun _ => rfl⟩⟩
theorem tl_n (h : tlP n Tl Hd By p S Wo Lf v M0 Mn R0 R fd k) (h0 : 0 ≤ k) (hn : ¬ btQ Tl Hd p S Wo Lf v k.toNat) : tlP n Tl Hd By p S Wo Lf v M0 Mn R0 R fd (k + 1) := by
  obtain ⟨h1, h2, h3⟩ := h
  refine ⟨by rw [tn1 h0, tsG_n hn]; exact h1, h2, ?_⟩
  rcases h3 with ⟨a, b, c⟩ | ⟨a, i0, b1, b2, b3, b4⟩
  · refine Or.inl ⟨a, fun i hi => ?_, c⟩
    by_cases e : i = k.toNat
    · rw [e]; exact hn
    · exact b i (by omega)
  · exact Or.inr ⟨a, i0, by omega, b2, b3, b4⟩
theorem tl_m {x : Int64} (h : tlP n Tl Hd By p S Wo Lf v M0 Mn R0 R fd k) (h0 : 0 ≤ k) (hb : btQ Tl Hd p S Wo Lf v k.toNat) (hx : x = Mn v + Mn (Tl k.toNat).toNat) : (fuj Mn v x) v = M0 v + tsG (btQ Tl Hd p S Wo Lf v) (fun i => M0 (Tl i).toNat) (k + 1).toNat ∧ ∀ w, w ≠ v → fuj Mn v x w = M0 w := by
  obtain ⟨h1, h2, -⟩ := h
  have hne : (Tl k.toNat).toNat ≠ v := fun e => by
    have h9 := hb.2.2.1
    rw [e] at h9
    omega
  refine ⟨?_, fun w hw => by rw [fuj_o _ _ hw]; exact h2 w hw⟩
  rw [fuj_s, tn1 h0, tsG_y hb, hx, h1, h2 _ hne, Int64.add_assoc]
theorem tl_y1 {x : Int64} (h : tlP n Tl Hd By p S Wo Lf v M0 Mn R0 R fd k) (h0 : 0 ≤ k) (hb : btQ Tl Hd p S Wo Lf v k.toNat) (hx : x = Mn v + Mn (Tl k.toNat).toNat) (hf : fd ≠ 0) : tlP n Tl Hd By p S Wo Lf v M0 (fuj Mn v x) R0 R fd (k + 1) := by
  obtain ⟨q1, q2⟩ := tl_m h h0 hb hx
  refine ⟨q1, q2, ?_⟩
  rcases h.2.2 with ⟨a, -⟩ | ⟨a, i0, b1, b2, b3, b4⟩
  · exact absurd a hf
  · exact Or.inr ⟨a, i0, by omega, b2, b3, b4⟩
theorem tl_y0 {x : Int64} {R1 : Nat → Int} (h : tlP n Tl Hd By p S Wo Lf v M0 Mn R0 R fd k) (h0 : 0 ≤ k) (hb : btQ Tl Hd p S Wo Lf v k.toNat) (hx : x = Mn v + Mn (Tl k.toNat).toNat) (hf : fd = 0) (hR : (∀ i, R i = R0 i) → rwS n R0 R1 v (Tl k.toNat).toNat (Lf v) (By k.toNat)) : tlP n Tl Hd By p S Wo Lf v M0 (fuj Mn v x) R0 R1 1 (k + 1) := by
  obtain ⟨q1, q2⟩ := tl_m h h0 hb hx
  refine ⟨q1, q2, ?_⟩
  rcases h.2.2 with ⟨a, b, c⟩ | ⟨a, -⟩
  · exact Or.inr ⟨rfl, k.toNat, by omega, hb, fun i hi => b i (by omega), hR c⟩
  · omega
end TM
/-- how many, and the arcs of ways, up to level L, node v -/
def trL (m : Nat) (d : Int) (F T Wt : Nat → Int) (s n : Nat) (S Lf : Nat → Int) (Mn : Nat → Int64) (R : Nat → Int) (L v : Int) : Prop := ∀ w, w < n → (S w ≠ 1 → Mn w = 0) ∧ (S w = 1 → ((Lf w < L ∨ (Lf w = L ∧ (w : Int) < v)) → Mn w = nT m d F T Wt 0 0 s (Lf w).toNat w ∧ tcP m d F T Wt 0 0 s (Lf w).toNat (w : Int) (fun i => R (w * n + i))) ∧ (¬ (Lf w < L ∨ (Lf w = L ∧ (w : Int) < v)) → Mn w = 0))
section TR
variable {m q n s : Nat} {d : Int} {F T Wt Tl Hd By p S Lf R0 R : Nat → Int} {Wo M0 Mn : Nat → Int64} {pos : Nat → Nat}
theorem tr_0 {L v : Int} (hl : ∀ v, v < n → lwF m d F T Wt s n S Wo Lf v ∧ Mn v = (if S v = 1 ∧ v = s then 1 else 0)) (hL : L = 1) (hv : v = 0) : trL m d F T Wt s n S Lf Mn R L v := by
  intro w hw
  obtain ⟨h1, h2⟩ := hl w hw
  refine ⟨fun h => by rw [h2, if_neg (fun h9 => h h9.1)], fun h => ?_⟩
  rcases h1 with ⟨a, -⟩ | ⟨a, -⟩ | ⟨a, b, c, e, f⟩
  · omega
  · omega
  · by_cases h0 : Lf w = 0
    · have e0 : (Lf w).toNat = 0 := by omega
      rw [e0] at e ⊢
      have hws := (wk_z e).1
      refine ⟨fun _ => ⟨?_, trivial⟩, fun h9 => absurd (Or.inl (by omega)) h9⟩
      rw [h2, if_pos ⟨h, hws⟩]
      exact (if_pos hws).symm
    · refine ⟨fun h9 => by omega, fun _ => ?_⟩
      have hws : w ≠ s := fun e9 => by
        subst e9
        have g := f 0 0 wk_0
        unfold leX at g
        exact c ⟨w, (Lf w).toNat, (Wo w).toInt, by omega, by omega, e, by omega, RC_in rfl, RC_in rfl⟩
      rw [h2, if_neg (fun h9 => hws h9.2)]
theorem tr_no {L v : Int} (h : trL m d F T Wt s n S Lf Mn R L v) (h0 : 0 ≤ v) (hn : ¬ (S v.toNat = 1 ∧ Lf v.toNat = L)) : trL m d F T Wt s n S Lf Mn R L (v + 1) := by
  intro w hw
  obtain ⟨h1, h2⟩ := h w hw
  refine ⟨h1, fun hS => ?_⟩
  obtain ⟨a, b⟩ := h2 hS
  by_cases e : w = v.toNat
  · subst e
    have hne : ¬ Lf v.toNat = L := fun h9 => hn ⟨hS, h9⟩
    exact ⟨fun h9 => a (by omega), fun h9 => b (by omega)⟩
  · exact ⟨fun h9 => a (by omega), fun h9 => b (by omega)⟩
theorem tr_nx {L v : Int} (h : trL m d F T Wt s n S Lf Mn R L v) (hv : (n : Int) ≤ v) : trL m d F T Wt s n S Lf Mn R (L + 1) 0 := by
  intro w hw
  obtain ⟨h1, h2⟩ := h w hw
  refine ⟨h1, fun hS => ?_⟩
  obtain ⟨a, b⟩ := h2 hS
  exact ⟨fun h9 => a (by omega), fun h9 => b (by omega)⟩
/-- what is found at v -/
theorem tl_end {v : Nat} {fd k : Int} (hgo : GoS m q d F T Tl Hd By pos) (hp : ∀ k, p k = Wt (By k).toNat) (hW : ∀ e, e < m → -1000 ≤ Wt e ∧ Wt e ≤ 1000) (hn : n ≤ 16) (hF : ∀ k, k < m → (0 ≤ F k ∧ F k < (n : Int)) ∧ (0 ≤ T k ∧ T k < (n : Int))) (hl : ∀ v, v < n → lwF m d F T Wt s n S Wo Lf v) (hv : v < n) (hS : S v = 1) (hL : 1 ≤ Lf v) (h : trL m d F T Wt s n S Lf M0 R0 (Lf v) (v : Int)) (ht : tlP n Tl Hd By p S Wo Lf v M0 Mn R0 R fd k) (hk : k = (q : Int)) : trL m d F T Wt s n S Lf Mn R (Lf v) ((v : Int) + 1) := by
  obtain ⟨t1, t2, t3⟩ := ht
  have ek : k.toNat = q := by omega
  rw [ek] at t1
  have hLn : Lf v < (n : Int) := by rcases hl v hv with ⟨a, -⟩ | ⟨a, -⟩ | ⟨a, b, -⟩ <;> omega
  have e1 : (Lf v).toNat = (Lf v - 1).toNat + 1 := by omega
  have hold : ∀ k, k < q → btQ Tl Hd p S Wo Lf v k → M0 (Tl k).toNat = nT m d F T Wt 0 0 s (Lf v - 1).toNat (Tl k).toNat ∧ tcP m d F T Wt 0 0 s (Lf v - 1).toNat (((Tl k).toNat : Nat) : Int) (fun i => R0 ((Tl k).toNat * n + i)) ∧ (Tl k).toNat < n ∧ 0 ≤ Tl k := by
    intro k hk hb
    obtain ⟨e0, g1, g2, g3⟩ := go_goP hgo k hk
    have hb2 := hF e0 g1
    have hT : 0 ≤ Tl k ∧ Tl k < (n : Int) := by rcases g3 with ⟨a, b⟩ | ⟨-, a, b⟩ <;> omega
    obtain ⟨-, c1, c2, -⟩ := hb
    obtain ⟨a, b⟩ := ((h (Tl k).toNat (by omega)).2 c1).1 (Or.inl (by omega))
    rw [c2] at a b
    exact ⟨a, b, by omega, hT.1⟩
  have hM0 : M0 v = 0 := ((h v hv).2 hS).2 (by omega)
  have hsum : Mn v = nT m d F T Wt 0 0 s (Lf v).toNat v := by
    rw [t1, hM0, i64_z, e1]
    show _ = suA (ctA d F T Wt 0 0 (bT m d F T Wt 0 0 s (Lf v - 1).toNat) (nT m d F T Wt 0 0 s (Lf v - 1).toNat) (v : Int) (bT m d F T Wt 0 0 s ((Lf v - 1).toNat + 1) v)) m
    refine ts_su (L := laB m d F T Wt 0 0 s (Lf v) (v : Int)) (N := nT m d F T Wt 0 0 s (Lf v - 1).toNat) hgo (fun k hk hne hb => hne hb.1) (fun k hk hh => bt_la hgo hp hW hn hF hl hv hS hL hk hh) (fun k hk hb => (hold k hk hb).1) (fun e he => he.1.1) (fun e => ?_)
    by_cases hla : laB m d F T Wt 0 0 s (Lf v) (v : Int) e
    · rw [if_pos hla]
      exact ctA_y hla.1 (by rw [← e1]; exact hla.2)
    · rw [if_neg hla]
      exact ctA_n (fun h9 => hla ⟨h9.1, by rw [← e1] at h9; exact h9.2⟩)
  obtain ⟨b1, b2⟩ := lf_bT hW hn (hl v hv) hS
  have hrow : tcP m d F T Wt 0 0 s (Lf v).toNat (v : Int) (fun i => R (v * n + i)) ∧ ∀ w i : Nat, w ≠ v → i < n → R (w * n + i) = R0 (w * n + i) := by
    rcases t3 with ⟨-, a, -⟩ | ⟨-, i0, c1, c2, c3, c4, c5, c6⟩
    · obtain ⟨e, q1, q2⟩ := laB_ex (m := m) (d := d) (F := F) (T := T) (W := Wt) (kind := 0) (bd := 0) (s := s) (q := Lf v) (v := (v : Int)) hL (by omega) b2
      have hg := itV_go q2.1.1
      obtain ⟨k', g1, g2, g3, g4⟩ := arc_go hgo q1 hg
      have e3 : (By k').toNat = e := by omega
      exact absurd ((bt_la hgo hp hW hn hF hl hv hS hL g1 g4).mpr (by rw [e3]; exact q2)) (a k' (by omega))
    · refine ⟨?_, c6⟩
      obtain ⟨o1, o2, o3, o4⟩ := hold i0 (by omega) c2
      obtain ⟨e0, g1, g2, g3⟩ := go_goP hgo i0 (by omega)
      have e3 : (By i0).toNat = e0 := by omega
      have hla := (bt_la hgo hp hW hn hF hl hv hS hL (by omega) c2.1).mp c2
      rw [e3] at hla
      have hi : itV d F T e0 (v : Int) = Tl i0 := go_itV (by rw [← c2.1]; exact g3)
      have e4 : (((Lf v - 1).toNat + 1 : Nat) : Int) = Lf v := by omega
      rw [e1]
      show 0 ≤ R (v * n + (Lf v - 1).toNat) ∧ (R (v * n + (Lf v - 1).toNat)).toNat < m ∧ laB m d F T Wt 0 0 s (((Lf v - 1).toNat + 1 : Nat) : Int) (v : Int) (R (v * n + (Lf v - 1).toNat)).toNat ∧ (∀ e, e < (R (v * n + (Lf v - 1).toNat)).toNat → ¬ laB m d F T Wt 0 0 s (((Lf v - 1).toNat + 1 : Nat) : Int) (v : Int) e) ∧ tcP m d F T Wt 0 0 s (Lf v - 1).toNat (itV d F T (R (v * n + (Lf v - 1).toNat)).toNat (v : Int)) (fun i => R (v * n + i))
      rw [c5, e3, e4, hi]
      refine ⟨by omega, g1, hla, fun e he hle => ?_, ?_⟩
      · have hg := itV_go hle.1.1
        obtain ⟨k', r1, r2, r3, r4⟩ := arc_go hgo (show e < m by omega) hg
        have e5 : (By k').toNat = e := by omega
        exact c3 k' (by_mo hgo (by omega) r1 (by omega)) ((bt_la hgo hp hW hn hF hl hv hS hL r1 r4).mpr (by rw [e5]; exact hle))
      · rw [Int.toNat_of_nonneg o4] at o2
        exact tc_eq o2 (fun i hi => (c4 i (by omega)).symm)
  intro w hw
  by_cases e : w = v
  · subst e
    exact ⟨fun h9 => absurd hS h9, fun _ => ⟨fun _ => ⟨hsum, hrow.1⟩, fun h9 => absurd (Or.inr ⟨rfl, by omega⟩) h9⟩⟩
  · obtain ⟨h1, h2⟩ := h w hw
    have em := t2 w e
    rw [em]
    refine ⟨h1, fun hS' => ?_⟩
    obtain ⟨a, b⟩ := h2 hS'
    refine ⟨fun h9 => ?_, fun h9 => b (by omega)⟩
    obtain ⟨a1, a2⟩ := a (by omega)
    have hLw : Lf w < (n : Int) := by rcases hl w hw with ⟨a, -⟩ | ⟨a, -⟩ | ⟨a, b, -⟩ <;> omega
    exact ⟨a1, tc_eq a2 (fun i hi => (hrow.2 w i e (by omega)).symm)⟩
end TR
theorem kb_ex (f : Nat → Int) : ∀ q : Nat, ∃ k : Int, kbP f (q : Int) k := by
  intro q
  induction q with
  | zero => exact ⟨-1, kb_0⟩
  | succ q ih =>
    obtain ⟨k, hk⟩ := ih
    have e : ((q + 1 : Nat) : Int) = (q : Int) + 1 := by omega
    have e2 : ((q : Int)).toNat = q := rfl
    rw [e]
    by_cases h1 : f q < 1000000000000
    · by_cases h2 : k < 0 ∨ f q < f k.toNat
      · exact ⟨q, kb_new hk (by omega) h1 h2⟩
      · exact ⟨k, kb_keep hk (by omega) (Or.inr ⟨by omega, by show f k.toNat ≤ f q; omega⟩)⟩
    · exact ⟨k, kb_keep hk (by omega) (Or.inl h1)⟩
section FI
variable {m n s : Nat} {d : Int} {F T W Wt S Lf R : Nat → Int} {Wo Mn : Nat → Int64}
theorem wk_re {pr pr' : Nat → Int} {ok ok' : Nat → Prop} {j v : Nat} {x : Int} (ho : ∀ e, ok e → ok' e) (h : WkF m d F T pr ok s j v x) : ∃ x', WkF m d F T pr' ok' s j v x' := by
  obtain ⟨nd, ar, h1, h2, h3, -⟩ := h
  exact ⟨_, nd, ar, h1, h2, fun i hi => ⟨(h3 i hi).1, ho _ (h3 i hi).2.1, (h3 i hi).2.2⟩, rfl⟩
theorem wk_cst {ok : Nat → Prop} {c : Int} : ∀ {j v : Nat} {x : Int}, WkF m d F T (fun _ => c) ok s j v x → x = c * (j : Int) := by
  intro j
  induction j with
  | zero =>
    intro v x h
    rw [(wk_z h).2]
    simp
  | succ j ih =>
    intro v x h
    obtain ⟨e, u, he, ho, hg, hw⟩ := wk_dn h
    have h1 := ih hw
    have e1 : ((j + 1 : Nat) : Int) = (j : Int) + 1 := by omega
    rw [e1, Int.mul_add, Int.mul_one, ← h1]
    omega
/-- what can be reached is reached by fewer than n arcs -/
theorem rc_sh {ok : Nat → Prop} {v : Nat} (hok : ∀ e, e < m → ok e) (hs : s < n) (hF : ∀ k, k < m → (0 ≤ F k ∧ F k < (n : Int)) ∧ (0 ≤ T k ∧ T k < (n : Int))) (h : RC (stP m d F T) (fun y => y = s) v) : ∃ (j : Nat) (x : Int), j < n ∧ WkF m d F T Wt (fun _ => True) s j v x := by
  obtain ⟨j, x, hw⟩ := rc_wk (pr := fun _ => 0) (ok := fun _ => True) (fun _ _ => trivial) h
  obtain ⟨j', x', q1, q2, -, -⟩ := wk_sh (Wt := fun _ => 0) hs hF j hw (fun h9 => by
    obtain ⟨c, l, y, h1, h2, h3, h4, -⟩ := h9
    have := wk_cst h3
    omega)
  obtain ⟨x2, hx2⟩ := wk_re (pr' := Wt) (ok' := fun _ => True) (fun _ _ => trivial) q2
  exact ⟨j', x2, q1, hx2⟩
theorem fi_l0 (hW : ∀ e, e < m → -1000 ≤ Wt e ∧ Wt e ≤ 1000) (hn : n ≤ 16) (hs : s < n) (hF : ∀ k, k < m → (0 ≤ F k ∧ F k < (n : Int)) ∧ (0 ≤ T k ∧ T k < (n : Int))) (hl : ∀ v, v < n → lwF m d F T Wt s n S Wo Lf v) {L v0 : Int} (ht : trL m d F T Wt s n S Lf Mn R L v0) (hL : (n : Int) ≤ L) {v : Nat} (hv : v < n) : fiP m d F T Wt 0 0 s (n : Int) (v : Int) (S v) (Wo v) (Lf v) (Mn v) (fun i => R (v * n + i)) := by
  have hb : ∀ i : Nat, i < n → bT m d F T Wt 0 0 s i v < 1000000000000 → ∃ x, WkF m d F T Wt (fun _ => True) s i v x := fun i _ h => ⟨_, bT_w0 h⟩
  obtain ⟨t1, t2⟩ := ht v hv
  have hl0 := hl v hv
  rcases hl v hv with ⟨a1, a2, a3, a4⟩ | ⟨a1, a2, a3, a4⟩ | ⟨a1, a2, a3, a4, a5⟩
  · refine ⟨-1, Or.inl ⟨rfl, fun i hi h9 => ?_⟩, Or.inl ⟨by omega, a1, a2, a3, t1 (by omega)⟩⟩
    obtain ⟨x, hx⟩ := hb i (by omega) h9
    exact a4 (wk_rc hx)
  · obtain ⟨k, hk⟩ := kb_ex (fun i => bT m d F T Wt 0 0 s i v) n
    have hr : RC (stP m d F T) (fun x => x = s) v := by
      obtain ⟨c, l, y, h1, h2, h3, h4, h5, h6⟩ := a4
      exact RC_tr h5 h6
    obtain ⟨j, x, j1, j2⟩ := rc_sh (ok := fun _ => True) (Wt := Wt) (fun _ _ => trivial) hs hF hr
    have hb1 := w0_bT hW (by omega) j2
    have hb2 := wk_bd hW j2
    refine ⟨k, hk, Or.inr (Or.inl ⟨?_, ⟨rfl, (ed_W hW hn hs hF).mpr a4⟩, a1, a2, a3, t1 (by omega)⟩)⟩
    rcases hk with ⟨-, g⟩ | ⟨g, -⟩
    · exact absurd (show bT m d F T Wt 0 0 s j v < 1000000000000 by omega) (g j (by omega))
    · exact g
  · obtain ⟨b1, b2⟩ := lf_bT hW hn hl0 a1
    obtain ⟨c1, c2⟩ := (t2 a1).1 (Or.inl (by omega))
    refine ⟨Lf v, Or.inr ⟨a2.1, a2.2, b2, fun i hi => ?_⟩, Or.inr (Or.inr ⟨a2.1, fun h9 => a3 ((ed_W hW hn hs hF).mp h9.2), a1, ?_, rfl, c1, c2⟩)⟩
    · show bT m d F T Wt 0 0 s (Lf v).toNat v ≤ bT m d F T Wt 0 0 s i v ∧ (bT m d F T Wt 0 0 s i v = bT m d F T Wt 0 0 s (Lf v).toNat v → Lf v ≤ (i : Int))
      by_cases h1 : bT m d F T Wt 0 0 s i v < 1000000000000
      · have h2 := a5 i _ (bT_w0 h1)
        unfold leX at h2
        exact ⟨by omega, fun h9 => by omega⟩
      · exact ⟨by omega, fun h9 => by omega⟩
    · rw [if_pos rfl]
      exact b1.symm
end FI
theorem lf_bw {m n s v : Nat} {d : Int} {F T Wt S Lf : Nat → Int} {Wo : Nat → Int64} (hW : ∀ e, e < m → -1000 ≤ Wt e ∧ Wt e ≤ 1000) (hn : n ≤ 16) (h : lwF m d F T Wt s n S Wo Lf v) (hS : S v = 1) : -16000 ≤ (Wo v).toInt ∧ (Wo v).toInt ≤ 16000 := by
  rcases h with ⟨a, -⟩ | ⟨a, -⟩ | ⟨a, b, c, e, f⟩
  · omega
  · omega
  · have h2 := wk_bd hW e
    omega
theorem lf_rl {m n s : Nat} {d : Int} {F T Wt S Lf : Nat → Int} {Wo : Nat → Int64} (h : ∀ v, v < n → lwF m d F T Wt s n S Wo Lf v) (hn : 1 ≤ n) : Rfx n (-1) ((n : Int) - 1) Lf := by
  intro i hi
  rcases h i hi with ⟨a, b, c, -⟩ | ⟨a, b, c, -⟩ | ⟨a, b, -⟩ <;> omega
theorem Rfx_cI {L : Nat} {lo up : Int} {f : Nat → Int} {a b x : Nat} (h : Rfx L lo up f) (hx : a + x ≤ L) : Rfx L lo up (cpI f f a b x) := by
  intro i hi
  show lo ≤ (if b ≤ i ∧ i < b + x then f (a + (i - b)) else f i) ∧ (if b ≤ i ∧ i < b + x then f (a + (i - b)) else f i) ≤ up
  split
  · exact h _ (by omega)
  · exact h i hi
theorem tl_endI {m q n s : Nat} {d : Int} {F T Wt Tl Hd By p S Lf R0 R : Nat → Int} {Wo M0 Mn : Nat → Int64} {pos : Nat → Nat} {v fd k L : Int} (hgo : GoS m q d F T Tl Hd By pos) (hp : ∀ k, p k = Wt (By k).toNat) (hW : ∀ e, e < m → -1000 ≤ Wt e ∧ Wt e ≤ 1000) (hn : n ≤ 16) (hF : ∀ k, k < m → (0 ≤ F k ∧ F k < (n : Int)) ∧ (0 ≤ T k ∧ T k < (n : Int))) (hl : ∀ v, v < n → lwF m d F T Wt s n S Wo Lf v) (hv : 0 ≤ v ∧ v < (n : Int)) (hS : S v.toNat = 1) (hL : Lf v.toNat = L ∧ 1 ≤ L) (h : trL m d F T Wt s n S Lf M0 R0 L v) (ht : tlP n Tl Hd By p S Wo Lf v.toNat M0 Mn R0 R fd k) (hk : k = (q : Int)) : trL m d F T Wt s n S Lf Mn R L (v + 1) := by
  obtain ⟨a, rfl⟩ := Int.eq_ofNat_of_zero_le hv.1
  have e : ((a : Int)).toNat = a := rfl
  rw [e] at hS hL ht
  obtain ⟨rfl, hL⟩ := hL
  exact tl_end hgo hp hW hn hF hl (by omega) hS hL h ht hk

