/-- a handle's answer for calls that make something of one thing, of two -/
noncomputable def hdQ (p : Prop) (a b : Int) : Int := @ite _ p (Classical.propDecidable p) a b
theorem hdQ_y {p : Prop} {a b : Int} (h : p) : hdQ p a b = a := by unfold hdQ; rw [if_pos h]
theorem hdQ_n {p : Prop} {a b : Int} (h : ¬ p) : hdQ p a b = b := by unfold hdQ; rw [if_neg h]
noncomputable def an1 (cn : Int) (so : Nat → Int) (x s : Int) (bad : Prop) (full : Prop) : Int := hdQ (¬ (0 ≤ x ∧ x < cn)) (-1) (hdQ (so x.toNat ≠ s) (-2) (hdQ bad (-3) (hdQ full (-4) cn)))
noncomputable def an2 (cn : Int) (so : Nat → Int) (x s y t : Int) (bad : Prop) (full : Prop) : Int := hdQ (¬ (0 ≤ x ∧ x < cn ∧ 0 ≤ y ∧ y < cn)) (-1) (hdQ (¬ (so x.toNat = s ∧ so y.toNat = t)) (-2) (hdQ bad (-3) (hdQ full (-4) cn)))
/-- a new graph -/
def GNw (cn cn' : Int) (so sz dr mn fr tt wt co so' sz' dr' mn' fr' tt' wt' co' : Nat → Int) (N D : Int) (l : List A4) : Prop := cn' = cn + 1 ∧ so' = fup so cn.toNat 1 ∧ sz' = fup sz cn.toNat N ∧ dr' = fup dr cn.toNat D ∧ mn' = fup mn cn.toNat (l.length : Int) ∧ (∀ (k : Nat) (e : A4), l[k]? = some e → sh fr' (60 * cn) k = e.1 ∧ sh tt' (60 * cn) k = e.2.1 ∧ sh wt' (60 * cn) k = e.2.2.1 ∧ sh co' (60 * cn) k = e.2.2.2) ∧ ∀ i : Nat, (i : Int) < 60 * cn → fr' i = fr i ∧ tt' i = tt i ∧ wt' i = wt i ∧ co' i = co i
def SmG (cn cn' : Int) (so sz dr mn fr tt wt co so' sz' dr' mn' fr' tt' wt' co' : Nat → Int) : Prop := cn' = cn ∧ so' = so ∧ sz' = sz ∧ dr' = dr ∧ mn' = mn ∧ fr' = fr ∧ tt' = tt ∧ wt' = wt ∧ co' = co
theorem mk_new {cn nm : Int} {so sz dr mn fr tt wt co nf nt nw nc : Nat → Int} {x1 x2 rf h v c1 : Int} {s1 z1 d1 m1 f1 t1 w1 o1 : Nat → Int} {l : List A4} (hp : PL l nm nf nt nw nc) (hc : 0 ≤ cn) (q0 : (60 < nm ∨ cn = 120) → h = -4 ∧ v = -4 ∧ c1 = cn) (q1 : (60 < nm ∨ cn = 120) → s1 = so ∧ z1 = sz ∧ d1 = dr ∧ m1 = mn ∧ f1 = fr ∧ t1 = tt ∧ w1 = wt ∧ o1 = co) (q2 : nm ≤ 60 ∧ cn < 120 → h = cn ∧ v = rf ∧ c1 = cn + 1) (q3 : nm ≤ 60 ∧ cn < 120 → s1 = fup so (Int.toNat cn) 1 ∧ z1 = fup sz (Int.toNat cn) x1 ∧ d1 = fup dr (Int.toNat cn) x2 ∧ m1 = fup mn (Int.toNat cn) nm ∧ f1 = kcF nf fr (Int.toNat (60 * cn)) (Int.toNat nm) ∧ t1 = kcF nt tt (Int.toNat (60 * cn)) (Int.toNat nm) ∧ w1 = kcF nw wt (Int.toNat (60 * cn)) (Int.toNat nm) ∧ o1 = kcF nc co (Int.toNat (60 * cn)) (Int.toNat nm)) (hcn : cn ≤ 120) : h = hdQ (60 < (l.length : Int) ∨ cn = 120) (-4) cn ∧ (h < 0 → SmG cn c1 so sz dr mn fr tt wt co s1 z1 d1 m1 f1 t1 w1 o1) ∧ (0 ≤ h → GNw cn c1 so sz dr mn fr tt wt co s1 z1 d1 m1 f1 t1 w1 o1 x1 x2 l) ∧ (h < 0 → v = h) ∧ (0 ≤ h → v = rf) := by
  have hl := hp.1
  by_cases hc1 : 60 < nm ∨ cn = 120
  · obtain ⟨e1, e2, e3⟩ := q0 hc1
    obtain ⟨a1, a2, a3, a4, a5, a6, a7, a8⟩ := q1 hc1
    refine ⟨by rw [hdQ_y (by omega)]; exact e1, fun _ => ⟨e3, a1, a2, a3, a4, a5, a6, a7, a8⟩, fun h9 => by omega, fun _ => by omega, fun h9 => by omega⟩
  · obtain ⟨e1, e2, e3⟩ := q2 (by omega)
    obtain ⟨a1, a2, a3, a4, a5, a6, a7, a8⟩ := q3 (by omega)
    refine ⟨by rw [hdQ_n (by omega)]; exact e1, fun h9 => by omega, fun _ => ⟨e3, a1, a2, a3, by rw [a4, hl], fun k e he => ?_, fun i hi => ?_⟩, fun h9 => by omega, fun _ => e2⟩
    · have hk : k < l.length := (List.getElem?_eq_some_iff.mp he).1
      obtain ⟨b1, b2, b3, b4⟩ := hp.2 k e he
      have ek : (60 * cn + (k : Int)).toNat - (60 * cn).toNat = k := by omega
      refine ⟨?_, ?_, ?_, ?_⟩
      · show f1 (60 * cn + (k : Int)).toNat = _
        rw [a5, kcF_in (by omega), ek]; exact b1
      · show t1 (60 * cn + (k : Int)).toNat = _
        rw [a6, kcF_in (by omega), ek]; exact b2
      · show w1 (60 * cn + (k : Int)).toNat = _
        rw [a7, kcF_in (by omega), ek]; exact b3
      · show o1 (60 * cn + (k : Int)).toNat = _
        rw [a8, kcF_in (by omega), ek]; exact b4
    · exact ⟨by rw [a5, kcF_out (by omega)], by rw [a6, kcF_out (by omega)], by rw [a7, kcF_out (by omega)], by rw [a8, kcF_out (by omega)]⟩
/-- what was copied is a list -/
theorem PL_cp {fr tt wt co nf nt nw nc nf1 nt1 nw1 nc1 : Nat → Int} {g s nm m1 mg : Int} {l : List A4} (h : PL l nm nf nt nw nc) (hm : 0 ≤ mg) (e0 : m1 = nm + mg) (e1 : nf1 = kcF (fun i : Nat => fr (Int.toNat (60 * g + (i : Int))) + s) nf (Int.toNat nm) (Int.toNat mg)) (e2 : nt1 = kcF (fun i : Nat => tt (Int.toNat (60 * g + (i : Int))) + s) nt (Int.toNat nm) (Int.toNat mg)) (e3 : nw1 = kcF (fun i : Nat => wt (Int.toNat (60 * g + (i : Int)))) nw (Int.toNat nm) (Int.toNat mg)) (e4 : nc1 = kcF (fun i : Nat => co (Int.toNat (60 * g + (i : Int)))) nc (Int.toNat nm) (Int.toNat mg)) : PL (l ++ acc (cpE (sh fr (60 * g)) (sh tt (60 * g)) (sh wt (60 * g)) (sh co (60 * g)) s) mg.toNat) m1 nf1 nt1 nw1 nc1 := by
  have len : ∀ k, (acc (cpE (sh fr (60 * g)) (sh tt (60 * g)) (sh wt (60 * g)) (sh co (60 * g)) s) k).length = k := by
    intro k
    induction k with
    | zero => rfl
    | succ k ih => show (acc _ k ++ [_]).length = k + 1; rw [List.length_append, ih]; rfl
  have at' : ∀ k j, j < k → (acc (cpE (sh fr (60 * g)) (sh tt (60 * g)) (sh wt (60 * g)) (sh co (60 * g)) s) k)[j]? = some (sh fr (60 * g) j + s, sh tt (60 * g) j + s, sh wt (60 * g) j, sh co (60 * g) j) := by
    intro k
    induction k with
    | zero => intro j hj; omega
    | succ k ih =>
      intro j hj
      show (acc _ k ++ [_])[j]? = _
      by_cases e : j = k
      · subst e
        rw [List.getElem?_append_right (by rw [len]; exact Nat.le_refl _), len, Nat.sub_self]; rfl
      · rw [List.getElem?_append_left (by rw [len]; omega)]; exact ih j (by omega)
  obtain ⟨h1, h2⟩ := h
  refine ⟨by rw [List.length_append, len]; omega, fun k e he => ?_⟩
  by_cases hk : k < l.length
  · rw [List.getElem?_append_left hk] at he
    rw [e1, e2, e3, e4, kcF_out (by omega), kcF_out (by omega), kcF_out (by omega), kcF_out (by omega)]
    exact h2 k e he
  · rw [List.getElem?_append_right (by omega)] at he
    have hlt : k - l.length < mg.toNat := by
      have := (List.getElem?_eq_some_iff.mp he).1
      rw [len] at this; exact this
    rw [at' _ _ hlt] at he
    obtain rfl := Option.some.inj he
    have ek : k - nm.toNat = k - l.length := by omega
    rw [e1, e2, e3, e4, kcF_in (by omega), kcF_in (by omega), kcF_in (by omega), kcF_in (by omega), ek]
    exact ⟨rfl, rfl, rfl, rfl⟩
/-- a new column -/
def CNw (cn cn' : Int) (so sz so' sz' : Nat → Int) (nu nu' : Nat → Int64) (N : Int) (f : Nat → Int64) : Prop := cn' = cn + 1 ∧ so' = fup so cn.toNat 2 ∧ sz' = fup sz cn.toNat N ∧ (∀ v : Nat, (v : Int) < N → sj nu' (16 * cn) v = f v) ∧ ∀ i : Nat, (i : Int) < 16 * cn → nu' i = nu i
def SmC (cn cn' : Int) (so sz so' sz' : Nat → Int) (nu nu' : Nat → Int64) : Prop := cn' = cn ∧ so' = so ∧ sz' = sz ∧ nu' = nu
theorem mk_col {cn : Int} {so sz : Nat → Int} {nu cl : Nat → Int64} {x1 rf h v c1 : Int} {s1 z1 : Nat → Int} {u1 : Nat → Int64} (hc : 0 ≤ cn) (hcn : cn ≤ 120) (q0 : cn = 120 → h = -4 ∧ v = -4 ∧ c1 = cn) (q1 : cn = 120 → s1 = so ∧ z1 = sz) (q2 : cn < 120 → h = cn ∧ v = rf ∧ c1 = cn + 1) (q3 : cn < 120 → s1 = fup so (Int.toNat cn) 2 ∧ z1 = fup sz (Int.toNat cn) x1) (q4 : cn = 120 → u1 = nu) (q5 : cn < 120 → u1 = kjF cl nu (Int.toNat (16 * cn)) (Int.toNat x1)) : h = hdQ (cn = 120) (-4) cn ∧ (h < 0 → SmC cn c1 so sz s1 z1 nu u1) ∧ (0 ≤ h → CNw cn c1 so sz s1 z1 nu u1 x1 cl) ∧ (h < 0 → v = h) ∧ (0 ≤ h → v = rf) := by
  by_cases hc1 : cn = 120
  · obtain ⟨e1, e2, e3⟩ := q0 hc1
    obtain ⟨a1, a2⟩ := q1 hc1
    exact ⟨by rw [hdQ_y hc1]; exact e1, fun _ => ⟨e3, a1, a2, q4 hc1⟩, fun h9 => by omega, fun _ => by omega, fun h9 => by omega⟩
  · obtain ⟨e1, e2, e3⟩ := q2 (by omega)
    obtain ⟨a1, a2⟩ := q3 (by omega)
    have a3 := q5 (by omega)
    refine ⟨by rw [hdQ_n hc1]; exact e1, fun h9 => by omega, fun _ => ⟨e3, a1, a2, fun u hu => ?_, fun i hi => by rw [a3, kjF_out (by omega)]⟩, fun h9 => by omega, fun _ => e2⟩
    show u1 (16 * cn + (u : Int)).toNat = _
    rw [a3, kjF_in (by omega)]
    congr 1; omega
theorem CNw_eq {cn cn' : Int} {so sz so' sz' : Nat → Int} {nu nu' : Nat → Int64} {N : Int} {f g : Nat → Int64} (h : CNw cn cn' so sz so' sz' nu nu' N f) (hf : ∀ v : Nat, (v : Int) < N → f v = g v) : CNw cn cn' so sz so' sz' nu nu' N g := by
  obtain ⟨h1, h2, h3, h4, h5⟩ := h
  exact ⟨h1, h2, h3, fun v hv => by rw [h4 v hv]; exact hf v hv, h5⟩
/-- what a column of a graph holds -/
noncomputable def hdC (m : Nat) (d : Int) (F T : Nat → Int) (n : Int) (f : Nat → Int64) (v : Nat) : Prop := True
def ckP (n m : Int) (d : Int) (F T W : Nat → Int) (kind x : Int) (f : Nat → Int64) : Prop := (kind < 3 → ∀ v : Nat, (v : Int) < n → f v = dgF kind d F T W (fun _ => 0) m.toNat v) ∧ (kind = 3 → ∀ v : Nat, (v : Int) < n → coP m.toNat F T n.toNat v (f v).toInt) ∧ (kind = 4 → ∀ v : Nat, (v : Int) < n → 0 ≤ (f v).toInt ∧ frP (stP m.toNat d F T) v (f v).toInt.toNat) ∧ (kind = 5 → ∀ v : Nat, (v : Int) < n → f v = wkC m.toNat d F T x.toNat v) ∧ (kind = 6 → ∀ v : Nat, (v : Int) < n → (f v).toInt = (cnP (bkP (joX m.toNat F T (fun _ => True)) n.toNat v) (2 ^ n.toNat) : Int))
/-- in the midst of asking whether a view keeps an arc -/
def vkP (d : Int) (F T W : Nat → Int) (kind : Int) (k : Nat) (keeps : Int) (j : Nat) : Prop := (kind ≠ 2 → kind ≠ 3 → keeps = 1) ∧ (kind = 2 → (keeps ≠ 0 ↔ F k ≠ T k)) ∧ (kind = 3 → (keeps ≠ 0 ↔ F k ≠ T k ∧ ∀ i, i < j → ¬ ((W i < W k ∨ (W i = W k ∧ i < k)) ∧ seP d F T k i)))
theorem vk_0 {d : Int} {F T W : Nat → Int} {kind keeps : Int} {k : Nat} (h : (kind ≠ 2 → kind ≠ 3 → keeps = 1) ∧ (kind = 2 ∨ kind = 3 → (keeps ≠ 0 ↔ F k ≠ T k))) : vkP d F T W kind k keeps 0 :=
  ⟨h.1, fun e => h.2 (Or.inl e), fun e => (h.2 (Or.inr e)).trans ⟨fun q => ⟨q, fun i hi => absurd hi (Nat.not_lt_zero i)⟩, fun q => q.1⟩⟩
theorem vk_st {d : Int} {F T W : Nat → Int} {kind keeps k1 : Int} {k : Nat} {j : Int} (h : vkP d F T W kind k keeps j.toNat) (h0 : 0 ≤ j) (hk : kind = 3) (hp : keeps ≠ 0) (hj : k1 ≠ 0 ↔ ¬ ((W j.toNat < W k ∨ (W j.toNat = W k ∧ j.toNat < k)) ∧ seP d F T k j.toNat)) : vkP d F T W kind k k1 (j + 1).toNat := by
  refine ⟨fun _ h9 => absurd hk h9, fun h9 => by omega, fun _ => ?_⟩
  have q := (h.2.2 hk).mp hp
  rw [hj, tn1 h0]
  constructor
  · intro h9
    refine ⟨q.1, fun i hi => ?_⟩
    by_cases e : i = j.toNat
    · subst e; exact h9
    · exact q.2 i (by omega)
  · intro h9; exact h9.2 j.toNat (by omega)
theorem vk_end {m : Nat} {d : Int} {F T W : Nat → Int} {kind keeps : Int} {k : Nat} {j : Nat} (h : vkP d F T W kind k keeps j) (hj : m ≤ j ∨ kind ≠ 3 ∨ keeps = 0) (hm : j ≤ m) (h4 : kind ≠ 4) (h5 : kind ≠ 5) (x : Int) : keeps ≠ 0 ↔ kpP m d F T W kind x k := by
  unfold kpP
  by_cases h3 : kind = 3
  · rw [h.2.2 h3]
    constructor
    · intro q
      refine ⟨fun _ => q.1, fun _ => ?_, fun e => absurd e h4, fun e => absurd e h5⟩
      rcases hj with g | g | g
      · intro i hi; exact q.2 i (by omega)
      · exact absurd h3 g
      · exact absurd ((h.2.2 h3).mpr q) (by omega)
    · intro q
      exact ⟨q.1 (Or.inr h3), fun i hi => q.2.1 h3 i (by omega)⟩
  · by_cases h2 : kind = 2
    · rw [h.2.1 h2]
      exact ⟨fun q => ⟨fun _ => q, fun e => absurd e h3, fun e => absurd e h4, fun e => absurd e h5⟩, fun q => q.1 (Or.inl h2)⟩
    · have := h.1 h2 h3
      exact ⟨fun _ => ⟨fun e => e.elim (fun e => absurd e h2) (fun e => absurd e h3), fun e => absurd e h3, fun e => absurd e h4, fun e => absurd e h5⟩, fun _ => by omega⟩
theorem kp_4 {m : Nat} {d : Int} {F T W : Nat → Int} {x keeps : Int} {k : Nat} (h : keeps ≠ 0 ↔ Me x (F k).toNat ∧ Me x (T k).toNat) : keeps ≠ 0 ↔ kpP m d F T W 4 x k := by
  unfold kpP; rw [h]
  exact ⟨fun q => ⟨fun e => by omega, fun e => by omega, fun _ => q, fun e => by omega⟩, fun q => q.2.2.1 rfl⟩
theorem kp_5 {m : Nat} {d : Int} {F T W : Nat → Int} {x keeps : Int} {k : Nat} (h : keeps ≠ 0 ↔ x ≤ W k) : keeps ≠ 0 ↔ kpP m d F T W 5 x k := by
  unfold kpP; rw [h]
  exact ⟨fun q => ⟨fun e => by omega, fun e => by omega, fun e => by omega, fun _ => q⟩, fun q => q.2.2.2 rfl⟩
/-- the least sum so far -/
def sqB (d : Int) (F T W : Nat → Int) (a b best : Int) (P : Nat → Nat → Prop) : Prop := (best = 99999 ∨ ∃ e f c, P e f ∧ goP d F T e a c ∧ goP d F T f c b ∧ best = W e + W f) ∧ ∀ e f c, P e f → goP d F T e a c → goP d F T f c b → best ≤ W e + W f
theorem go_u {d : Int} {F T : Nat → Int} {k : Nat} {a b c : Int} (h : goP d F T k a b) (h' : goP d F T k a c) : b = c := by
  rcases h with ⟨e1, e2⟩ | ⟨e0, e1, e2⟩ <;> rcases h' with ⟨f1, f2⟩ | ⟨f0, f1, f2⟩ <;> omega
theorem inV_go {fr tt dr : Nat → Int} {g k v u : Int} (hu : u = inV tt fr dr g k v) (hk : 0 ≤ k) (h0 : 0 ≤ u) : goP (dr g.toNat) (sh fr (60 * g)) (sh tt (60 * g)) k.toNat v u := by
  have e := inV_sh hu hk
  revert e
  split
  · intro e; exact Or.inl ⟨by assumption, e.symm⟩
  · split
    · intro e
      rename_i h1 h2
      exact Or.inr ⟨h2.1, h2.2, e.symm⟩
    · intro e; omega
theorem inV_no {fr tt dr : Nat → Int} {g k v u : Int} (hu : u = inV tt fr dr g k v) (hk : 0 ≤ k) (h0 : u < 0) (hF : 0 ≤ sh fr (60 * g) k.toNat) (hT : 0 ≤ sh tt (60 * g) k.toNat) (c : Int) : ¬ goP (dr g.toNat) (sh fr (60 * g)) (sh tt (60 * g)) k.toNat v c := by
  have e := inV_sh hu hk
  intro h9
  revert e
  split
  · intro e; omega
  · split
    · intro e; omega
    · intro e
      rename_i h1 h2
      rcases h9 with ⟨e1, e2⟩ | ⟨e0, e1, e2⟩
      · exact h1 e1
      · exact h2 ⟨e0, e1⟩
theorem sb_keep {d : Int} {F T W : Nat → Int} {a b best : Int} {P Q : Nat → Nat → Prop} (h : sqB d F T W a b best P) (hPQ : ∀ e f, P e f → Q e f) (hn : ∀ e f c, Q e f → ¬ P e f → goP d F T e a c → goP d F T f c b → best ≤ W e + W f) : sqB d F T W a b best Q := by
  refine ⟨h.1.elim Or.inl (fun ⟨e, f, c, q1, q2⟩ => Or.inr ⟨e, f, c, hPQ e f q1, q2⟩), fun e f c q1 q2 q3 => ?_⟩
  by_cases hp : P e f
  · exact h.2 e f c hp q2 q3
  · exact hn e f c q1 hp q2 q3
theorem sb_new {d : Int} {F T W : Nat → Int} {a b best w : Int} {P Q : Nat → Nat → Prop} {e0 f0 : Nat} {c0 : Int} (h : sqB d F T W a b best P) (hQ : Q e0 f0) (g1 : goP d F T e0 a c0) (g2 : goP d F T f0 c0 b) (hw : w = W e0 + W f0) (hlt : w < best) (hn : ∀ e f, Q e f → P e f ∨ (e = e0 ∧ f = f0)) : sqB d F T W a b w Q := by
  refine ⟨Or.inr ⟨e0, f0, c0, hQ, g1, g2, hw⟩, fun e f c q1 q2 q3 => ?_⟩
  rcases hn e f q1 with hp | ⟨rfl, rfl⟩
  · have := h.2 e f c hp q2 q3
    omega
  · omega
theorem sq_y {m : Nat} {d : Int} {F T W : Nat → Int} {a b best : Int} {P : Nat → Nat → Prop} (h : sqB d F T W a b best P) (hP : ∀ e f, P e f ↔ e < m ∧ f < m) (hb : best < 99999) : sqP m d F T W a b best := by
  refine ⟨?_, fun e f c q1 q2 q3 q4 => h.2 e f c ((hP e f).mpr ⟨q1, q2⟩) q3 q4⟩
  rcases h.1 with e | ⟨e, f, c, q1, q2, q3, q4⟩
  · omega
  · exact ⟨e, f, c, ((hP e f).mp q1).1, ((hP e f).mp q1).2, q2, q3, q4⟩
theorem sq_n {m : Nat} {d : Int} {F T W : Nat → Int} {a b best : Int} {P : Nat → Nat → Prop} (h : sqB d F T W a b best P) (hP : ∀ e f, P e f ↔ e < m ∧ f < m) (hW : ∀ k, k < m → W k ≤ 1000) (hb : ¬ best < 99999) : ∀ w, ¬ sqP m d F T W a b w := by
  rintro w ⟨⟨e, f, c, q1, q2, q3, q4, q5⟩, -⟩
  have := h.2 e f c ((hP e f).mpr ⟨q1, q2⟩) q3 q4
  have := hW e q1
  have := hW f q2
  omega
theorem GNw_c {cn cn' : Int} {so sz dr mn fr tt wt co so' sz' dr' mn' fr' tt' wt' co' : Nat → Int} {N D N1 D1 : Int} {l : List A4} (h : GNw cn cn' so sz dr mn fr tt wt co so' sz' dr' mn' fr' tt' wt' co' N D l) (hN : N = N1) (hD : D = D1) : GNw cn cn' so sz dr mn fr tt wt co so' sz' dr' mn' fr' tt' wt' co' N1 D1 l := by subst hN; subst hD; exact h
theorem dgF_eq {kind d : Int} {F T W : Nat → Int} {c c' : Nat → Int64} {n : Int} (h : eqB c c' n) : ∀ {m : Nat}, (∀ k, k < m → (0 ≤ F k ∧ F k < n) ∧ (0 ≤ T k ∧ T k < n)) → eqB (dgF kind d F T W c m) (dgF kind d F T W c' m) n := by
  intro m
  induction m with
  | zero => intro _; exact h
  | succ m ih =>
    intro hF u hu
    have h1 := hF m (by omega)
    have e := ih (fun k hk => hF k (by omega))
    have ef := e (F m).toNat (by omega)
    have et := e (T m).toNat (by omega)
    show dgS kind d (F m) (T m) (W m) (dgF kind d F T W c m) u = dgS kind d (F m) (T m) (W m) (dgF kind d F T W c' m) u
    have up : ∀ (g g' : Nat → Int64) (i : Nat) (x x' : Int64), eqB g g' n → x = x' → eqB (fuj g i x) (fuj g' i x') n := fun g g' i x x' hg hx w hw => by
      by_cases q : w = i
      · subst q; rw [fuj_s, fuj_s]; exact hx
      · rw [fuj_o _ _ q, fuj_o _ _ q]; exact hg w hw
    unfold dgS
    (repeat' split)
    · refine up _ _ _ _ _ (up _ _ _ _ _ e (by rw [ef])) ?_ u hu
      rw [up _ _ _ _ _ e (by rw [ef]) (T m).toNat (by omega)]
    · exact up _ _ _ _ _ e (by rw [ef]) u hu
    · exact up _ _ _ _ _ e (by rw [ef]) u hu
    · exact up _ _ _ _ _ e (by rw [et]) u hu
    · refine up _ _ _ _ _ (up _ _ _ _ _ e (by rw [ef])) ?_ u hu
      rw [up _ _ _ _ _ e (by rw [ef]) (T m).toNat (by omega)]
theorem jb_eq {be : Nat → Int} {m : Nat} {F T : Nat → Int} {n : Int} (h : jbP be m F T (fun k => (k : Int) ≠ -1)) (hF : ∀ k, k < m → (0 ≤ F k ∧ F k < n) ∧ (0 ≤ T k ∧ T k < n)) (hn : n ≤ 16) : JB be = joX m F T (fun _ => True) := by
  funext i j
  apply propext
  rw [jb_rc h hF hn i j]
  constructor
  · exact joX_mono (fun _ _ => trivial) i j
  · exact joX_mono (fun k _ => by show (k : Int) ≠ -1; omega) i j
/-- how nodes of a graph fall into parts -/
def ptE (m : Nat) (d : Int) (F T : Nat → Int) (nu : Nat → Int64) (kind : Int) (u v : Nat) : Prop := (kind = 0 → RC (stP m d F T) (fun x => x = v) u ∧ RC (stP m d F T) (fun x => x = u) v) ∧ (kind = 1 → RC (joX m F T (fun _ => True)) (fun x => x = v) u) ∧ (kind = 2 → RC (joX m F T (fun k => ¬ brX m F T (fun _ => True) k)) (fun x => x = v) u) ∧ (kind = 3 → (∀ j : Nat, (∃ k, k < m ∧ F k ≠ T k ∧ goP d F T k (u : Int) (j : Int)) ↔ ∃ k, k < m ∧ F k ≠ T k ∧ goP d F T k (v : Int) (j : Int)) ∧ ∀ j : Nat, (∃ k, k < m ∧ F k ≠ T k ∧ goP d F T k (j : Int) (u : Int)) ↔ ∃ k, k < m ∧ F k ≠ T k ∧ goP d F T k (j : Int) (v : Int)) ∧ (kind = 4 → nu u = nu v)
theorem nu_E {E E' : Nat → Nat → Prop} {f : Nat → Int} {N : Nat} (h : nuP2 E f N) (hE : ∀ u v, u < N → v < N → (E u v ↔ E' u v)) : nuP2 E' f N := by
  intro v hv
  rcases h v hv with ⟨u, q1, q2, q3, q4⟩ | ⟨q1, q2⟩
  · exact Or.inl ⟨u, q1, (hE u v (by omega) hv).mp q2, fun w hw h9 => q3 w hw ((hE w v (by omega) hv).mpr h9), q4⟩
  · refine Or.inr ⟨fun w hw h9 => q1 w hw ((hE w v (by omega) hv).mpr h9), ?_⟩
    rw [q2, cnP_eq (p := fsP E) (q := fsP E') (fun i hi => ⟨fun h9 w hw he => h9 w hw ((hE w i (by omega) (by omega)).mpr he), fun h9 w hw he => h9 w hw ((hE w i (by omega) (by omega)).mp he)⟩)]
/-- new parts -/
def PNw (cn cn' : Int) (so sz so' sz' qi qi' qc qc' : Nat → Int) (N : Int) (E : Nat → Nat → Prop) : Prop := cn' = cn + 1 ∧ so' = fup so cn.toNat 4 ∧ sz' = fup sz cn.toNat N ∧ nuP2 E (sh qi' (16 * cn)) N.toNat ∧ qc' cn.toNat = (cnP (fsP E) N.toNat : Int) ∧ (∀ i : Nat, (i : Int) < 16 * cn → qi' i = qi i) ∧ ∀ g : Nat, (g : Int) < cn → qc' g = qc g
def SmP (cn cn' : Int) (so sz so' sz' qi qi' qc qc' : Nat → Int) : Prop := cn' = cn ∧ so' = so ∧ sz' = sz ∧ qi' = qi ∧ qc' = qc
theorem mk_prt {cn : Int} {so sz qi qc lb : Nat → Int} {x1 rf h v c1 : Int} {s1 z1 i1 p1 : Nat → Int} (hc : 0 ≤ cn) (hcn : cn ≤ 120) (q0 : cn = 120 → h = -4 ∧ v = -4 ∧ c1 = cn) (q1 : cn = 120 → s1 = so ∧ z1 = sz ∧ i1 = qi ∧ p1 = qc) (q2 : cn < 120 → h = cn ∧ v = rf ∧ c1 = cn + 1) (q3 : cn < 120 → s1 = fup so (Int.toNat cn) 4 ∧ z1 = fup sz (Int.toNat cn) x1) (q6 : cn < 120 → fqP i1 qi cn ∧ pqP i1 cn x1 (p1 (Int.toNat cn)) ∧ ∀ g : Nat, g ≠ Int.toNat cn → p1 g = qc g) (q7 : cn < 120 → nuP2 (fun a b => lb a = lb b) (sh i1 (16 * cn)) (Int.toNat x1) ∧ p1 (Int.toNat cn) = (cnP (fsP (fun a b => lb a = lb b)) (Int.toNat x1) : Int)) : h = hdQ (cn = 120) (-4) cn ∧ (h < 0 → SmP cn c1 so sz s1 z1 qi i1 qc p1) ∧ (0 ≤ h → PNw cn c1 so sz s1 z1 qi i1 qc p1 x1 (fun a b => lb a = lb b)) ∧ (h < 0 → v = h) ∧ (0 ≤ h → v = rf) := by
  by_cases hc1 : cn = 120
  · obtain ⟨e1, e2, e3⟩ := q0 hc1
    obtain ⟨a1, a2, a3, a4⟩ := q1 hc1
    exact ⟨by rw [hdQ_y hc1]; exact e1, fun _ => ⟨e3, a1, a2, a3, a4⟩, fun h9 => by omega, fun _ => by omega, fun h9 => by omega⟩
  · obtain ⟨e1, e2, e3⟩ := q2 (by omega)
    obtain ⟨a1, a2⟩ := q3 (by omega)
    obtain ⟨b1, b2, b3⟩ := q6 (by omega)
    obtain ⟨d1, d2⟩ := q7 (by omega)
    exact ⟨by rw [hdQ_n hc1]; exact e1, fun h9 => by omega, fun _ => ⟨e3, a1, a2, d1, d2, fun i hi => b1 i (by omega), fun g hg => b3 g (by omega)⟩, fun h9 => by omega, fun _ => e2⟩
theorem PNw_E {cn cn' : Int} {so sz so' sz' qi qi' qc qc' : Nat → Int} {N : Int} {E E' : Nat → Nat → Prop} (h : PNw cn cn' so sz so' sz' qi qi' qc qc' N E) (hE : ∀ u v, u < N.toNat → v < N.toNat → (E u v ↔ E' u v)) : PNw cn cn' so sz so' sz' qi qi' qc qc' N E' := by
  obtain ⟨h1, h2, h3, h4, h5, h6, h7⟩ := h
  exact ⟨h1, h2, h3, nu_E h4 hE, by rw [h5, nu_cnt hE], h6, h7⟩
theorem hdQ_c {p q : Prop} {a b : Int} (h : p ↔ q) : hdQ p a b = hdQ q a b := by
  by_cases hp : p
  · rw [hdQ_y hp, hdQ_y (h.mp hp)]
  · rw [hdQ_n hp, hdQ_n (fun hq => hp (h.mpr hq))]
set_option maxHeartbeats 4000000 in
set_option maxRecDepth 100000 in
theorem x_X12_graph {D : va_G} {cI cJ cZ cT : ClassId} {lo b L : Nat} {xs : Nat → Int32} {hp : MH} {n d : Nat} {Γ : TG} {y : Nat} {rf cn nm : Int} {so sz dr mn fr tt wt co : Nat → Int} {nu : Nat → Int64} {sa : Nat → Int} {wo : Nat → Int64} {ln : Nat → Int} {hw : Nat → Int64} {ro qi qc nf nt nw nc : Nat → Int} {cl nx : Nat → Int64} {ie be sd bl : Nat → Int} {bs wy ra rb : Nat → Int64} {lb bg os js ls : Nat → Int} {sp : Nat → Int64} {jw go : Nat → Int} {de : Nat → Int64} {yb ah im : Nat → Int} {Po9 : Option Value → MH → Nat → Prop} (hd0 : 3 ≤ d) (hk : RK rf cn nm so sz dr mn fr tt wt co nu qi qc nf nt nw nc) (ht : Tw (RX Γ cI cJ cZ y rf cn nm so sz dr mn fr tt wt co nu sa wo ln hw ro qi qc nf nt nw nc cl nx ie be sd bl bs wy ra rb lb bg os js ls sp jw go de yb ah im) hp)  (hPo : ∀ r hp1 n1, (n1 = n ∧ ∃ (rf' : Int) (cn' : Int) (nm' : Int) (so' : Nat → Int) (sz' : Nat → Int) (dr' : Nat → Int) (mn' : Nat → Int) (fr' : Nat → Int) (tt' : Nat → Int) (wt' : Nat → Int) (co' : Nat → Int) (nf' : Nat → Int) (nt' : Nat → Int) (nw' : Nat → Int) (nc' : Nat → Int) (v' : Int), Tw (RX Γ cI cJ cZ y rf' cn' nm' so' sz' dr' mn' fr' tt' wt' co' nu sa wo ln hw ro qi qc nf' nt' nw' nc' cl nx ie be sd bl bs wy ra rb lb bg os js ls sp jw go de yb ah im) hp1 ∧ r = some (.int (iv v')) ∧ (RK rf' cn' nm' so' sz' dr' mn' fr' tt' wt' co' nu qi qc nf' nt' nw' nc') ∧ (dfE sz dr mn fr tt wt co sz' dr' mn' fr' tt' wt' co') ∧ (-2147483648 ≤ v' ∧ v' ≤ 2147483647) ∧ (v' = hdQ (60 < (((acc (cpE (sh fr 7200) (sh tt 7200) (sh wt 7200) (sh co 7200) 0) (Int.toNat (mn 120)))).length : Int) ∨ cn = 120) (-4) cn) ∧ (v' < 0 → SmG cn cn' so sz dr mn fr tt wt co so' sz' dr' mn' fr' tt' wt' co') ∧ (0 ≤ v' → GNw cn cn' so sz dr mn fr tt wt co so' sz' dr' mn' fr' tt' wt' co' (sz 120) (dr 120) (acc (cpE (sh fr 7200) (sh tt 7200) (sh wt 7200) (sh co 7200) 0) (Int.toNat (mn 120)))) ∧ ((v' < 0 → rf' = v') ∧ (0 ≤ v' → rf' = 0))) → Po9 r hp1 n1) : Mt (gG D cI cJ cZ cT lo b L xs) mX12_graph d 0 0 [.ref y] hp n Po9 := by
  refine Mt.of rfl (Nat.le_of_ble_eq_true rfl) ?_
  refine Rn.pick (lv' := [(0, .ref y)]) [0] rfl ?_
  obtain ⟨hR_sorts, hR_sizes, hR_directs, hR_many, hR_from, hR_to, hR_weight, hR_cost, hR_inPart, hR_partCount, hcn, hrf, hnm, hdf, hgr, hpa, hsz⟩ := id hk
  have rsz := hR_sizes (Int.toNat 120) (by decide)
  have rmn := hR_many (Int.toNat 120) (by decide)
  refine r_aload_n (pc := 0) dX12_graph_0 (i := 0) rfl rfl ?_
  refine r_iconst (pc := 1) (v := iv 0) dX12_graph_1 (by decide) ?_
  refine t_putX (pc := 2) (ty := .int) ht RX_y fX12_142 tyX12 tyX12_ok nmX12 (by decide +kernel) (Or.inl rfl) dX12_graph_2 (Nat.le_of_ble_eq_true rfl) rfl rfl rfl (fun hp1 ht2 => ?_)
  have ht3 := RXw_rf ht2
  refine r_aload_n (pc := 5) dX12_graph_5 (i := 0) rfl rfl ?_
  refine r_iconst (pc := 6) (v := iv 0) dX12_graph_6 (by decide) ?_
  refine t_putX (pc := 7) (ty := .int) ht3 RX_y fX12_165 tyX12 tyX12_ok nmX12 (by decide +kernel) (Or.inl rfl) dX12_graph_7 (Nat.le_of_ble_eq_true rfl) rfl rfl rfl (fun hp4 ht5 => ?_)
  have ht6 := RXw_nm ht5
  refine r_aload_n (pc := 10) dX12_graph_10 (i := 0) rfl rfl ?_
  refine r_bipush (pc := 11) (v := iv 120) dX12_graph_11 (by decide) ?_
  refine r_iconst (pc := 13) (v := iv 0) dX12_graph_13 (by decide) ?_
  obtain ⟨fs11, hfs11⟩ := t_obj ht6 (rd_of RX_y)
  refine r_callV (pc := 14) (as := [.int (iv 120), .int (iv 0)]) (st := []) kX12_175 rfl dX12_graph_14 hfs11 (x_X12_copyArcs (d := d - 1) (x1 := 120) (x2 := 0) (by omega) (by assumption) (by assumption) (by assumption) (by assumption) (by assumption) (by omega) ht6 (by omega) (by omega) (by omega) (fun _ _ _ h => h)) rfl (by omega) (Nat.le_of_ble_eq_true rfl) (Nat.zero_le _) (Nat.zero_le _) rfl (fun r8 hp7 n9 hq10 => ?_)
  obtain ⟨hnn9, nf1_13, nt1_14, nw1_15, nc1_16, m1_17, ht12, hrr8, hhq100, hhq101, hhq102, hhq103, hhq104⟩ := hq10
  subst n9 r8
  have hhq100 : m1_17 = 0 + mn (Int.toNat 120) := hhq100
  have hhq101 : nf1_13 = kcF (fun i : Nat => fr (Int.toNat (60 * 120 + (i : Int))) + 0) nf (Int.toNat 0) (Int.toNat (mn (Int.toNat 120))) := hhq101
  have hhq102 : nt1_14 = kcF (fun i : Nat => tt (Int.toNat (60 * 120 + (i : Int))) + 0) nt (Int.toNat 0) (Int.toNat (mn (Int.toNat 120))) := hhq102
  have hhq103 : nw1_15 = kcF (fun i : Nat => wt (Int.toNat (60 * 120 + (i : Int)))) nw (Int.toNat 0) (Int.toNat (mn (Int.toNat 120))) := hhq103
  have hhq104 : nc1_16 = kcF (fun i : Nat => co (Int.toNat (60 * 120 + (i : Int)))) nc (Int.toNat 0) (Int.toNat (mn (Int.toNat 120))) := hhq104
  change Rn _ _ _ 17 _ [] _ _ _ _ _
  have hap : arP nf1_13 nt1_14 nw1_15 nc1_16 m1_17 (sz (Int.toNat 120)) := ar_cp (s := 0) (g := 120) (ar_0 _ _ _ _ _) (by omega) (by omega) hhq100 hhq101 hhq102 hhq103 hhq104 hdf.2 hR_many hR_from hR_to hR_weight hR_cost (by omega)
  have hdf1 : 1 ≤ sz (Int.toNat 120) := hdf.1
  have hpl : PL (acc (cpE (sh fr 7200) (sh tt 7200) (sh wt 7200) (sh co 7200) 0) (Int.toNat (mn 120))) m1_17 nf1_13 nt1_14 nw1_15 nc1_16 := by
    have h8 := PL_cp (s := 0) (g := 120) (mg := mn (Int.toNat 120)) (PL_0 nf nt nw nc) (by omega) hhq100 hhq101 hhq102 hhq103 hhq104
    exact h8
  refine r_aload_n (pc := 17) dX12_graph_17 (i := 0) rfl rfl ?_
  refine r_aload_n (pc := 18) dX12_graph_18 (i := 0) rfl rfl ?_
  refine t_getE (pc := 19) (.ref (y + 2)) ht12 (rd_of RX_y) fX12_13 dX12_graph_19 rfl ?_
  refine r_bipush (pc := 22) (v := iv 120) dX12_graph_22 (by decide) ?_
  refine t_ialdX (pc := 24) (t0 := 0) ht12 (rd_of RX_sizes) dX12_graph_24 rfl (by decide) (by omega) (fun b18 => ?_)
  have rb18 := (show Rfx 121 0 16 sz by assumption) (Int.toNat 120) (by omega)
  refine r_aload_n (pc := 25) dX12_graph_25 (i := 0) rfl rfl ?_
  refine t_getE (pc := 26) (.ref (y + 3)) ht12 (rd_of RX_y) fX12_16 dX12_graph_26 rfl ?_
  refine r_bipush (pc := 29) (v := iv 120) dX12_graph_29 (by decide) ?_
  refine t_zaldX (pc := 31) (t0 := 2) ht12 (rd_of RX_directs) dX12_graph_31 rfl (by decide) (by omega) (fun b19 => ?_)
  have rb19 := (show Rfx 121 0 1 dr by assumption) (Int.toNat 120) (by omega)
  obtain ⟨fs24, hfs24⟩ := t_obj ht12 (rd_of RX_y)
  refine r_callV (pc := 32) (as := [.int (iv (sz (Int.toNat 120))), .int (iv (dr (Int.toNat 120)))]) (st := []) kX12_179 rfl dX12_graph_32 hfs24 (x_X12_made (d := d - 1) (x1 := sz (Int.toNat 120)) (x2 := dr (Int.toNat 120)) (by omega) (RK_set hk (by omega) (by omega)) ht12 (by omega) (by omega) (fun _ => hap) (fun _ _ _ h => h)) rfl (by omega) (Nat.le_of_ble_eq_true rfl) (Nat.zero_le _) (Nat.zero_le _) rfl (fun r21 hp20 n22 hq23 => ?_)
  obtain ⟨hnn22, h_26, v_27, c1_28, s1_29, z1_30, d1_31, m1_32, f1_33, t1_34, w1_35, o1_36, ht25, hrr21, hhq230, hhq231, hhq232, hhq233⟩ := hq23
  subst n22 r21
  have hhq230 : (60 < m1_17 ∨ cn = 120) → h_26 = -4 ∧ v_27 = -4 ∧ c1_28 = cn := hhq230
  have hhq231 : (60 < m1_17 ∨ cn = 120) → s1_29 = so ∧ z1_30 = sz ∧ d1_31 = dr ∧ m1_32 = mn ∧ f1_33 = fr ∧ t1_34 = tt ∧ w1_35 = wt ∧ o1_36 = co := hhq231
  have hhq232 : m1_17 ≤ 60 ∧ cn < 120 → h_26 = cn ∧ v_27 = 0 ∧ c1_28 = cn + 1 := hhq232
  have hhq233 : m1_17 ≤ 60 ∧ cn < 120 → s1_29 = fup so (Int.toNat cn) 1 ∧ z1_30 = fup sz (Int.toNat cn) (sz (Int.toNat 120)) ∧ d1_31 = fup dr (Int.toNat cn) (dr (Int.toNat 120)) ∧ m1_32 = fup mn (Int.toNat cn) m1_17 ∧ f1_33 = kcF nf1_13 fr (Int.toNat (60 * cn)) (Int.toNat m1_17) ∧ t1_34 = kcF nt1_14 tt (Int.toNat (60 * cn)) (Int.toNat m1_17) ∧ w1_35 = kcF nw1_15 wt (Int.toNat (60 * cn)) (Int.toNat m1_17) ∧ o1_36 = kcF nc1_16 co (Int.toNat (60 * cn)) (Int.toNat m1_17) := hhq233
  change Rn _ _ _ 35 _ [.int (iv h_26)] _ _ _ _ _
  obtain ⟨hRKm, hDFm, hhm⟩ := RK_made (x1 := sz (Int.toNat 120)) (x2 := dr (Int.toNat 120)) (RK_set hk (by omega) (by omega)) (by omega) (by omega) (fun _ => hap) hhq230 hhq231 hhq232 hhq233
  obtain ⟨hnwA, hnwB, hnwC, hnwD, hnwE⟩ := mk_new (x1 := sz (Int.toNat 120)) (x2 := dr (Int.toNat 120)) hpl (by omega) hhq230 hhq231 hhq232 hhq233 (by omega)
  exact r_iret (pc := 35) dX12_graph_35 rfl (hPo _ _ _ ⟨rfl, v_27, c1_28, m1_17, s1_29, z1_30, d1_31, m1_32, f1_33, t1_34, w1_35, o1_36, nf1_13, nt1_14, nw1_15, nc1_16, h_26, ht25, rfl, (by (first | assumption | exact RK_set hk (by omega) (by omega))), (by (first | assumption | exact df_r _ _ _ _ _ _ _)), (by omega), (by exact hnwA), (by exact hnwB), (by exact hnwC), (by exact ⟨hnwD, hnwE⟩)⟩)
set_option maxHeartbeats 4000000 in
set_option maxRecDepth 100000 in
theorem x_X12_square {D : va_G} {cI cJ cZ cT : ClassId} {lo b L : Nat} {xs : Nat → Int32} {hp : MH} {n d : Nat} {Γ : TG} {y : Nat} {rf cn nm : Int} {so sz dr mn fr tt wt co : Nat → Int} {nu : Nat → Int64} {sa : Nat → Int} {wo : Nat → Int64} {ln : Nat → Int} {hw : Nat → Int64} {ro qi qc nf nt nw nc : Nat → Int} {cl nx : Nat → Int64} {ie be sd bl : Nat → Int} {bs wy ra rb : Nat → Int64} {lb bg os js ls : Nat → Int} {sp : Nat → Int64} {jw go : Nat → Int} {de : Nat → Int64} {yb ah im : Nat → Int} {x1 : Int} {Po9 : Option Value → MH → Nat → Prop} (hd0 : 2 ≤ d) (hR_sizes : Rfx 121 0 16 sz) (hR_directs : Rfx 121 0 1 dr) (hR_many : Rfx 121 0 60 mn) (hR_from : Rfx 7260 0 15 fr) (hR_to : Rfx 7260 0 15 tt) (hR_weight : Rfx 7260 (-1000) 1000 wt) (hnm : 0 ≤ nm ∧ nm ≤ 400) (ht : Tw (RX Γ cI cJ cZ y rf cn nm so sz dr mn fr tt wt co nu sa wo ln hw ro qi qc nf nt nw nc cl nx ie be sd bl bs wy ra rb lb bg os js ls sp jw go de yb ah im) hp) (hx1 : 0 ≤ x1 ∧ x1 ≤ 120) (hEn : enP fr tt mn sz x1) (hz9 : nm = 0) (hPo : ∀ r hp1 n1, (n1 = n ∧ ∃ (nf1 : Nat → Int) (nt1 : Nat → Int) (nw1 : Nat → Int) (nc1 : Nat → Int) (m1 : Int), Tw (RX Γ cI cJ cZ y rf cn m1 so sz dr mn fr tt wt co nu sa wo ln hw ro qi qc nf1 nt1 nw1 nc1 cl nx ie be sd bl bs wy ra rb lb bg os js ls sp jw go de yb ah im) hp1 ∧ r = none ∧ (0 ≤ m1 ∧ m1 ≤ 256) ∧ (arP nf1 nt1 nw1 nc1 m1 (sz (Int.toNat x1))) ∧ (PL (acc (sqL (Int.toNat (sz (Int.toNat x1))) (Int.toNat (mn (Int.toNat x1))) (dr (Int.toNat x1)) (sh fr (60 * x1)) (sh tt (60 * x1)) (sh wt (60 * x1))) (Int.toNat (sz (Int.toNat x1)))) m1 nf1 nt1 nw1 nc1)) → Po9 r hp1 n1) : Mt (gG D cI cJ cZ cT lo b L xs) mX12_square d 0 0 [.ref y, .int (iv x1)] hp n Po9 := by
  refine Mt.of rfl (Nat.le_of_ble_eq_true rfl) ?_
  refine Rn.pick (lv' := [(0, .ref y), (1, .int (iv x1))]) [0, 1] rfl ?_
  have rsz := hR_sizes (Int.toNat x1) (by omega)
  have rmn := hR_many (Int.toNat x1) (by omega)
  have rdr := hR_directs (Int.toNat x1) (by omega)
  have ha0 : arP nf nt nw nc nm (sz (Int.toNat x1)) := by rw [hz9]; exact ar_0 _ _ _ _ _
  have hFT := enF hEn (by assumption) (by assumption) (by omega) (by omega)
  have hpl0 : PL ([] ++ acc (sqL (Int.toNat (sz (Int.toNat x1))) (Int.toNat (mn (Int.toNat x1))) (dr (Int.toNat x1)) (sh fr (60 * x1)) (sh tt (60 * x1)) (sh wt (60 * x1))) (Int.toNat 0)) nm nf nt nw nc := by rw [hz9]; exact PL_0 _ _ _ _
  have hW9 : ∀ k, k < (Int.toNat (mn (Int.toNat x1))) → (sh wt (60 * x1)) k ≤ 1000 := fun k hk => (hR_weight (60 * x1 + (k : Int)).toNat (by omega)).2
  refine r_aload_n (pc := 0) dX12_square_0 (i := 0) rfl rfl ?_
  refine t_getE (pc := 1) (.ref (y + 2)) ht (rd_of RX_y) fX12_13 dX12_square_1 rfl ?_
  refine r_iload_n (pc := 4) dX12_square_4 (i := 1) rfl rfl ?_
  refine t_ialdX (pc := 5) (t0 := 0) ht (rd_of RX_sizes) dX12_square_5 rfl (by decide) (by omega) (fun b1 => ?_)
  have rb1 := (show Rfx 121 0 16 sz by assumption) (Int.toNat x1) (by omega)
  refine r_istore_n (pc := 6) (lv' := [(2, .int (iv (sz (Int.toNat x1)))), (0, .ref y), (1, .int (iv x1))]) dX12_square_6 (i := 2) rfl (by decide) rfl ?_
  refine r_iconst (pc := 7) (v := iv 0) dX12_square_7 (by decide) ?_
  refine r_istore_n (pc := 8) (lv' := [(3, .int (iv 0)), (2, .int (iv (sz (Int.toNat x1)))), (0, .ref y), (1, .int (iv x1))]) dX12_square_8 (i := 3) rfl (by decide) rfl ?_
  have B9 : ∀ k : Nat, ∀ nm9 : Int, ∀ nf9 : Nat → Int, ∀ nt9 : Nat → Int, ∀ nw9 : Nat → Int, ∀ nc9 : Nat → Int, ∀ hp9 : MH, Tw (RX Γ cI cJ cZ y rf cn nm9 so sz dr mn fr tt wt co nu sa wo ln hw ro qi qc nf9 nt9 nw9 nc9 cl nx ie be sd bl bs wy ra rb lb bg os js ls sp jw go de yb ah im) hp9 → ∀  (v9_3 : Int), 0 ≤ v9_3 ∧ v9_3 ≤ 16 ∧ (0 ≤ nm9) ∧ (nm9 ≤ 400) ∧ (v9_3 ≤ (sz (Int.toNat x1))) ∧ (nm9 ≤ 16 * v9_3) ∧ (arP nf9 nt9 nw9 nc9 nm9 (sz (Int.toNat x1))) ∧ (PL (acc (sqL (Int.toNat (sz (Int.toNat x1))) (Int.toNat (mn (Int.toNat x1))) (dr (Int.toNat x1)) (sh fr (60 * x1)) (sh tt (60 * x1)) (sh wt (60 * x1))) (Int.toNat v9_3)) nm9 nf9 nt9 nw9 nc9) → 16 - v9_3 ≤ (k : Int) → Rn (gG D cI cJ cZ cT lo b L xs) mX12_square d 9 [(0, .ref y), (1, .int (iv x1)), (2, .int (iv (sz (Int.toNat x1)))), (3, .int (iv v9_3))] [] hp9 n 0 0 Po9 := by
    refine lpS _ ?_
    intro k9 ih9 nm9 nf9 nt9 nw9 nc9 hp9 ht9 v9_3 hf9 hm9
    obtain ⟨hf9_0, hf9_1, hf9_2, hf9_3, hf9_4, hf9_5, ha9_6, ha9_7⟩ := hf9
    refine r_iload_n (pc := 9) dX12_square_9 (i := 3) rfl rfl ?_
    refine r_iload_n (pc := 10) dX12_square_10 (i := 2) rfl rfl ?_
    refine t_icmp_ge (pc := 11) (tgt := 207) dX12_square_11 (by decide) (by omega) (by omega) (fun c11 => ?_) (fun c11 => ?_)
    · exact r_vret (pc := 207) dX12_square_207 rfl (hPo _ _ _ ⟨rfl, nf9, nt9, nw9, nc9, nm9, ht9, rfl, (by omega), (by assumption), (by (have h8 : PL (acc (sqL (Int.toNat (sz (Int.toNat x1))) (Int.toNat (mn (Int.toNat x1))) (dr (Int.toNat x1)) (sh fr (60 * x1)) (sh tt (60 * x1)) (sh wt (60 * x1))) (Int.toNat v9_3)) _ _ _ _ _ := (by assumption); rw [show v9_3 = (sz (Int.toNat x1)) by omega] at h8; exact h8))⟩)
    · refine r_aload_n (pc := 14) dX12_square_14 (i := 0) rfl rfl ?_
      refine t_getE (pc := 15) (.ref (y + 3)) ht9 (rd_of RX_y) fX12_16 dX12_square_15 rfl ?_
      refine r_iload_n (pc := 18) dX12_square_18 (i := 1) rfl rfl ?_
      refine t_zaldX (pc := 19) (t0 := 2) ht9 (rd_of RX_directs) dX12_square_19 rfl (by decide) (by omega) (fun b2 => ?_)
      have rb2 := (show Rfx 121 0 1 dr by assumption) (Int.toNat x1) (by omega)
      refine t_if_eq (pc := 20) (tgt := 27) dX12_square_20 (by decide) (by omega) (fun c20 => ?_) (fun c20 => ?_)
      · refine r_iload_n (pc := 27) dX12_square_27 (i := 3) rfl rfl ?_
        refine r_istore (pc := 28) (lv' := [(4, .int (iv v9_3)), (0, .ref y), (1, .int (iv x1)), (2, .int (iv (sz (Int.toNat x1)))), (3, .int (iv v9_3))]) dX12_square_28 (by decide) rfl ?_
        have B30 : ∀ k : Nat, ∀ nm30 : Int, ∀ nf30 : Nat → Int, ∀ nt30 : Nat → Int, ∀ nw30 : Nat → Int, ∀ nc30 : Nat → Int, ∀ hp30 : MH, Tw (RX Γ cI cJ cZ y rf cn nm30 so sz dr mn fr tt wt co nu sa wo ln hw ro qi qc nf30 nt30 nw30 nc30 cl nx ie be sd bl bs wy ra rb lb bg os js ls sp jw go de yb ah im) hp30 → ∀  (v30_4 : Int), 0 ≤ v30_4 ∧ v30_4 ≤ 16 ∧ v9_3 ≤ v30_4 ∧ (0 ≤ nm30) ∧ (nm30 ≤ 400) ∧ (v30_4 ≤ (sz (Int.toNat x1))) ∧ (nm30 ≤ 16 * v9_3 + v30_4) ∧ ((dr (Int.toNat x1)) = 0 → v9_3 ≤ v30_4) ∧ (arP nf30 nt30 nw30 nc30 nm30 (sz (Int.toNat x1))) ∧ (PL (acc (sqL (Int.toNat (sz (Int.toNat x1))) (Int.toNat (mn (Int.toNat x1))) (dr (Int.toNat x1)) (sh fr (60 * x1)) (sh tt (60 * x1)) (sh wt (60 * x1))) (Int.toNat v9_3) ++ acc ((sqR (Int.toNat (mn (Int.toNat x1))) (dr (Int.toNat x1)) (sh fr (60 * x1)) (sh tt (60 * x1)) (sh wt (60 * x1))) (Int.toNat v9_3)) (Int.toNat v30_4)) nm30 nf30 nt30 nw30 nc30) → 16 - v30_4 ≤ (k : Int) → Rn (gG D cI cJ cZ cT lo b L xs) mX12_square d 30 [(0, .ref y), (1, .int (iv x1)), (2, .int (iv (sz (Int.toNat x1)))), (3, .int (iv v9_3)), (4, .int (iv v30_4))] [] hp30 n 0 0 Po9 := by
          refine lpS _ ?_
          intro k30 ih30 nm30 nf30 nt30 nw30 nc30 hp30 ht30 v30_4 hf30 hm30
          obtain ⟨hf30_0, hf30_1, hf30_2, hf30_3, hf30_4, hf30_5, hf30_6, hf30_7, ha30_8, ha30_9⟩ := hf30
          refine r_iload (pc := 30) dX12_square_30 rfl ?_
          refine r_iload_n (pc := 32) dX12_square_32 (i := 2) rfl rfl ?_
          refine t_icmp_ge (pc := 33) (tgt := 201) dX12_square_33 (by decide) (by omega) (by omega) (fun c33 => ?_) (fun c33 => ?_)
          · refine r_iinc (pc := 201) (v := iv (v9_3 + 1)) (lv' := [(3, .int (iv (v9_3 + 1))), (0, .ref y), (1, .int (iv x1)), (2, .int (iv (sz (Int.toNat x1)))), (4, .int (iv v30_4))]) dX12_square_201 rfl (iv_add _ _) (by decide) rfl ?_
            refine r_goto (pc := 204) (tgt := 9) dX12_square_204 (by decide) ?_
            refine Rn.pick (lv' := [(0, .ref y), (1, .int (iv x1)), (2, .int (iv (sz (Int.toNat x1)))), (3, .int (iv (v9_3 + 1)))]) [1, 2, 3, 0] rfl ?_
            exact ih9 (Int.toNat (16 - (v9_3 + 1))) (by omega) nm30 nf30 nt30 nw30 nc30 _ ht30 (v9_3 + 1) ⟨by omega, by omega, by omega, by omega, by omega, by omega, by assumption, by (first | (rw [List.nil_append] at hpl0; exact hpl0) | assumption | (have h8 : PL (acc (sqL (Int.toNat (sz (Int.toNat x1))) (Int.toNat (mn (Int.toNat x1))) (dr (Int.toNat x1)) (sh fr (60 * x1)) (sh tt (60 * x1)) (sh wt (60 * x1))) (Int.toNat v9_3) ++ acc ((sqR (Int.toNat (mn (Int.toNat x1))) (dr (Int.toNat x1)) (sh fr (60 * x1)) (sh tt (60 * x1)) (sh wt (60 * x1))) (Int.toNat v9_3)) (Int.toNat v30_4)) _ _ _ _ _ := (by assumption); rw [acc_up (by omega)]; have e9 : (sqL (Int.toNat (sz (Int.toNat x1))) (Int.toNat (mn (Int.toNat x1))) (dr (Int.toNat x1)) (sh fr (60 * x1)) (sh tt (60 * x1)) (sh wt (60 * x1))) (Int.toNat v9_3) = acc ((sqR (Int.toNat (mn (Int.toNat x1))) (dr (Int.toNat x1)) (sh fr (60 * x1)) (sh tt (60 * x1)) (sh wt (60 * x1))) (Int.toNat v9_3)) (Int.toNat v30_4) := (by show acc _ _ = _; rw [show v30_4 = (sz (Int.toNat x1)) by omega]); rw [e9]; exact h8))⟩ (by omega)
          · refine r_ldc (pc := 36) (v := iv 99999) dX12_square_36 kX12_204 ?_
            refine r_istore (pc := 38) (lv' := [(5, .int (iv 99999)), (0, .ref y), (1, .int (iv x1)), (2, .int (iv (sz (Int.toNat x1)))), (3, .int (iv v9_3)), (4, .int (iv v30_4))]) dX12_square_38 (by decide) rfl ?_
            refine r_iconst (pc := 40) (v := iv 0) dX12_square_40 (by decide) ?_
            refine r_istore (pc := 41) (lv' := [(6, .int (iv 0)), (5, .int (iv 99999)), (0, .ref y), (1, .int (iv x1)), (2, .int (iv (sz (Int.toNat x1)))), (3, .int (iv v9_3)), (4, .int (iv v30_4))]) dX12_square_41 (by decide) rfl ?_
            have B43 : ∀ k : Nat, ∀ hp43 : MH, Tw (RX Γ cI cJ cZ y rf cn nm30 so sz dr mn fr tt wt co nu sa wo ln hw ro qi qc nf30 nt30 nw30 nc30 cl nx ie be sd bl bs wy ra rb lb bg os js ls sp jw go de yb ah im) hp43 → ∀  (v43_5 : Int) (v43_6 : Int), (-2000) ≤ v43_5 ∧ v43_5 ≤ 99999 ∧ 0 ≤ v43_6 ∧ v43_6 ≤ 60 ∧ (v43_6 ≤ (mn (Int.toNat x1))) ∧ (sqB (dr (Int.toNat x1)) (sh fr (60 * x1)) (sh tt (60 * x1)) (sh wt (60 * x1)) v9_3 v30_4 v43_5 (fun e f => e < Int.toNat v43_6 ∧ f < (Int.toNat (mn (Int.toNat x1))))) → 60 - v43_6 ≤ (k : Int) → Rn (gG D cI cJ cZ cT lo b L xs) mX12_square d 43 [(0, .ref y), (1, .int (iv x1)), (2, .int (iv (sz (Int.toNat x1)))), (3, .int (iv v9_3)), (4, .int (iv v30_4)), (5, .int (iv v43_5)), (6, .int (iv v43_6))] [] hp43 n 0 0 Po9 := by
              refine lpS _ ?_
              intro k43 ih43 hp43 ht43 v43_5 v43_6 hf43 hm43
              obtain ⟨hf43_0, hf43_1, hf43_2, hf43_3, hf43_4, ha43_5⟩ := hf43
              refine r_iload (pc := 43) dX12_square_43 rfl ?_
              refine r_aload_n (pc := 45) dX12_square_45 (i := 0) rfl rfl ?_
              refine t_getE (pc := 46) (.ref (y + 4)) ht43 (rd_of RX_y) fX12_20 dX12_square_46 rfl ?_
              refine r_iload_n (pc := 49) dX12_square_49 (i := 1) rfl rfl ?_
              refine t_ialdX (pc := 50) (t0 := 0) ht43 (rd_of RX_many) dX12_square_50 rfl (by decide) (by omega) (fun b3 => ?_)
              have rb3 := (show Rfx 121 0 60 mn by assumption) (Int.toNat x1) (by omega)
              refine t_icmp_ge (pc := 51) (tgt := 150) dX12_square_51 (by decide) (by omega) (by omega) (fun c51 => ?_) (fun c51 => ?_)
              · refine r_iload (pc := 150) dX12_square_150 rfl ?_
                refine r_ldc (pc := 152) (v := iv 99999) dX12_square_152 kX12_204 ?_
                refine t_icmp_ge (pc := 154) (tgt := 195) dX12_square_154 (by decide) (by omega) (by omega) (fun c154 => ?_) (fun c154 => ?_)
                · have hsqn := sq_n (m := (Int.toNat (mn (Int.toNat x1)))) (show sqB (dr (Int.toNat x1)) (sh fr (60 * x1)) (sh tt (60 * x1)) (sh wt (60 * x1)) v9_3 v30_4 v43_5 (fun e f => e < Int.toNat v43_6 ∧ f < (Int.toNat (mn (Int.toNat x1)))) by assumption) (fun e f => by rw [show v43_6 = (mn (Int.toNat x1)) by omega]) hW9 (by omega)
                  refine r_iinc (pc := 195) (v := iv (v30_4 + 1)) (lv' := [(4, .int (iv (v30_4 + 1))), (0, .ref y), (1, .int (iv x1)), (2, .int (iv (sz (Int.toNat x1)))), (3, .int (iv v9_3)), (5, .int (iv v43_5)), (6, .int (iv v43_6))]) dX12_square_195 rfl (iv_add _ _) (by decide) rfl ?_
                  refine r_goto (pc := 198) (tgt := 30) dX12_square_198 (by decide) ?_
                  refine Rn.pick (lv' := [(0, .ref y), (1, .int (iv x1)), (2, .int (iv (sz (Int.toNat x1)))), (3, .int (iv v9_3)), (4, .int (iv (v30_4 + 1)))]) [1, 2, 3, 4, 0] rfl ?_
                  exact ih30 (Int.toNat (16 - (v30_4 + 1))) (by omega) nm30 nf30 nt30 nw30 nc30 _ ht43 (v30_4 + 1) ⟨by omega, by omega, by omega, by omega, by omega, by omega, by omega, by omega, by assumption, by (first | (rw [show acc ((sqR (Int.toNat (mn (Int.toNat x1))) (dr (Int.toNat x1)) (sh fr (60 * x1)) (sh tt (60 * x1)) (sh wt (60 * x1))) (Int.toNat v9_3)) (Int.toNat 0) = [] from rfl, List.append_nil]; assumption) | (rw [acc_nil (h := (sqR (Int.toNat (mn (Int.toNat x1))) (dr (Int.toNat x1)) (sh fr (60 * x1)) (sh tt (60 * x1)) (sh wt (60 * x1))) (Int.toNat v9_3)) (fun i hi => by unfold sqR; rw [if_pos (by omega)]), List.append_nil]; assumption) | exact PL_y (by assumption) (by omega) hrow | exact PL_n (by assumption) (by omega) (by unfold sqR; rw [if_neg (by omega), Int.toNat_of_nonneg (show (0 : Int) ≤ v9_3 by omega), Int.toNat_of_nonneg (show (0 : Int) ≤ v30_4 by omega)]; exact sqE_n hsqn))⟩ (by omega)
                · have hsqy := sq_y (m := (Int.toNat (mn (Int.toNat x1)))) (show sqB (dr (Int.toNat x1)) (sh fr (60 * x1)) (sh tt (60 * x1)) (sh wt (60 * x1)) v9_3 v30_4 v43_5 (fun e f => e < Int.toNat v43_6 ∧ f < (Int.toNat (mn (Int.toNat x1)))) by assumption) (fun e f => by rw [show v43_6 = (mn (Int.toNat x1)) by omega]) (by omega)
                  refine r_aload_n (pc := 157) dX12_square_157 (i := 0) rfl rfl ?_
                  refine r_iload_n (pc := 158) dX12_square_158 (i := 3) rfl rfl ?_
                  refine r_iload (pc := 159) dX12_square_159 rfl ?_
                  refine r_iload (pc := 161) dX12_square_161 rfl ?_
                  refine r_sipush (pc := 163) (v := iv (-1000)) dX12_square_163 (by decide) ?_
                  refine t_icmp_ge (pc := 166) (tgt := 175) dX12_square_166 (by decide) (by omega) (by omega) (fun c166 => ?_) (fun c166 => ?_)
                  · refine r_iload (pc := 175) dX12_square_175 rfl ?_
                    refine r_sipush (pc := 177) (v := iv 1000) dX12_square_177 (by decide) ?_
                    refine t_icmp_le (pc := 180) (tgt := 189) dX12_square_180 (by decide) (by omega) (by omega) (fun c180 => ?_) (fun c180 => ?_)
                    · refine r_iload (pc := 189) dX12_square_189 rfl ?_
                      refine r_iconst (pc := 191) (v := iv 0) dX12_square_191 (by decide) ?_
                      obtain ⟨fs8, hfs8⟩ := t_obj ht43 (rd_of RX_y)
                      refine r_callV (pc := 192) (as := [.int (iv v9_3), .int (iv v30_4), .int (iv v43_5), .int (iv 0)]) (st := []) kX12_171 rfl dX12_square_192 hfs8 (x_X12_put (d := d - 1) (x1 := v9_3) (x2 := v30_4) (x3 := v43_5) (x4 := 0) (by omega) (by omega) ht43 (by omega) (by omega) (by omega) (by omega) (by omega) (fun _ _ _ h => h)) rfl (by omega) (Nat.le_of_ble_eq_true rfl) (Nat.zero_le _) (Nat.zero_le _) rfl (fun r5 hp4 n6 hq7 => ?_)
                      obtain ⟨hnn6, ht9, hrr5⟩ := hq7
                      subst n6 r5
                      change Rn _ _ _ 195 _ [] _ _ _ _ _
                      have hrow : (sqR (Int.toNat (mn (Int.toNat x1))) (dr (Int.toNat x1)) (sh fr (60 * x1)) (sh tt (60 * x1)) (sh wt (60 * x1))) (Int.toNat v9_3) (Int.toNat v30_4) = [(v9_3, v30_4, v43_5, 0)] := by
                        unfold sqR
                        rw [if_neg (by omega), Int.toNat_of_nonneg (show (0 : Int) ≤ v9_3 by omega), Int.toNat_of_nonneg (show (0 : Int) ≤ v30_4 by omega), sqE_y hsqy]
                        unfold clW
                        (repeat' split) <;> first | rfl | (exfalso; omega)
                      have hapq10 : arP (fup nf30 (Int.toNat nm30) v9_3) (fup nt30 (Int.toNat nm30) v30_4) (fup nw30 (Int.toNat nm30) v43_5) (fup nc30 (Int.toNat nm30) 0) (nm30 + 1) (sz (Int.toNat x1)) := ar_up (by assumption) (by omega) (by omega) (by omega) (by omega) (by omega)
                      refine r_iinc (pc := 195) (v := iv (v30_4 + 1)) (lv' := [(4, .int (iv (v30_4 + 1))), (0, .ref y), (1, .int (iv x1)), (2, .int (iv (sz (Int.toNat x1)))), (3, .int (iv v9_3)), (5, .int (iv v43_5)), (6, .int (iv v43_6))]) dX12_square_195 rfl (iv_add _ _) (by decide) rfl ?_
                      refine r_goto (pc := 198) (tgt := 30) dX12_square_198 (by decide) ?_
                      refine Rn.pick (lv' := [(0, .ref y), (1, .int (iv x1)), (2, .int (iv (sz (Int.toNat x1)))), (3, .int (iv v9_3)), (4, .int (iv (v30_4 + 1)))]) [1, 2, 3, 4, 0] rfl ?_
                      exact ih30 (Int.toNat (16 - (v30_4 + 1))) (by omega) (nm30 + 1) (fup nf30 (Int.toNat nm30) v9_3) (fup nt30 (Int.toNat nm30) v30_4) (fup nw30 (Int.toNat nm30) v43_5) (fup nc30 (Int.toNat nm30) 0) _ ht9 (v30_4 + 1) ⟨by omega, by omega, by omega, by omega, by omega, by omega, by omega, by omega, by assumption, by (first | (rw [show acc ((sqR (Int.toNat (mn (Int.toNat x1))) (dr (Int.toNat x1)) (sh fr (60 * x1)) (sh tt (60 * x1)) (sh wt (60 * x1))) (Int.toNat v9_3)) (Int.toNat 0) = [] from rfl, List.append_nil]; assumption) | (rw [acc_nil (h := (sqR (Int.toNat (mn (Int.toNat x1))) (dr (Int.toNat x1)) (sh fr (60 * x1)) (sh tt (60 * x1)) (sh wt (60 * x1))) (Int.toNat v9_3)) (fun i hi => by unfold sqR; rw [if_pos (by omega)]), List.append_nil]; assumption) | exact PL_y (by assumption) (by omega) hrow | exact PL_n (by assumption) (by omega) (by unfold sqR; rw [if_neg (by omega), Int.toNat_of_nonneg (show (0 : Int) ≤ v9_3 by omega), Int.toNat_of_nonneg (show (0 : Int) ≤ v30_4 by omega)]; exact sqE_n hsqn))⟩ (by omega)
                    · refine r_sipush (pc := 183) (v := iv 1000) dX12_square_183 (by decide) ?_
                      refine r_goto (pc := 186) (tgt := 191) dX12_square_186 (by decide) ?_
                      refine r_iconst (pc := 191) (v := iv 0) dX12_square_191 (by decide) ?_
                      obtain ⟨fs15, hfs15⟩ := t_obj ht43 (rd_of RX_y)
                      refine r_callV (pc := 192) (as := [.int (iv v9_3), .int (iv v30_4), .int (iv 1000), .int (iv 0)]) (st := []) kX12_171 rfl dX12_square_192 hfs15 (x_X12_put (d := d - 1) (x1 := v9_3) (x2 := v30_4) (x3 := 1000) (x4 := 0) (by omega) (by omega) ht43 (by omega) (by omega) (by omega) (by omega) (by omega) (fun _ _ _ h => h)) rfl (by omega) (Nat.le_of_ble_eq_true rfl) (Nat.zero_le _) (Nat.zero_le _) rfl (fun r12 hp11 n13 hq14 => ?_)
                      obtain ⟨hnn13, ht16, hrr12⟩ := hq14
                      subst n13 r12
                      change Rn _ _ _ 195 _ [] _ _ _ _ _
                      have hrow : (sqR (Int.toNat (mn (Int.toNat x1))) (dr (Int.toNat x1)) (sh fr (60 * x1)) (sh tt (60 * x1)) (sh wt (60 * x1))) (Int.toNat v9_3) (Int.toNat v30_4) = [(v9_3, v30_4, 1000, 0)] := by
                        unfold sqR
                        rw [if_neg (by omega), Int.toNat_of_nonneg (show (0 : Int) ≤ v9_3 by omega), Int.toNat_of_nonneg (show (0 : Int) ≤ v30_4 by omega), sqE_y hsqy]
                        unfold clW
                        (repeat' split) <;> first | rfl | (exfalso; omega)
                      have hapq17 : arP (fup nf30 (Int.toNat nm30) v9_3) (fup nt30 (Int.toNat nm30) v30_4) (fup nw30 (Int.toNat nm30) 1000) (fup nc30 (Int.toNat nm30) 0) (nm30 + 1) (sz (Int.toNat x1)) := ar_up (by assumption) (by omega) (by omega) (by omega) (by omega) (by omega)
                      refine r_iinc (pc := 195) (v := iv (v30_4 + 1)) (lv' := [(4, .int (iv (v30_4 + 1))), (0, .ref y), (1, .int (iv x1)), (2, .int (iv (sz (Int.toNat x1)))), (3, .int (iv v9_3)), (5, .int (iv v43_5)), (6, .int (iv v43_6))]) dX12_square_195 rfl (iv_add _ _) (by decide) rfl ?_
                      refine r_goto (pc := 198) (tgt := 30) dX12_square_198 (by decide) ?_
                      refine Rn.pick (lv' := [(0, .ref y), (1, .int (iv x1)), (2, .int (iv (sz (Int.toNat x1)))), (3, .int (iv v9_3)), (4, .int (iv (v30_4 + 1)))]) [1, 2, 3, 4, 0] rfl ?_
                      exact ih30 (Int.toNat (16 - (v30_4 + 1))) (by omega) (nm30 + 1) (fup nf30 (Int.toNat nm30) v9_3) (fup nt30 (Int.toNat nm30) v30_4) (fup nw30 (Int.toNat nm30) 1000) (fup nc30 (Int.toNat nm30) 0) _ ht16 (v30_4 + 1) ⟨by omega, by omega, by omega, by omega, by omega, by omega, by omega, by omega, by assumption, by (first | (rw [show acc ((sqR (Int.toNat (mn (Int.toNat x1))) (dr (Int.toNat x1)) (sh fr (60 * x1)) (sh tt (60 * x1)) (sh wt (60 * x1))) (Int.toNat v9_3)) (Int.toNat 0) = [] from rfl, List.append_nil]; assumption) | (rw [acc_nil (h := (sqR (Int.toNat (mn (Int.toNat x1))) (dr (Int.toNat x1)) (sh fr (60 * x1)) (sh tt (60 * x1)) (sh wt (60 * x1))) (Int.toNat v9_3)) (fun i hi => by unfold sqR; rw [if_pos (by omega)]), List.append_nil]; assumption) | exact PL_y (by assumption) (by omega) hrow | exact PL_n (by assumption) (by omega) (by unfold sqR; rw [if_neg (by omega), Int.toNat_of_nonneg (show (0 : Int) ≤ v9_3 by omega), Int.toNat_of_nonneg (show (0 : Int) ≤ v30_4 by omega)]; exact sqE_n hsqn))⟩ (by omega)
                  · refine r_sipush (pc := 169) (v := iv (-1000)) dX12_square_169 (by decide) ?_
                    refine r_goto (pc := 172) (tgt := 191) dX12_square_172 (by decide) ?_
                    refine r_iconst (pc := 191) (v := iv 0) dX12_square_191 (by decide) ?_
                    obtain ⟨fs22, hfs22⟩ := t_obj ht43 (rd_of RX_y)
                    refine r_callV (pc := 192) (as := [.int (iv v9_3), .int (iv v30_4), .int (iv (-1000)), .int (iv 0)]) (st := []) kX12_171 rfl dX12_square_192 hfs22 (x_X12_put (d := d - 1) (x1 := v9_3) (x2 := v30_4) (x3 := (-1000)) (x4 := 0) (by omega) (by omega) ht43 (by omega) (by omega) (by omega) (by omega) (by omega) (fun _ _ _ h => h)) rfl (by omega) (Nat.le_of_ble_eq_true rfl) (Nat.zero_le _) (Nat.zero_le _) rfl (fun r19 hp18 n20 hq21 => ?_)
                    obtain ⟨hnn20, ht23, hrr19⟩ := hq21
                    subst n20 r19
                    change Rn _ _ _ 195 _ [] _ _ _ _ _
                    have hrow : (sqR (Int.toNat (mn (Int.toNat x1))) (dr (Int.toNat x1)) (sh fr (60 * x1)) (sh tt (60 * x1)) (sh wt (60 * x1))) (Int.toNat v9_3) (Int.toNat v30_4) = [(v9_3, v30_4, (-1000), 0)] := by
                      unfold sqR
                      rw [if_neg (by omega), Int.toNat_of_nonneg (show (0 : Int) ≤ v9_3 by omega), Int.toNat_of_nonneg (show (0 : Int) ≤ v30_4 by omega), sqE_y hsqy]
                      unfold clW
                      (repeat' split) <;> first | rfl | (exfalso; omega)
                    have hapq24 : arP (fup nf30 (Int.toNat nm30) v9_3) (fup nt30 (Int.toNat nm30) v30_4) (fup nw30 (Int.toNat nm30) (-1000)) (fup nc30 (Int.toNat nm30) 0) (nm30 + 1) (sz (Int.toNat x1)) := ar_up (by assumption) (by omega) (by omega) (by omega) (by omega) (by omega)
                    refine r_iinc (pc := 195) (v := iv (v30_4 + 1)) (lv' := [(4, .int (iv (v30_4 + 1))), (0, .ref y), (1, .int (iv x1)), (2, .int (iv (sz (Int.toNat x1)))), (3, .int (iv v9_3)), (5, .int (iv v43_5)), (6, .int (iv v43_6))]) dX12_square_195 rfl (iv_add _ _) (by decide) rfl ?_
                    refine r_goto (pc := 198) (tgt := 30) dX12_square_198 (by decide) ?_
                    refine Rn.pick (lv' := [(0, .ref y), (1, .int (iv x1)), (2, .int (iv (sz (Int.toNat x1)))), (3, .int (iv v9_3)), (4, .int (iv (v30_4 + 1)))]) [1, 2, 3, 4, 0] rfl ?_
                    exact ih30 (Int.toNat (16 - (v30_4 + 1))) (by omega) (nm30 + 1) (fup nf30 (Int.toNat nm30) v9_3) (fup nt30 (Int.toNat nm30) v30_4) (fup nw30 (Int.toNat nm30) (-1000)) (fup nc30 (Int.toNat nm30) 0) _ ht23 (v30_4 + 1) ⟨by omega, by omega, by omega, by omega, by omega, by omega, by omega, by omega, by assumption, by (first | (rw [show acc ((sqR (Int.toNat (mn (Int.toNat x1))) (dr (Int.toNat x1)) (sh fr (60 * x1)) (sh tt (60 * x1)) (sh wt (60 * x1))) (Int.toNat v9_3)) (Int.toNat 0) = [] from rfl, List.append_nil]; assumption) | (rw [acc_nil (h := (sqR (Int.toNat (mn (Int.toNat x1))) (dr (Int.toNat x1)) (sh fr (60 * x1)) (sh tt (60 * x1)) (sh wt (60 * x1))) (Int.toNat v9_3)) (fun i hi => by unfold sqR; rw [if_pos (by omega)]), List.append_nil]; assumption) | exact PL_y (by assumption) (by omega) hrow | exact PL_n (by assumption) (by omega) (by unfold sqR; rw [if_neg (by omega), Int.toNat_of_nonneg (show (0 : Int) ≤ v9_3 by omega), Int.toNat_of_nonneg (show (0 : Int) ≤ v30_4 by omega)]; exact sqE_n hsqn))⟩ (by omega)
              · refine r_aload_n (pc := 54) dX12_square_54 (i := 0) rfl rfl ?_
                refine r_iload_n (pc := 55) dX12_square_55 (i := 1) rfl rfl ?_
                refine r_iload (pc := 56) dX12_square_56 rfl ?_
                refine r_iload_n (pc := 58) dX12_square_58 (i := 3) rfl rfl ?_
                obtain ⟨fs29, hfs29⟩ := t_obj ht43 (rd_of RX_y)
                refine r_callV (pc := 59) (as := [.int (iv x1), .int (iv v43_6), .int (iv v9_3)]) (st := []) kX12_205 rfl dX12_square_59 hfs29 (x_X12_over (d := d - 1) (x1 := x1) (x2 := v43_6) (x3 := v9_3) (by omega) (by assumption) (by assumption) (by assumption) ht43 (by omega) (by omega) (by omega) (fun _ _ _ h => h)) rfl (by omega) (Nat.le_of_ble_eq_true rfl) (Nat.zero_le _) (Nat.zero_le _) rfl (fun r26 hp25 n27 hq28 => ?_)
                obtain ⟨hnn27, r9_31, ht30, hrr26, hhq280, hhq281⟩ := hq28
                subst n27 r26
                have hhq280 : r9_31 = inV tt fr dr x1 v43_6 v9_3 := hhq280
                have hhq281 : (-1) ≤ r9_31 ∧ r9_31 ≤ 15 := hhq281
                change Rn _ _ _ 62 _ [.int (iv r9_31)] _ _ _ _ _
                refine r_istore (pc := 62) (lv' := [(7, .int (iv r9_31)), (0, .ref y), (1, .int (iv x1)), (2, .int (iv (sz (Int.toNat x1)))), (3, .int (iv v9_3)), (4, .int (iv v30_4)), (5, .int (iv v43_5)), (6, .int (iv v43_6))]) dX12_square_62 (by decide) rfl ?_
                refine r_iconst (pc := 64) (v := iv 0) dX12_square_64 (by decide) ?_
                refine r_istore (pc := 65) (lv' := [(8, .int (iv 0)), (7, .int (iv r9_31)), (0, .ref y), (1, .int (iv x1)), (2, .int (iv (sz (Int.toNat x1)))), (3, .int (iv v9_3)), (4, .int (iv v30_4)), (5, .int (iv v43_5)), (6, .int (iv v43_6))]) dX12_square_65 (by decide) rfl ?_
                have B67 : ∀ k : Nat, ∀ hp67 : MH, Tw (RX Γ cI cJ cZ y rf cn nm30 so sz dr mn fr tt wt co nu sa wo ln hw ro qi qc nf30 nt30 nw30 nc30 cl nx ie be sd bl bs wy ra rb lb bg os js ls sp jw go de yb ah im) hp67 → ∀  (v67_5 : Int) (v67_8 : Int), (-2000) ≤ v67_5 ∧ v67_5 ≤ 99999 ∧ 0 ≤ v67_8 ∧ v67_8 ≤ 60 ∧ (v67_8 ≤ (mn (Int.toNat x1))) ∧ (sqB (dr (Int.toNat x1)) (sh fr (60 * x1)) (sh tt (60 * x1)) (sh wt (60 * x1)) v9_3 v30_4 v67_5 (fun e f => e < Int.toNat v43_6 ∧ f < (Int.toNat (mn (Int.toNat x1))) ∨ e = Int.toNat v43_6 ∧ f < Int.toNat v67_8)) → 60 - v67_8 ≤ (k : Int) → Rn (gG D cI cJ cZ cT lo b L xs) mX12_square d 67 [(0, .ref y), (1, .int (iv x1)), (2, .int (iv (sz (Int.toNat x1)))), (3, .int (iv v9_3)), (4, .int (iv v30_4)), (5, .int (iv v67_5)), (6, .int (iv v43_6)), (7, .int (iv r9_31)), (8, .int (iv v67_8))] [] hp67 n 0 0 Po9 := by
                  refine lpS _ ?_
                  intro k67 ih67 hp67 ht67 v67_5 v67_8 hf67 hm67
                  obtain ⟨hf67_0, hf67_1, hf67_2, hf67_3, hf67_4, ha67_5⟩ := hf67
                  refine r_iload (pc := 67) dX12_square_67 rfl ?_
                  refine r_aload_n (pc := 69) dX12_square_69 (i := 0) rfl rfl ?_
                  refine t_getE (pc := 70) (.ref (y + 4)) ht67 (rd_of RX_y) fX12_20 dX12_square_70 rfl ?_
                  refine r_iload_n (pc := 73) dX12_square_73 (i := 1) rfl rfl ?_
                  refine t_ialdX (pc := 74) (t0 := 0) ht67 (rd_of RX_many) dX12_square_74 rfl (by decide) (by omega) (fun b32 => ?_)
                  have rb32 := (show Rfx 121 0 60 mn by assumption) (Int.toNat x1) (by omega)
                  refine t_icmp_ge (pc := 75) (tgt := 144) dX12_square_75 (by decide) (by omega) (by omega) (fun c75 => ?_) (fun c75 => ?_)
                  · refine r_iinc (pc := 144) (v := iv (v43_6 + 1)) (lv' := [(6, .int (iv (v43_6 + 1))), (0, .ref y), (1, .int (iv x1)), (2, .int (iv (sz (Int.toNat x1)))), (3, .int (iv v9_3)), (4, .int (iv v30_4)), (5, .int (iv v67_5)), (7, .int (iv r9_31)), (8, .int (iv v67_8))]) dX12_square_144 rfl (iv_add _ _) (by decide) rfl ?_
                    refine r_goto (pc := 147) (tgt := 43) dX12_square_147 (by decide) ?_
                    refine Rn.pick (lv' := [(0, .ref y), (1, .int (iv x1)), (2, .int (iv (sz (Int.toNat x1)))), (3, .int (iv v9_3)), (4, .int (iv v30_4)), (5, .int (iv v67_5)), (6, .int (iv (v43_6 + 1)))]) [1, 2, 3, 4, 5, 6, 0] rfl ?_
                    exact ih43 (Int.toNat (60 - (v43_6 + 1))) (by omega) _ ht67 v67_5 (v43_6 + 1) ⟨by omega, by omega, by omega, by omega, by omega, by (first | exact ⟨Or.inl rfl, fun e f c q => by omega⟩ | exact sb_keep (by assumption) (fun e f q => by omega) (fun e f c q1 q2 q3 q4 => by first | (exfalso; omega) | (have e1 : e = Int.toNat v43_6 := (by omega); subst e1; exact absurd q3 (hno1 _))))⟩ (by omega)
                  · refine r_iload (pc := 78) dX12_square_78 rfl ?_
                    refine t_if_lt (pc := 80) (tgt := 144) dX12_square_80 (by decide) (by omega) (fun c80 => ?_) (fun c80 => ?_)
                    · have hno1 := inV_no hhq280 (by omega) (by omega) (by have := hFT (Int.toNat v43_6) (by omega); omega) (by have := hFT (Int.toNat v43_6) (by omega); omega)
                      refine r_iinc (pc := 144) (v := iv (v43_6 + 1)) (lv' := [(6, .int (iv (v43_6 + 1))), (0, .ref y), (1, .int (iv x1)), (2, .int (iv (sz (Int.toNat x1)))), (3, .int (iv v9_3)), (4, .int (iv v30_4)), (5, .int (iv v67_5)), (7, .int (iv r9_31)), (8, .int (iv v67_8))]) dX12_square_144 rfl (iv_add _ _) (by decide) rfl ?_
                      refine r_goto (pc := 147) (tgt := 43) dX12_square_147 (by decide) ?_
                      refine Rn.pick (lv' := [(0, .ref y), (1, .int (iv x1)), (2, .int (iv (sz (Int.toNat x1)))), (3, .int (iv v9_3)), (4, .int (iv v30_4)), (5, .int (iv v67_5)), (6, .int (iv (v43_6 + 1)))]) [1, 2, 3, 4, 5, 6, 0] rfl ?_
                      exact ih43 (Int.toNat (60 - (v43_6 + 1))) (by omega) _ ht67 v67_5 (v43_6 + 1) ⟨by omega, by omega, by omega, by omega, by omega, by (first | exact ⟨Or.inl rfl, fun e f c q => by omega⟩ | exact sb_keep (by assumption) (fun e f q => by omega) (fun e f c q1 q2 q3 q4 => by first | (exfalso; omega) | (have e1 : e = Int.toNat v43_6 := (by omega); subst e1; exact absurd q3 (hno1 _))))⟩ (by omega)
                    · have hgo1 := inV_go hhq280 (by omega) (by omega)
                      refine r_aload_n (pc := 83) dX12_square_83 (i := 0) rfl rfl ?_
                      refine t_getE (pc := 84) (.ref (y + 7)) ht67 (rd_of RX_y) fX12_29 dX12_square_84 rfl ?_
                      refine r_iload_n (pc := 87) dX12_square_87 (i := 1) rfl rfl ?_
                      refine r_iload (pc := 88) dX12_square_88 rfl ?_
                      refine t_callSI (pc := 90) (as := [.int (iv x1), .int (iv v43_6)]) (st := [.ref (y + 7)]) kX12_157 dX12_square_90 (t_X12_at1x (d := d - 1) (x1 := x1) (x2 := v43_6) (by omega)  ht67 (by omega) (by omega)) rfl (by omega) (Nat.le_of_ble_eq_true rfl) rfl (fun hp33 y35 ht34 by35 => ?_)
                      have ey35 : y35 = 60 * x1 + v43_6 := by35
                      subst ey35
                      refine t_ialdX (pc := 93) (t0 := 0) ht34 (rd_of RX_weight) dX12_square_93 rfl (by decide) (by omega) (fun b36 => ?_)
                      have rb36 := (show Rfx 7260 (-1000) 1000 wt by assumption) (Int.toNat (60 * x1 + v43_6)) (by omega)
                      refine r_aload_n (pc := 94) dX12_square_94 (i := 0) rfl rfl ?_
                      refine t_getE (pc := 95) (.ref (y + 7)) ht34 (rd_of RX_y) fX12_29 dX12_square_95 rfl ?_
                      refine r_iload_n (pc := 98) dX12_square_98 (i := 1) rfl rfl ?_
                      refine r_iload (pc := 99) dX12_square_99 rfl ?_
                      refine t_callSI (pc := 101) (as := [.int (iv x1), .int (iv v67_8)]) (st := [.ref (y + 7), .int (iv (wt (Int.toNat (60 * x1 + v43_6))))]) kX12_157 dX12_square_101 (t_X12_at1x (d := d - 1) (x1 := x1) (x2 := v67_8) (by omega)  ht34 (by omega) (by omega)) rfl (by omega) (Nat.le_of_ble_eq_true rfl) rfl (fun hp37 y39 ht38 by39 => ?_)
                      have ey39 : y39 = 60 * x1 + v67_8 := by39
                      subst ey39
                      refine t_ialdX (pc := 104) (t0 := 0) ht38 (rd_of RX_weight) dX12_square_104 rfl (by decide) (by omega) (fun b40 => ?_)
                      have rb40 := (show Rfx 7260 (-1000) 1000 wt by assumption) (Int.toNat (60 * x1 + v67_8)) (by omega)
                      refine r_iadd (pc := 105) (v := iv ((wt (Int.toNat (60 * x1 + v43_6))) + (wt (Int.toNat (60 * x1 + v67_8))))) dX12_square_105 (iv_add _ _) ?_
                      refine r_istore (pc := 106) (lv' := [(9, .int (iv ((wt (Int.toNat (60 * x1 + v43_6))) + (wt (Int.toNat (60 * x1 + v67_8)))))), (0, .ref y), (1, .int (iv x1)), (2, .int (iv (sz (Int.toNat x1)))), (3, .int (iv v9_3)), (4, .int (iv v30_4)), (5, .int (iv v67_5)), (6, .int (iv v43_6)), (7, .int (iv r9_31)), (8, .int (iv v67_8))]) dX12_square_106 (by decide) rfl ?_
                      refine r_aload_n (pc := 108) dX12_square_108 (i := 0) rfl rfl ?_
                      refine r_iload_n (pc := 109) dX12_square_109 (i := 1) rfl rfl ?_
                      refine r_iload (pc := 110) dX12_square_110 rfl ?_
                      refine r_iload (pc := 112) dX12_square_112 rfl ?_
                      obtain ⟨fs45, hfs45⟩ := t_obj ht38 (rd_of RX_y)
                      refine r_callV (pc := 114) (as := [.int (iv x1), .int (iv v67_8), .int (iv r9_31)]) (st := []) kX12_205 rfl dX12_square_114 hfs45 (x_X12_over (d := d - 1) (x1 := x1) (x2 := v67_8) (x3 := r9_31) (by omega) (by assumption) (by assumption) (by assumption) ht38 (by omega) (by omega) (by omega) (fun _ _ _ h => h)) rfl (by omega) (Nat.le_of_ble_eq_true rfl) (Nat.zero_le _) (Nat.zero_le _) rfl (fun r42 hp41 n43 hq44 => ?_)
                      obtain ⟨hnn43, r9_47, ht46, hrr42, hhq440, hhq441⟩ := hq44
                      subst n43 r42
                      have hhq440 : r9_47 = inV tt fr dr x1 v67_8 r9_31 := hhq440
                      have hhq441 : (-1) ≤ r9_47 ∧ r9_47 ≤ 15 := hhq441
                      change Rn _ _ _ 117 _ [.int (iv r9_47)] _ _ _ _ _
                      have hgo2 : 0 ≤ r9_47 → goP (dr (Int.toNat x1)) (sh fr (60 * x1)) (sh tt (60 * x1)) (Int.toNat v67_8) r9_31 r9_47 := fun h9 => inV_go hhq440 (by omega) h9
                      have hno2 : r9_47 < 0 → ∀ c, ¬ goP (dr (Int.toNat x1)) (sh fr (60 * x1)) (sh tt (60 * x1)) (Int.toNat v67_8) r9_31 c := fun h9 => inV_no hhq440 (by omega) h9 (by have := hFT (Int.toNat v67_8) (by omega); omega) (by have := hFT (Int.toNat v67_8) (by omega); omega)
                      have hwsum : wt (Int.toNat (60 * x1 + v43_6)) + wt (Int.toNat (60 * x1 + v67_8)) = (sh wt (60 * x1)) (Int.toNat v43_6) + (sh wt (60 * x1)) (Int.toNat v67_8) := by rw [sh_at wt (60 * x1) (v := v43_6) (by omega), sh_at wt (60 * x1) (v := v67_8) (by omega)]
                      have hold : (¬ (r9_47 = v30_4 ∧ wt (Int.toNat (60 * x1 + v43_6)) + wt (Int.toNat (60 * x1 + v67_8)) < v67_5)) → sqB (dr (Int.toNat x1)) (sh fr (60 * x1)) (sh tt (60 * x1)) (sh wt (60 * x1)) v9_3 v30_4 v67_5 (fun e f => e < Int.toNat v43_6 ∧ f < (Int.toNat (mn (Int.toNat x1))) ∨ e = Int.toNat v43_6 ∧ f < Int.toNat (v67_8 + 1)) := fun h7 => sb_keep (by assumption) (fun e f q => by omega) (fun e f c q1 q2 q3 q4 => by
                        have e1 : e = Int.toNat v43_6 := by omega
                        have e2 : f = Int.toNat v67_8 := by omega
                        subst e1; subst e2
                        have e3 := go_u q3 hgo1
                        subst e3
                        rcases Int.lt_or_le r9_47 0 with g | g
                        · exact absurd q4 (hno2 g _)
                        · have e4 := go_u q4 (hgo2 g)
                          omega)
                      have hnew : r9_47 = v30_4 → wt (Int.toNat (60 * x1 + v43_6)) + wt (Int.toNat (60 * x1 + v67_8)) < v67_5 → sqB (dr (Int.toNat x1)) (sh fr (60 * x1)) (sh tt (60 * x1)) (sh wt (60 * x1)) v9_3 v30_4 (wt (Int.toNat (60 * x1 + v43_6)) + wt (Int.toNat (60 * x1 + v67_8))) (fun e f => e < Int.toNat v43_6 ∧ f < (Int.toNat (mn (Int.toNat x1))) ∨ e = Int.toNat v43_6 ∧ f < Int.toNat (v67_8 + 1)) := fun h6 h7 => sb_new (e0 := Int.toNat v43_6) (f0 := Int.toNat v67_8) (c0 := r9_31) (by assumption) (by omega) hgo1 (by have h5 := hgo2 (by omega); rw [h6] at h5; exact h5) (by omega) h7 (fun e f q => by omega)
                      refine r_iload (pc := 117) dX12_square_117 rfl ?_
                      refine t_icmp_ne (pc := 119) (tgt := 134) dX12_square_119 (by decide) (by omega) (by omega) (fun c119 => ?_) (fun c119 => ?_)
                      · refine r_iload (pc := 134) dX12_square_134 rfl ?_
                        refine r_istore (pc := 136) (lv' := [(5, .int (iv v67_5)), (9, .int (iv ((wt (Int.toNat (60 * x1 + v43_6))) + (wt (Int.toNat (60 * x1 + v67_8)))))), (0, .ref y), (1, .int (iv x1)), (2, .int (iv (sz (Int.toNat x1)))), (3, .int (iv v9_3)), (4, .int (iv v30_4)), (6, .int (iv v43_6)), (7, .int (iv r9_31)), (8, .int (iv v67_8))]) dX12_square_136 (by decide) rfl ?_
                        refine r_iinc (pc := 138) (v := iv (v67_8 + 1)) (lv' := [(8, .int (iv (v67_8 + 1))), (5, .int (iv v67_5)), (9, .int (iv ((wt (Int.toNat (60 * x1 + v43_6))) + (wt (Int.toNat (60 * x1 + v67_8)))))), (0, .ref y), (1, .int (iv x1)), (2, .int (iv (sz (Int.toNat x1)))), (3, .int (iv v9_3)), (4, .int (iv v30_4)), (6, .int (iv v43_6)), (7, .int (iv r9_31))]) dX12_square_138 rfl (iv_add _ _) (by decide) rfl ?_
                        refine r_goto (pc := 141) (tgt := 67) dX12_square_141 (by decide) ?_
                        refine Rn.pick (lv' := [(0, .ref y), (1, .int (iv x1)), (2, .int (iv (sz (Int.toNat x1)))), (3, .int (iv v9_3)), (4, .int (iv v30_4)), (5, .int (iv v67_5)), (6, .int (iv v43_6)), (7, .int (iv r9_31)), (8, .int (iv (v67_8 + 1)))]) [3, 4, 5, 6, 7, 1, 8, 9, 0] rfl ?_
                        exact ih67 (Int.toNat (60 - (v67_8 + 1))) (by omega) _ ht46 v67_5 (v67_8 + 1) ⟨by omega, by omega, by omega, by omega, by omega, by (first | exact sb_keep (by assumption) (fun e f q => by omega) (fun e f c q1 q2 q3 q4 => by exfalso; omega) | exact hnew (by omega) (by omega) | exact hold (by omega))⟩ (by omega)
                      · refine r_iload (pc := 122) dX12_square_122 rfl ?_
                        refine r_iload (pc := 124) dX12_square_124 rfl ?_
                        refine t_icmp_ge (pc := 126) (tgt := 134) dX12_square_126 (by decide) (by omega) (by omega) (fun c126 => ?_) (fun c126 => ?_)
                        · refine r_iload (pc := 134) dX12_square_134 rfl ?_
                          refine r_istore (pc := 136) (lv' := [(5, .int (iv v67_5)), (9, .int (iv ((wt (Int.toNat (60 * x1 + v43_6))) + (wt (Int.toNat (60 * x1 + v67_8)))))), (0, .ref y), (1, .int (iv x1)), (2, .int (iv (sz (Int.toNat x1)))), (3, .int (iv v9_3)), (4, .int (iv v30_4)), (6, .int (iv v43_6)), (7, .int (iv r9_31)), (8, .int (iv v67_8))]) dX12_square_136 (by decide) rfl ?_
                          refine r_iinc (pc := 138) (v := iv (v67_8 + 1)) (lv' := [(8, .int (iv (v67_8 + 1))), (5, .int (iv v67_5)), (9, .int (iv ((wt (Int.toNat (60 * x1 + v43_6))) + (wt (Int.toNat (60 * x1 + v67_8)))))), (0, .ref y), (1, .int (iv x1)), (2, .int (iv (sz (Int.toNat x1)))), (3, .int (iv v9_3)), (4, .int (iv v30_4)), (6, .int (iv v43_6)), (7, .int (iv r9_31))]) dX12_square_138 rfl (iv_add _ _) (by decide) rfl ?_
                          refine r_goto (pc := 141) (tgt := 67) dX12_square_141 (by decide) ?_
                          refine Rn.pick (lv' := [(0, .ref y), (1, .int (iv x1)), (2, .int (iv (sz (Int.toNat x1)))), (3, .int (iv v9_3)), (4, .int (iv v30_4)), (5, .int (iv v67_5)), (6, .int (iv v43_6)), (7, .int (iv r9_31)), (8, .int (iv (v67_8 + 1)))]) [3, 4, 5, 6, 7, 1, 8, 9, 0] rfl ?_
                          exact ih67 (Int.toNat (60 - (v67_8 + 1))) (by omega) _ ht46 v67_5 (v67_8 + 1) ⟨by omega, by omega, by omega, by omega, by omega, by (first | exact sb_keep (by assumption) (fun e f q => by omega) (fun e f c q1 q2 q3 q4 => by exfalso; omega) | exact hnew (by omega) (by omega) | exact hold (by omega))⟩ (by omega)
                        · refine r_iload (pc := 129) dX12_square_129 rfl ?_
                          refine r_goto (pc := 131) (tgt := 136) dX12_square_131 (by decide) ?_
                          refine r_istore (pc := 136) (lv' := [(5, .int (iv ((wt (Int.toNat (60 * x1 + v43_6))) + (wt (Int.toNat (60 * x1 + v67_8)))))), (9, .int (iv ((wt (Int.toNat (60 * x1 + v43_6))) + (wt (Int.toNat (60 * x1 + v67_8)))))), (0, .ref y), (1, .int (iv x1)), (2, .int (iv (sz (Int.toNat x1)))), (3, .int (iv v9_3)), (4, .int (iv v30_4)), (6, .int (iv v43_6)), (7, .int (iv r9_31)), (8, .int (iv v67_8))]) dX12_square_136 (by decide) rfl ?_
                          refine r_iinc (pc := 138) (v := iv (v67_8 + 1)) (lv' := [(8, .int (iv (v67_8 + 1))), (5, .int (iv ((wt (Int.toNat (60 * x1 + v43_6))) + (wt (Int.toNat (60 * x1 + v67_8)))))), (9, .int (iv ((wt (Int.toNat (60 * x1 + v43_6))) + (wt (Int.toNat (60 * x1 + v67_8)))))), (0, .ref y), (1, .int (iv x1)), (2, .int (iv (sz (Int.toNat x1)))), (3, .int (iv v9_3)), (4, .int (iv v30_4)), (6, .int (iv v43_6)), (7, .int (iv r9_31))]) dX12_square_138 rfl (iv_add _ _) (by decide) rfl ?_
                          refine r_goto (pc := 141) (tgt := 67) dX12_square_141 (by decide) ?_
                          refine Rn.pick (lv' := [(0, .ref y), (1, .int (iv x1)), (2, .int (iv (sz (Int.toNat x1)))), (3, .int (iv v9_3)), (4, .int (iv v30_4)), (5, .int (iv ((wt (Int.toNat (60 * x1 + v43_6))) + (wt (Int.toNat (60 * x1 + v67_8)))))), (6, .int (iv v43_6)), (7, .int (iv r9_31)), (8, .int (iv (v67_8 + 1)))]) [3, 4, 5, 6, 7, 1, 8, 9, 0] rfl ?_
                          exact ih67 (Int.toNat (60 - (v67_8 + 1))) (by omega) _ ht46 ((wt (Int.toNat (60 * x1 + v43_6))) + (wt (Int.toNat (60 * x1 + v67_8)))) (v67_8 + 1) ⟨by omega, by omega, by omega, by omega, by omega, by (first | exact sb_keep (by assumption) (fun e f q => by omega) (fun e f c q1 q2 q3 q4 => by exfalso; omega) | exact hnew (by omega) (by omega) | exact hold (by omega))⟩ (by omega)
                refine Rn.pick (lv' := [(0, .ref y), (1, .int (iv x1)), (2, .int (iv (sz (Int.toNat x1)))), (3, .int (iv v9_3)), (4, .int (iv v30_4)), (5, .int (iv v43_5)), (6, .int (iv v43_6)), (7, .int (iv r9_31)), (8, .int (iv 0))]) [2, 3, 4, 5, 6, 7, 8, 1, 0] rfl ?_
                exact B67 (Int.toNat (60 - 0)) _ ht30 v43_5 0 ⟨by omega, by omega, by omega, by omega, by omega, by (first | exact sb_keep (by assumption) (fun e f q => by omega) (fun e f c q1 q2 q3 q4 => by exfalso; omega) | exact hnew (by omega) (by omega) | exact hold (by omega))⟩ (by omega)
            refine Rn.pick (lv' := [(0, .ref y), (1, .int (iv x1)), (2, .int (iv (sz (Int.toNat x1)))), (3, .int (iv v9_3)), (4, .int (iv v30_4)), (5, .int (iv 99999)), (6, .int (iv 0))]) [2, 3, 4, 5, 6, 1, 0] rfl ?_
            exact B43 (Int.toNat (60 - 0)) _ ht30 99999 0 ⟨by omega, by omega, by omega, by omega, by omega, by (first | exact ⟨Or.inl rfl, fun e f c q => by omega⟩ | exact sb_keep (by assumption) (fun e f q => by omega) (fun e f c q1 q2 q3 q4 => by first | (exfalso; omega) | (have e1 : e = Int.toNat v43_6 := (by omega); subst e1; exact absurd q3 (hno1 _))))⟩ (by omega)
        refine Rn.pick (lv' := [(0, .ref y), (1, .int (iv x1)), (2, .int (iv (sz (Int.toNat x1)))), (3, .int (iv v9_3)), (4, .int (iv v9_3))]) [1, 2, 3, 4, 0] rfl ?_
        exact B30 (Int.toNat (16 - v9_3)) nm9 nf9 nt9 nw9 nc9 _ ht9 v9_3 ⟨by omega, by omega, by omega, by omega, by omega, by omega, by omega, by omega, by assumption, by (first | (rw [show acc ((sqR (Int.toNat (mn (Int.toNat x1))) (dr (Int.toNat x1)) (sh fr (60 * x1)) (sh tt (60 * x1)) (sh wt (60 * x1))) (Int.toNat v9_3)) (Int.toNat 0) = [] from rfl, List.append_nil]; assumption) | (rw [acc_nil (h := (sqR (Int.toNat (mn (Int.toNat x1))) (dr (Int.toNat x1)) (sh fr (60 * x1)) (sh tt (60 * x1)) (sh wt (60 * x1))) (Int.toNat v9_3)) (fun i hi => by unfold sqR; rw [if_pos (by omega)]), List.append_nil]; assumption) | exact PL_y (by assumption) (by omega) hrow | exact PL_n (by assumption) (by omega) (by unfold sqR; rw [if_neg (by omega), Int.toNat_of_nonneg (show (0 : Int) ≤ v9_3 by omega), Int.toNat_of_nonneg (show (0 : Int) ≤ v30_4 by omega)]; exact sqE_n hsqn))⟩ (by omega)
      · refine r_iconst (pc := 23) (v := iv 0) dX12_square_23 (by decide) ?_
        refine r_goto (pc := 24) (tgt := 28) dX12_square_24 (by decide) ?_
        refine r_istore (pc := 28) (lv' := [(4, .int (iv 0)), (0, .ref y), (1, .int (iv x1)), (2, .int (iv (sz (Int.toNat x1)))), (3, .int (iv v9_3))]) dX12_square_28 (by decide) rfl ?_
        have B30 : ∀ k : Nat, ∀ nm30 : Int, ∀ nf30 : Nat → Int, ∀ nt30 : Nat → Int, ∀ nw30 : Nat → Int, ∀ nc30 : Nat → Int, ∀ hp30 : MH, Tw (RX Γ cI cJ cZ y rf cn nm30 so sz dr mn fr tt wt co nu sa wo ln hw ro qi qc nf30 nt30 nw30 nc30 cl nx ie be sd bl bs wy ra rb lb bg os js ls sp jw go de yb ah im) hp30 → ∀  (v30_4 : Int), 0 ≤ v30_4 ∧ v30_4 ≤ 16 ∧ (0 ≤ nm30) ∧ (nm30 ≤ 400) ∧ (v30_4 ≤ (sz (Int.toNat x1))) ∧ (nm30 ≤ 16 * v9_3 + v30_4) ∧ ((dr (Int.toNat x1)) = 0 → v9_3 ≤ v30_4) ∧ (arP nf30 nt30 nw30 nc30 nm30 (sz (Int.toNat x1))) ∧ (PL (acc (sqL (Int.toNat (sz (Int.toNat x1))) (Int.toNat (mn (Int.toNat x1))) (dr (Int.toNat x1)) (sh fr (60 * x1)) (sh tt (60 * x1)) (sh wt (60 * x1))) (Int.toNat v9_3) ++ acc ((sqR (Int.toNat (mn (Int.toNat x1))) (dr (Int.toNat x1)) (sh fr (60 * x1)) (sh tt (60 * x1)) (sh wt (60 * x1))) (Int.toNat v9_3)) (Int.toNat v30_4)) nm30 nf30 nt30 nw30 nc30) → 16 - v30_4 ≤ (k : Int) → Rn (gG D cI cJ cZ cT lo b L xs) mX12_square d 30 [(0, .ref y), (1, .int (iv x1)), (2, .int (iv (sz (Int.toNat x1)))), (3, .int (iv v9_3)), (4, .int (iv v30_4))] [] hp30 n 0 0 Po9 := by
          refine lpS _ ?_
          intro k30 ih30 nm30 nf30 nt30 nw30 nc30 hp30 ht30 v30_4 hf30 hm30
          obtain ⟨hf30_0, hf30_1, hf30_2, hf30_3, hf30_4, hf30_5, hf30_6, ha30_7, ha30_8⟩ := hf30
          refine r_iload (pc := 30) dX12_square_30 rfl ?_
          refine r_iload_n (pc := 32) dX12_square_32 (i := 2) rfl rfl ?_
          refine t_icmp_ge (pc := 33) (tgt := 201) dX12_square_33 (by decide) (by omega) (by omega) (fun c33 => ?_) (fun c33 => ?_)
          · refine r_iinc (pc := 201) (v := iv (v9_3 + 1)) (lv' := [(3, .int (iv (v9_3 + 1))), (0, .ref y), (1, .int (iv x1)), (2, .int (iv (sz (Int.toNat x1)))), (4, .int (iv v30_4))]) dX12_square_201 rfl (iv_add _ _) (by decide) rfl ?_
            refine r_goto (pc := 204) (tgt := 9) dX12_square_204 (by decide) ?_
            refine Rn.pick (lv' := [(0, .ref y), (1, .int (iv x1)), (2, .int (iv (sz (Int.toNat x1)))), (3, .int (iv (v9_3 + 1)))]) [1, 2, 3, 0] rfl ?_
            exact ih9 (Int.toNat (16 - (v9_3 + 1))) (by omega) nm30 nf30 nt30 nw30 nc30 _ ht30 (v9_3 + 1) ⟨by omega, by omega, by omega, by omega, by omega, by omega, by assumption, by (first | (rw [List.nil_append] at hpl0; exact hpl0) | assumption | (have h8 : PL (acc (sqL (Int.toNat (sz (Int.toNat x1))) (Int.toNat (mn (Int.toNat x1))) (dr (Int.toNat x1)) (sh fr (60 * x1)) (sh tt (60 * x1)) (sh wt (60 * x1))) (Int.toNat v9_3) ++ acc ((sqR (Int.toNat (mn (Int.toNat x1))) (dr (Int.toNat x1)) (sh fr (60 * x1)) (sh tt (60 * x1)) (sh wt (60 * x1))) (Int.toNat v9_3)) (Int.toNat v30_4)) _ _ _ _ _ := (by assumption); rw [acc_up (by omega)]; have e9 : (sqL (Int.toNat (sz (Int.toNat x1))) (Int.toNat (mn (Int.toNat x1))) (dr (Int.toNat x1)) (sh fr (60 * x1)) (sh tt (60 * x1)) (sh wt (60 * x1))) (Int.toNat v9_3) = acc ((sqR (Int.toNat (mn (Int.toNat x1))) (dr (Int.toNat x1)) (sh fr (60 * x1)) (sh tt (60 * x1)) (sh wt (60 * x1))) (Int.toNat v9_3)) (Int.toNat v30_4) := (by show acc _ _ = _; rw [show v30_4 = (sz (Int.toNat x1)) by omega]); rw [e9]; exact h8))⟩ (by omega)
          · refine r_ldc (pc := 36) (v := iv 99999) dX12_square_36 kX12_204 ?_
            refine r_istore (pc := 38) (lv' := [(5, .int (iv 99999)), (0, .ref y), (1, .int (iv x1)), (2, .int (iv (sz (Int.toNat x1)))), (3, .int (iv v9_3)), (4, .int (iv v30_4))]) dX12_square_38 (by decide) rfl ?_
            refine r_iconst (pc := 40) (v := iv 0) dX12_square_40 (by decide) ?_
            refine r_istore (pc := 41) (lv' := [(6, .int (iv 0)), (5, .int (iv 99999)), (0, .ref y), (1, .int (iv x1)), (2, .int (iv (sz (Int.toNat x1)))), (3, .int (iv v9_3)), (4, .int (iv v30_4))]) dX12_square_41 (by decide) rfl ?_
            have B43 : ∀ k : Nat, ∀ hp43 : MH, Tw (RX Γ cI cJ cZ y rf cn nm30 so sz dr mn fr tt wt co nu sa wo ln hw ro qi qc nf30 nt30 nw30 nc30 cl nx ie be sd bl bs wy ra rb lb bg os js ls sp jw go de yb ah im) hp43 → ∀  (v43_5 : Int) (v43_6 : Int), (-2000) ≤ v43_5 ∧ v43_5 ≤ 99999 ∧ 0 ≤ v43_6 ∧ v43_6 ≤ 60 ∧ (v43_6 ≤ (mn (Int.toNat x1))) ∧ (sqB (dr (Int.toNat x1)) (sh fr (60 * x1)) (sh tt (60 * x1)) (sh wt (60 * x1)) v9_3 v30_4 v43_5 (fun e f => e < Int.toNat v43_6 ∧ f < (Int.toNat (mn (Int.toNat x1))))) → 60 - v43_6 ≤ (k : Int) → Rn (gG D cI cJ cZ cT lo b L xs) mX12_square d 43 [(0, .ref y), (1, .int (iv x1)), (2, .int (iv (sz (Int.toNat x1)))), (3, .int (iv v9_3)), (4, .int (iv v30_4)), (5, .int (iv v43_5)), (6, .int (iv v43_6))] [] hp43 n 0 0 Po9 := by
              refine lpS _ ?_
              intro k43 ih43 hp43 ht43 v43_5 v43_6 hf43 hm43
              obtain ⟨hf43_0, hf43_1, hf43_2, hf43_3, hf43_4, ha43_5⟩ := hf43
              refine r_iload (pc := 43) dX12_square_43 rfl ?_
              refine r_aload_n (pc := 45) dX12_square_45 (i := 0) rfl rfl ?_
              refine t_getE (pc := 46) (.ref (y + 4)) ht43 (rd_of RX_y) fX12_20 dX12_square_46 rfl ?_
              refine r_iload_n (pc := 49) dX12_square_49 (i := 1) rfl rfl ?_
              refine t_ialdX (pc := 50) (t0 := 0) ht43 (rd_of RX_many) dX12_square_50 rfl (by decide) (by omega) (fun b48 => ?_)
              have rb48 := (show Rfx 121 0 60 mn by assumption) (Int.toNat x1) (by omega)
              refine t_icmp_ge (pc := 51) (tgt := 150) dX12_square_51 (by decide) (by omega) (by omega) (fun c51 => ?_) (fun c51 => ?_)
              · refine r_iload (pc := 150) dX12_square_150 rfl ?_
                refine r_ldc (pc := 152) (v := iv 99999) dX12_square_152 kX12_204 ?_
                refine t_icmp_ge (pc := 154) (tgt := 195) dX12_square_154 (by decide) (by omega) (by omega) (fun c154 => ?_) (fun c154 => ?_)
                · have hsqn := sq_n (m := (Int.toNat (mn (Int.toNat x1)))) (show sqB (dr (Int.toNat x1)) (sh fr (60 * x1)) (sh tt (60 * x1)) (sh wt (60 * x1)) v9_3 v30_4 v43_5 (fun e f => e < Int.toNat v43_6 ∧ f < (Int.toNat (mn (Int.toNat x1)))) by assumption) (fun e f => by rw [show v43_6 = (mn (Int.toNat x1)) by omega]) hW9 (by omega)
                  refine r_iinc (pc := 195) (v := iv (v30_4 + 1)) (lv' := [(4, .int (iv (v30_4 + 1))), (0, .ref y), (1, .int (iv x1)), (2, .int (iv (sz (Int.toNat x1)))), (3, .int (iv v9_3)), (5, .int (iv v43_5)), (6, .int (iv v43_6))]) dX12_square_195 rfl (iv_add _ _) (by decide) rfl ?_
                  refine r_goto (pc := 198) (tgt := 30) dX12_square_198 (by decide) ?_
                  refine Rn.pick (lv' := [(0, .ref y), (1, .int (iv x1)), (2, .int (iv (sz (Int.toNat x1)))), (3, .int (iv v9_3)), (4, .int (iv (v30_4 + 1)))]) [1, 2, 3, 4, 0] rfl ?_
                  exact ih30 (Int.toNat (16 - (v30_4 + 1))) (by omega) nm30 nf30 nt30 nw30 nc30 _ ht43 (v30_4 + 1) ⟨by omega, by omega, by omega, by omega, by omega, by omega, by omega, by assumption, by (first | (rw [show acc ((sqR (Int.toNat (mn (Int.toNat x1))) (dr (Int.toNat x1)) (sh fr (60 * x1)) (sh tt (60 * x1)) (sh wt (60 * x1))) (Int.toNat v9_3)) (Int.toNat 0) = [] from rfl, List.append_nil]; assumption) | (rw [acc_nil (h := (sqR (Int.toNat (mn (Int.toNat x1))) (dr (Int.toNat x1)) (sh fr (60 * x1)) (sh tt (60 * x1)) (sh wt (60 * x1))) (Int.toNat v9_3)) (fun i hi => by unfold sqR; rw [if_pos (by omega)]), List.append_nil]; assumption) | exact PL_y (by assumption) (by omega) hrow | exact PL_n (by assumption) (by omega) (by unfold sqR; rw [if_neg (by omega), Int.toNat_of_nonneg (show (0 : Int) ≤ v9_3 by omega), Int.toNat_of_nonneg (show (0 : Int) ≤ v30_4 by omega)]; exact sqE_n hsqn))⟩ (by omega)
                · have hsqy := sq_y (m := (Int.toNat (mn (Int.toNat x1)))) (show sqB (dr (Int.toNat x1)) (sh fr (60 * x1)) (sh tt (60 * x1)) (sh wt (60 * x1)) v9_3 v30_4 v43_5 (fun e f => e < Int.toNat v43_6 ∧ f < (Int.toNat (mn (Int.toNat x1)))) by assumption) (fun e f => by rw [show v43_6 = (mn (Int.toNat x1)) by omega]) (by omega)
                  refine r_aload_n (pc := 157) dX12_square_157 (i := 0) rfl rfl ?_
                  refine r_iload_n (pc := 158) dX12_square_158 (i := 3) rfl rfl ?_
                  refine r_iload (pc := 159) dX12_square_159 rfl ?_
                  refine r_iload (pc := 161) dX12_square_161 rfl ?_
                  refine r_sipush (pc := 163) (v := iv (-1000)) dX12_square_163 (by decide) ?_
                  refine t_icmp_ge (pc := 166) (tgt := 175) dX12_square_166 (by decide) (by omega) (by omega) (fun c166 => ?_) (fun c166 => ?_)
                  · refine r_iload (pc := 175) dX12_square_175 rfl ?_
                    refine r_sipush (pc := 177) (v := iv 1000) dX12_square_177 (by decide) ?_
                    refine t_icmp_le (pc := 180) (tgt := 189) dX12_square_180 (by decide) (by omega) (by omega) (fun c180 => ?_) (fun c180 => ?_)
                    · refine r_iload (pc := 189) dX12_square_189 rfl ?_
                      refine r_iconst (pc := 191) (v := iv 0) dX12_square_191 (by decide) ?_
                      obtain ⟨fs53, hfs53⟩ := t_obj ht43 (rd_of RX_y)
                      refine r_callV (pc := 192) (as := [.int (iv v9_3), .int (iv v30_4), .int (iv v43_5), .int (iv 0)]) (st := []) kX12_171 rfl dX12_square_192 hfs53 (x_X12_put (d := d - 1) (x1 := v9_3) (x2 := v30_4) (x3 := v43_5) (x4 := 0) (by omega) (by omega) ht43 (by omega) (by omega) (by omega) (by omega) (by omega) (fun _ _ _ h => h)) rfl (by omega) (Nat.le_of_ble_eq_true rfl) (Nat.zero_le _) (Nat.zero_le _) rfl (fun r50 hp49 n51 hq52 => ?_)
                      obtain ⟨hnn51, ht54, hrr50⟩ := hq52
                      subst n51 r50
                      change Rn _ _ _ 195 _ [] _ _ _ _ _
                      have hrow : (sqR (Int.toNat (mn (Int.toNat x1))) (dr (Int.toNat x1)) (sh fr (60 * x1)) (sh tt (60 * x1)) (sh wt (60 * x1))) (Int.toNat v9_3) (Int.toNat v30_4) = [(v9_3, v30_4, v43_5, 0)] := by
                        unfold sqR
                        rw [if_neg (by omega), Int.toNat_of_nonneg (show (0 : Int) ≤ v9_3 by omega), Int.toNat_of_nonneg (show (0 : Int) ≤ v30_4 by omega), sqE_y hsqy]
                        unfold clW
                        (repeat' split) <;> first | rfl | (exfalso; omega)
                      have hapq55 : arP (fup nf30 (Int.toNat nm30) v9_3) (fup nt30 (Int.toNat nm30) v30_4) (fup nw30 (Int.toNat nm30) v43_5) (fup nc30 (Int.toNat nm30) 0) (nm30 + 1) (sz (Int.toNat x1)) := ar_up (by assumption) (by omega) (by omega) (by omega) (by omega) (by omega)
                      refine r_iinc (pc := 195) (v := iv (v30_4 + 1)) (lv' := [(4, .int (iv (v30_4 + 1))), (0, .ref y), (1, .int (iv x1)), (2, .int (iv (sz (Int.toNat x1)))), (3, .int (iv v9_3)), (5, .int (iv v43_5)), (6, .int (iv v43_6))]) dX12_square_195 rfl (iv_add _ _) (by decide) rfl ?_
                      refine r_goto (pc := 198) (tgt := 30) dX12_square_198 (by decide) ?_
                      refine Rn.pick (lv' := [(0, .ref y), (1, .int (iv x1)), (2, .int (iv (sz (Int.toNat x1)))), (3, .int (iv v9_3)), (4, .int (iv (v30_4 + 1)))]) [1, 2, 3, 4, 0] rfl ?_
                      exact ih30 (Int.toNat (16 - (v30_4 + 1))) (by omega) (nm30 + 1) (fup nf30 (Int.toNat nm30) v9_3) (fup nt30 (Int.toNat nm30) v30_4) (fup nw30 (Int.toNat nm30) v43_5) (fup nc30 (Int.toNat nm30) 0) _ ht54 (v30_4 + 1) ⟨by omega, by omega, by omega, by omega, by omega, by omega, by omega, by assumption, by (first | (rw [show acc ((sqR (Int.toNat (mn (Int.toNat x1))) (dr (Int.toNat x1)) (sh fr (60 * x1)) (sh tt (60 * x1)) (sh wt (60 * x1))) (Int.toNat v9_3)) (Int.toNat 0) = [] from rfl, List.append_nil]; assumption) | (rw [acc_nil (h := (sqR (Int.toNat (mn (Int.toNat x1))) (dr (Int.toNat x1)) (sh fr (60 * x1)) (sh tt (60 * x1)) (sh wt (60 * x1))) (Int.toNat v9_3)) (fun i hi => by unfold sqR; rw [if_pos (by omega)]), List.append_nil]; assumption) | exact PL_y (by assumption) (by omega) hrow | exact PL_n (by assumption) (by omega) (by unfold sqR; rw [if_neg (by omega), Int.toNat_of_nonneg (show (0 : Int) ≤ v9_3 by omega), Int.toNat_of_nonneg (show (0 : Int) ≤ v30_4 by omega)]; exact sqE_n hsqn))⟩ (by omega)
                    · refine r_sipush (pc := 183) (v := iv 1000) dX12_square_183 (by decide) ?_
                      refine r_goto (pc := 186) (tgt := 191) dX12_square_186 (by decide) ?_
                      refine r_iconst (pc := 191) (v := iv 0) dX12_square_191 (by decide) ?_
                      obtain ⟨fs60, hfs60⟩ := t_obj ht43 (rd_of RX_y)
                      refine r_callV (pc := 192) (as := [.int (iv v9_3), .int (iv v30_4), .int (iv 1000), .int (iv 0)]) (st := []) kX12_171 rfl dX12_square_192 hfs60 (x_X12_put (d := d - 1) (x1 := v9_3) (x2 := v30_4) (x3 := 1000) (x4 := 0) (by omega) (by omega) ht43 (by omega) (by omega) (by omega) (by omega) (by omega) (fun _ _ _ h => h)) rfl (by omega) (Nat.le_of_ble_eq_true rfl) (Nat.zero_le _) (Nat.zero_le _) rfl (fun r57 hp56 n58 hq59 => ?_)
                      obtain ⟨hnn58, ht61, hrr57⟩ := hq59
                      subst n58 r57
                      change Rn _ _ _ 195 _ [] _ _ _ _ _
                      have hrow : (sqR (Int.toNat (mn (Int.toNat x1))) (dr (Int.toNat x1)) (sh fr (60 * x1)) (sh tt (60 * x1)) (sh wt (60 * x1))) (Int.toNat v9_3) (Int.toNat v30_4) = [(v9_3, v30_4, 1000, 0)] := by
                        unfold sqR
                        rw [if_neg (by omega), Int.toNat_of_nonneg (show (0 : Int) ≤ v9_3 by omega), Int.toNat_of_nonneg (show (0 : Int) ≤ v30_4 by omega), sqE_y hsqy]
                        unfold clW
                        (repeat' split) <;> first | rfl | (exfalso; omega)
                      have hapq62 : arP (fup nf30 (Int.toNat nm30) v9_3) (fup nt30 (Int.toNat nm30) v30_4) (fup nw30 (Int.toNat nm30) 1000) (fup nc30 (Int.toNat nm30) 0) (nm30 + 1) (sz (Int.toNat x1)) := ar_up (by assumption) (by omega) (by omega) (by omega) (by omega) (by omega)
                      refine r_iinc (pc := 195) (v := iv (v30_4 + 1)) (lv' := [(4, .int (iv (v30_4 + 1))), (0, .ref y), (1, .int (iv x1)), (2, .int (iv (sz (Int.toNat x1)))), (3, .int (iv v9_3)), (5, .int (iv v43_5)), (6, .int (iv v43_6))]) dX12_square_195 rfl (iv_add _ _) (by decide) rfl ?_
                      refine r_goto (pc := 198) (tgt := 30) dX12_square_198 (by decide) ?_
                      refine Rn.pick (lv' := [(0, .ref y), (1, .int (iv x1)), (2, .int (iv (sz (Int.toNat x1)))), (3, .int (iv v9_3)), (4, .int (iv (v30_4 + 1)))]) [1, 2, 3, 4, 0] rfl ?_
                      exact ih30 (Int.toNat (16 - (v30_4 + 1))) (by omega) (nm30 + 1) (fup nf30 (Int.toNat nm30) v9_3) (fup nt30 (Int.toNat nm30) v30_4) (fup nw30 (Int.toNat nm30) 1000) (fup nc30 (Int.toNat nm30) 0) _ ht61 (v30_4 + 1) ⟨by omega, by omega, by omega, by omega, by omega, by omega, by omega, by assumption, by (first | (rw [show acc ((sqR (Int.toNat (mn (Int.toNat x1))) (dr (Int.toNat x1)) (sh fr (60 * x1)) (sh tt (60 * x1)) (sh wt (60 * x1))) (Int.toNat v9_3)) (Int.toNat 0) = [] from rfl, List.append_nil]; assumption) | (rw [acc_nil (h := (sqR (Int.toNat (mn (Int.toNat x1))) (dr (Int.toNat x1)) (sh fr (60 * x1)) (sh tt (60 * x1)) (sh wt (60 * x1))) (Int.toNat v9_3)) (fun i hi => by unfold sqR; rw [if_pos (by omega)]), List.append_nil]; assumption) | exact PL_y (by assumption) (by omega) hrow | exact PL_n (by assumption) (by omega) (by unfold sqR; rw [if_neg (by omega), Int.toNat_of_nonneg (show (0 : Int) ≤ v9_3 by omega), Int.toNat_of_nonneg (show (0 : Int) ≤ v30_4 by omega)]; exact sqE_n hsqn))⟩ (by omega)
                  · refine r_sipush (pc := 169) (v := iv (-1000)) dX12_square_169 (by decide) ?_
                    refine r_goto (pc := 172) (tgt := 191) dX12_square_172 (by decide) ?_
                    refine r_iconst (pc := 191) (v := iv 0) dX12_square_191 (by decide) ?_
                    obtain ⟨fs67, hfs67⟩ := t_obj ht43 (rd_of RX_y)
                    refine r_callV (pc := 192) (as := [.int (iv v9_3), .int (iv v30_4), .int (iv (-1000)), .int (iv 0)]) (st := []) kX12_171 rfl dX12_square_192 hfs67 (x_X12_put (d := d - 1) (x1 := v9_3) (x2 := v30_4) (x3 := (-1000)) (x4 := 0) (by omega) (by omega) ht43 (by omega) (by omega) (by omega) (by omega) (by omega) (fun _ _ _ h => h)) rfl (by omega) (Nat.le_of_ble_eq_true rfl) (Nat.zero_le _) (Nat.zero_le _) rfl (fun r64 hp63 n65 hq66 => ?_)
                    obtain ⟨hnn65, ht68, hrr64⟩ := hq66
                    subst n65 r64
                    change Rn _ _ _ 195 _ [] _ _ _ _ _
                    have hrow : (sqR (Int.toNat (mn (Int.toNat x1))) (dr (Int.toNat x1)) (sh fr (60 * x1)) (sh tt (60 * x1)) (sh wt (60 * x1))) (Int.toNat v9_3) (Int.toNat v30_4) = [(v9_3, v30_4, (-1000), 0)] := by
                      unfold sqR
                      rw [if_neg (by omega), Int.toNat_of_nonneg (show (0 : Int) ≤ v9_3 by omega), Int.toNat_of_nonneg (show (0 : Int) ≤ v30_4 by omega), sqE_y hsqy]
                      unfold clW
                      (repeat' split) <;> first | rfl | (exfalso; omega)
                    have hapq69 : arP (fup nf30 (Int.toNat nm30) v9_3) (fup nt30 (Int.toNat nm30) v30_4) (fup nw30 (Int.toNat nm30) (-1000)) (fup nc30 (Int.toNat nm30) 0) (nm30 + 1) (sz (Int.toNat x1)) := ar_up (by assumption) (by omega) (by omega) (by omega) (by omega) (by omega)
                    refine r_iinc (pc := 195) (v := iv (v30_4 + 1)) (lv' := [(4, .int (iv (v30_4 + 1))), (0, .ref y), (1, .int (iv x1)), (2, .int (iv (sz (Int.toNat x1)))), (3, .int (iv v9_3)), (5, .int (iv v43_5)), (6, .int (iv v43_6))]) dX12_square_195 rfl (iv_add _ _) (by decide) rfl ?_
                    refine r_goto (pc := 198) (tgt := 30) dX12_square_198 (by decide) ?_
                    refine Rn.pick (lv' := [(0, .ref y), (1, .int (iv x1)), (2, .int (iv (sz (Int.toNat x1)))), (3, .int (iv v9_3)), (4, .int (iv (v30_4 + 1)))]) [1, 2, 3, 4, 0] rfl ?_
                    exact ih30 (Int.toNat (16 - (v30_4 + 1))) (by omega) (nm30 + 1) (fup nf30 (Int.toNat nm30) v9_3) (fup nt30 (Int.toNat nm30) v30_4) (fup nw30 (Int.toNat nm30) (-1000)) (fup nc30 (Int.toNat nm30) 0) _ ht68 (v30_4 + 1) ⟨by omega, by omega, by omega, by omega, by omega, by omega, by omega, by assumption, by (first | (rw [show acc ((sqR (Int.toNat (mn (Int.toNat x1))) (dr (Int.toNat x1)) (sh fr (60 * x1)) (sh tt (60 * x1)) (sh wt (60 * x1))) (Int.toNat v9_3)) (Int.toNat 0) = [] from rfl, List.append_nil]; assumption) | (rw [acc_nil (h := (sqR (Int.toNat (mn (Int.toNat x1))) (dr (Int.toNat x1)) (sh fr (60 * x1)) (sh tt (60 * x1)) (sh wt (60 * x1))) (Int.toNat v9_3)) (fun i hi => by unfold sqR; rw [if_pos (by omega)]), List.append_nil]; assumption) | exact PL_y (by assumption) (by omega) hrow | exact PL_n (by assumption) (by omega) (by unfold sqR; rw [if_neg (by omega), Int.toNat_of_nonneg (show (0 : Int) ≤ v9_3 by omega), Int.toNat_of_nonneg (show (0 : Int) ≤ v30_4 by omega)]; exact sqE_n hsqn))⟩ (by omega)
              · refine r_aload_n (pc := 54) dX12_square_54 (i := 0) rfl rfl ?_
                refine r_iload_n (pc := 55) dX12_square_55 (i := 1) rfl rfl ?_
                refine r_iload (pc := 56) dX12_square_56 rfl ?_
                refine r_iload_n (pc := 58) dX12_square_58 (i := 3) rfl rfl ?_
                obtain ⟨fs74, hfs74⟩ := t_obj ht43 (rd_of RX_y)
                refine r_callV (pc := 59) (as := [.int (iv x1), .int (iv v43_6), .int (iv v9_3)]) (st := []) kX12_205 rfl dX12_square_59 hfs74 (x_X12_over (d := d - 1) (x1 := x1) (x2 := v43_6) (x3 := v9_3) (by omega) (by assumption) (by assumption) (by assumption) ht43 (by omega) (by omega) (by omega) (fun _ _ _ h => h)) rfl (by omega) (Nat.le_of_ble_eq_true rfl) (Nat.zero_le _) (Nat.zero_le _) rfl (fun r71 hp70 n72 hq73 => ?_)
                obtain ⟨hnn72, r9_76, ht75, hrr71, hhq730, hhq731⟩ := hq73
                subst n72 r71
                have hhq730 : r9_76 = inV tt fr dr x1 v43_6 v9_3 := hhq730
                have hhq731 : (-1) ≤ r9_76 ∧ r9_76 ≤ 15 := hhq731
                change Rn _ _ _ 62 _ [.int (iv r9_76)] _ _ _ _ _
                refine r_istore (pc := 62) (lv' := [(7, .int (iv r9_76)), (0, .ref y), (1, .int (iv x1)), (2, .int (iv (sz (Int.toNat x1)))), (3, .int (iv v9_3)), (4, .int (iv v30_4)), (5, .int (iv v43_5)), (6, .int (iv v43_6))]) dX12_square_62 (by decide) rfl ?_
                refine r_iconst (pc := 64) (v := iv 0) dX12_square_64 (by decide) ?_
                refine r_istore (pc := 65) (lv' := [(8, .int (iv 0)), (7, .int (iv r9_76)), (0, .ref y), (1, .int (iv x1)), (2, .int (iv (sz (Int.toNat x1)))), (3, .int (iv v9_3)), (4, .int (iv v30_4)), (5, .int (iv v43_5)), (6, .int (iv v43_6))]) dX12_square_65 (by decide) rfl ?_
                have B67 : ∀ k : Nat, ∀ hp67 : MH, Tw (RX Γ cI cJ cZ y rf cn nm30 so sz dr mn fr tt wt co nu sa wo ln hw ro qi qc nf30 nt30 nw30 nc30 cl nx ie be sd bl bs wy ra rb lb bg os js ls sp jw go de yb ah im) hp67 → ∀  (v67_5 : Int) (v67_8 : Int), (-2000) ≤ v67_5 ∧ v67_5 ≤ 99999 ∧ 0 ≤ v67_8 ∧ v67_8 ≤ 60 ∧ (v67_8 ≤ (mn (Int.toNat x1))) ∧ (sqB (dr (Int.toNat x1)) (sh fr (60 * x1)) (sh tt (60 * x1)) (sh wt (60 * x1)) v9_3 v30_4 v67_5 (fun e f => e < Int.toNat v43_6 ∧ f < (Int.toNat (mn (Int.toNat x1))) ∨ e = Int.toNat v43_6 ∧ f < Int.toNat v67_8)) → 60 - v67_8 ≤ (k : Int) → Rn (gG D cI cJ cZ cT lo b L xs) mX12_square d 67 [(0, .ref y), (1, .int (iv x1)), (2, .int (iv (sz (Int.toNat x1)))), (3, .int (iv v9_3)), (4, .int (iv v30_4)), (5, .int (iv v67_5)), (6, .int (iv v43_6)), (7, .int (iv r9_76)), (8, .int (iv v67_8))] [] hp67 n 0 0 Po9 := by
                  refine lpS _ ?_
                  intro k67 ih67 hp67 ht67 v67_5 v67_8 hf67 hm67
                  obtain ⟨hf67_0, hf67_1, hf67_2, hf67_3, hf67_4, ha67_5⟩ := hf67
                  refine r_iload (pc := 67) dX12_square_67 rfl ?_
                  refine r_aload_n (pc := 69) dX12_square_69 (i := 0) rfl rfl ?_
                  refine t_getE (pc := 70) (.ref (y + 4)) ht67 (rd_of RX_y) fX12_20 dX12_square_70 rfl ?_
                  refine r_iload_n (pc := 73) dX12_square_73 (i := 1) rfl rfl ?_
                  refine t_ialdX (pc := 74) (t0 := 0) ht67 (rd_of RX_many) dX12_square_74 rfl (by decide) (by omega) (fun b77 => ?_)
                  have rb77 := (show Rfx 121 0 60 mn by assumption) (Int.toNat x1) (by omega)
                  refine t_icmp_ge (pc := 75) (tgt := 144) dX12_square_75 (by decide) (by omega) (by omega) (fun c75 => ?_) (fun c75 => ?_)
                  · refine r_iinc (pc := 144) (v := iv (v43_6 + 1)) (lv' := [(6, .int (iv (v43_6 + 1))), (0, .ref y), (1, .int (iv x1)), (2, .int (iv (sz (Int.toNat x1)))), (3, .int (iv v9_3)), (4, .int (iv v30_4)), (5, .int (iv v67_5)), (7, .int (iv r9_76)), (8, .int (iv v67_8))]) dX12_square_144 rfl (iv_add _ _) (by decide) rfl ?_
                    refine r_goto (pc := 147) (tgt := 43) dX12_square_147 (by decide) ?_
                    refine Rn.pick (lv' := [(0, .ref y), (1, .int (iv x1)), (2, .int (iv (sz (Int.toNat x1)))), (3, .int (iv v9_3)), (4, .int (iv v30_4)), (5, .int (iv v67_5)), (6, .int (iv (v43_6 + 1)))]) [1, 2, 3, 4, 5, 6, 0] rfl ?_
                    exact ih43 (Int.toNat (60 - (v43_6 + 1))) (by omega) _ ht67 v67_5 (v43_6 + 1) ⟨by omega, by omega, by omega, by omega, by omega, by (first | exact ⟨Or.inl rfl, fun e f c q => by omega⟩ | exact sb_keep (by assumption) (fun e f q => by omega) (fun e f c q1 q2 q3 q4 => by first | (exfalso; omega) | (have e1 : e = Int.toNat v43_6 := (by omega); subst e1; exact absurd q3 (hno1 _))))⟩ (by omega)
                  · refine r_iload (pc := 78) dX12_square_78 rfl ?_
                    refine t_if_lt (pc := 80) (tgt := 144) dX12_square_80 (by decide) (by omega) (fun c80 => ?_) (fun c80 => ?_)
                    · have hno1 := inV_no hhq730 (by omega) (by omega) (by have := hFT (Int.toNat v43_6) (by omega); omega) (by have := hFT (Int.toNat v43_6) (by omega); omega)
                      refine r_iinc (pc := 144) (v := iv (v43_6 + 1)) (lv' := [(6, .int (iv (v43_6 + 1))), (0, .ref y), (1, .int (iv x1)), (2, .int (iv (sz (Int.toNat x1)))), (3, .int (iv v9_3)), (4, .int (iv v30_4)), (5, .int (iv v67_5)), (7, .int (iv r9_76)), (8, .int (iv v67_8))]) dX12_square_144 rfl (iv_add _ _) (by decide) rfl ?_
                      refine r_goto (pc := 147) (tgt := 43) dX12_square_147 (by decide) ?_
                      refine Rn.pick (lv' := [(0, .ref y), (1, .int (iv x1)), (2, .int (iv (sz (Int.toNat x1)))), (3, .int (iv v9_3)), (4, .int (iv v30_4)), (5, .int (iv v67_5)), (6, .int (iv (v43_6 + 1)))]) [1, 2, 3, 4, 5, 6, 0] rfl ?_
                      exact ih43 (Int.toNat (60 - (v43_6 + 1))) (by omega) _ ht67 v67_5 (v43_6 + 1) ⟨by omega, by omega, by omega, by omega, by omega, by (first | exact ⟨Or.inl rfl, fun e f c q => by omega⟩ | exact sb_keep (by assumption) (fun e f q => by omega) (fun e f c q1 q2 q3 q4 => by first | (exfalso; omega) | (have e1 : e = Int.toNat v43_6 := (by omega); subst e1; exact absurd q3 (hno1 _))))⟩ (by omega)
                    · have hgo1 := inV_go hhq730 (by omega) (by omega)
                      refine r_aload_n (pc := 83) dX12_square_83 (i := 0) rfl rfl ?_
                      refine t_getE (pc := 84) (.ref (y + 7)) ht67 (rd_of RX_y) fX12_29 dX12_square_84 rfl ?_
                      refine r_iload_n (pc := 87) dX12_square_87 (i := 1) rfl rfl ?_
                      refine r_iload (pc := 88) dX12_square_88 rfl ?_
                      refine t_callSI (pc := 90) (as := [.int (iv x1), .int (iv v43_6)]) (st := [.ref (y + 7)]) kX12_157 dX12_square_90 (t_X12_at1x (d := d - 1) (x1 := x1) (x2 := v43_6) (by omega)  ht67 (by omega) (by omega)) rfl (by omega) (Nat.le_of_ble_eq_true rfl) rfl (fun hp78 y80 ht79 by80 => ?_)
                      have ey80 : y80 = 60 * x1 + v43_6 := by80
                      subst ey80
                      refine t_ialdX (pc := 93) (t0 := 0) ht79 (rd_of RX_weight) dX12_square_93 rfl (by decide) (by omega) (fun b81 => ?_)
                      have rb81 := (show Rfx 7260 (-1000) 1000 wt by assumption) (Int.toNat (60 * x1 + v43_6)) (by omega)
                      refine r_aload_n (pc := 94) dX12_square_94 (i := 0) rfl rfl ?_
                      refine t_getE (pc := 95) (.ref (y + 7)) ht79 (rd_of RX_y) fX12_29 dX12_square_95 rfl ?_
                      refine r_iload_n (pc := 98) dX12_square_98 (i := 1) rfl rfl ?_
                      refine r_iload (pc := 99) dX12_square_99 rfl ?_
                      refine t_callSI (pc := 101) (as := [.int (iv x1), .int (iv v67_8)]) (st := [.ref (y + 7), .int (iv (wt (Int.toNat (60 * x1 + v43_6))))]) kX12_157 dX12_square_101 (t_X12_at1x (d := d - 1) (x1 := x1) (x2 := v67_8) (by omega)  ht79 (by omega) (by omega)) rfl (by omega) (Nat.le_of_ble_eq_true rfl) rfl (fun hp82 y84 ht83 by84 => ?_)
                      have ey84 : y84 = 60 * x1 + v67_8 := by84
                      subst ey84
                      refine t_ialdX (pc := 104) (t0 := 0) ht83 (rd_of RX_weight) dX12_square_104 rfl (by decide) (by omega) (fun b85 => ?_)
                      have rb85 := (show Rfx 7260 (-1000) 1000 wt by assumption) (Int.toNat (60 * x1 + v67_8)) (by omega)
                      refine r_iadd (pc := 105) (v := iv ((wt (Int.toNat (60 * x1 + v43_6))) + (wt (Int.toNat (60 * x1 + v67_8))))) dX12_square_105 (iv_add _ _) ?_
                      refine r_istore (pc := 106) (lv' := [(9, .int (iv ((wt (Int.toNat (60 * x1 + v43_6))) + (wt (Int.toNat (60 * x1 + v67_8)))))), (0, .ref y), (1, .int (iv x1)), (2, .int (iv (sz (Int.toNat x1)))), (3, .int (iv v9_3)), (4, .int (iv v30_4)), (5, .int (iv v67_5)), (6, .int (iv v43_6)), (7, .int (iv r9_76)), (8, .int (iv v67_8))]) dX12_square_106 (by decide) rfl ?_
                      refine r_aload_n (pc := 108) dX12_square_108 (i := 0) rfl rfl ?_
                      refine r_iload_n (pc := 109) dX12_square_109 (i := 1) rfl rfl ?_
                      refine r_iload (pc := 110) dX12_square_110 rfl ?_
                      refine r_iload (pc := 112) dX12_square_112 rfl ?_
                      obtain ⟨fs90, hfs90⟩ := t_obj ht83 (rd_of RX_y)
                      refine r_callV (pc := 114) (as := [.int (iv x1), .int (iv v67_8), .int (iv r9_76)]) (st := []) kX12_205 rfl dX12_square_114 hfs90 (x_X12_over (d := d - 1) (x1 := x1) (x2 := v67_8) (x3 := r9_76) (by omega) (by assumption) (by assumption) (by assumption) ht83 (by omega) (by omega) (by omega) (fun _ _ _ h => h)) rfl (by omega) (Nat.le_of_ble_eq_true rfl) (Nat.zero_le _) (Nat.zero_le _) rfl (fun r87 hp86 n88 hq89 => ?_)
                      obtain ⟨hnn88, r9_92, ht91, hrr87, hhq890, hhq891⟩ := hq89
                      subst n88 r87
                      have hhq890 : r9_92 = inV tt fr dr x1 v67_8 r9_76 := hhq890
                      have hhq891 : (-1) ≤ r9_92 ∧ r9_92 ≤ 15 := hhq891
                      change Rn _ _ _ 117 _ [.int (iv r9_92)] _ _ _ _ _
                      have hgo2 : 0 ≤ r9_92 → goP (dr (Int.toNat x1)) (sh fr (60 * x1)) (sh tt (60 * x1)) (Int.toNat v67_8) r9_76 r9_92 := fun h9 => inV_go hhq890 (by omega) h9
                      have hno2 : r9_92 < 0 → ∀ c, ¬ goP (dr (Int.toNat x1)) (sh fr (60 * x1)) (sh tt (60 * x1)) (Int.toNat v67_8) r9_76 c := fun h9 => inV_no hhq890 (by omega) h9 (by have := hFT (Int.toNat v67_8) (by omega); omega) (by have := hFT (Int.toNat v67_8) (by omega); omega)
                      have hwsum : wt (Int.toNat (60 * x1 + v43_6)) + wt (Int.toNat (60 * x1 + v67_8)) = (sh wt (60 * x1)) (Int.toNat v43_6) + (sh wt (60 * x1)) (Int.toNat v67_8) := by rw [sh_at wt (60 * x1) (v := v43_6) (by omega), sh_at wt (60 * x1) (v := v67_8) (by omega)]
                      have hold : (¬ (r9_92 = v30_4 ∧ wt (Int.toNat (60 * x1 + v43_6)) + wt (Int.toNat (60 * x1 + v67_8)) < v67_5)) → sqB (dr (Int.toNat x1)) (sh fr (60 * x1)) (sh tt (60 * x1)) (sh wt (60 * x1)) v9_3 v30_4 v67_5 (fun e f => e < Int.toNat v43_6 ∧ f < (Int.toNat (mn (Int.toNat x1))) ∨ e = Int.toNat v43_6 ∧ f < Int.toNat (v67_8 + 1)) := fun h7 => sb_keep (by assumption) (fun e f q => by omega) (fun e f c q1 q2 q3 q4 => by
                        have e1 : e = Int.toNat v43_6 := by omega
                        have e2 : f = Int.toNat v67_8 := by omega
                        subst e1; subst e2
                        have e3 := go_u q3 hgo1
                        subst e3
                        rcases Int.lt_or_le r9_92 0 with g | g
                        · exact absurd q4 (hno2 g _)
                        · have e4 := go_u q4 (hgo2 g)
                          omega)
                      have hnew : r9_92 = v30_4 → wt (Int.toNat (60 * x1 + v43_6)) + wt (Int.toNat (60 * x1 + v67_8)) < v67_5 → sqB (dr (Int.toNat x1)) (sh fr (60 * x1)) (sh tt (60 * x1)) (sh wt (60 * x1)) v9_3 v30_4 (wt (Int.toNat (60 * x1 + v43_6)) + wt (Int.toNat (60 * x1 + v67_8))) (fun e f => e < Int.toNat v43_6 ∧ f < (Int.toNat (mn (Int.toNat x1))) ∨ e = Int.toNat v43_6 ∧ f < Int.toNat (v67_8 + 1)) := fun h6 h7 => sb_new (e0 := Int.toNat v43_6) (f0 := Int.toNat v67_8) (c0 := r9_76) (by assumption) (by omega) hgo1 (by have h5 := hgo2 (by omega); rw [h6] at h5; exact h5) (by omega) h7 (fun e f q => by omega)
                      refine r_iload (pc := 117) dX12_square_117 rfl ?_
                      refine t_icmp_ne (pc := 119) (tgt := 134) dX12_square_119 (by decide) (by omega) (by omega) (fun c119 => ?_) (fun c119 => ?_)
                      · refine r_iload (pc := 134) dX12_square_134 rfl ?_
                        refine r_istore (pc := 136) (lv' := [(5, .int (iv v67_5)), (9, .int (iv ((wt (Int.toNat (60 * x1 + v43_6))) + (wt (Int.toNat (60 * x1 + v67_8)))))), (0, .ref y), (1, .int (iv x1)), (2, .int (iv (sz (Int.toNat x1)))), (3, .int (iv v9_3)), (4, .int (iv v30_4)), (6, .int (iv v43_6)), (7, .int (iv r9_76)), (8, .int (iv v67_8))]) dX12_square_136 (by decide) rfl ?_
                        refine r_iinc (pc := 138) (v := iv (v67_8 + 1)) (lv' := [(8, .int (iv (v67_8 + 1))), (5, .int (iv v67_5)), (9, .int (iv ((wt (Int.toNat (60 * x1 + v43_6))) + (wt (Int.toNat (60 * x1 + v67_8)))))), (0, .ref y), (1, .int (iv x1)), (2, .int (iv (sz (Int.toNat x1)))), (3, .int (iv v9_3)), (4, .int (iv v30_4)), (6, .int (iv v43_6)), (7, .int (iv r9_76))]) dX12_square_138 rfl (iv_add _ _) (by decide) rfl ?_
                        refine r_goto (pc := 141) (tgt := 67) dX12_square_141 (by decide) ?_
                        refine Rn.pick (lv' := [(0, .ref y), (1, .int (iv x1)), (2, .int (iv (sz (Int.toNat x1)))), (3, .int (iv v9_3)), (4, .int (iv v30_4)), (5, .int (iv v67_5)), (6, .int (iv v43_6)), (7, .int (iv r9_76)), (8, .int (iv (v67_8 + 1)))]) [3, 4, 5, 6, 7, 1, 8, 9, 0] rfl ?_
                        exact ih67 (Int.toNat (60 - (v67_8 + 1))) (by omega) _ ht91 v67_5 (v67_8 + 1) ⟨by omega, by omega, by omega, by omega, by omega, by (first | exact sb_keep (by assumption) (fun e f q => by omega) (fun e f c q1 q2 q3 q4 => by exfalso; omega) | exact hnew (by omega) (by omega) | exact hold (by omega))⟩ (by omega)
                      · refine r_iload (pc := 122) dX12_square_122 rfl ?_
                        refine r_iload (pc := 124) dX12_square_124 rfl ?_
                        refine t_icmp_ge (pc := 126) (tgt := 134) dX12_square_126 (by decide) (by omega) (by omega) (fun c126 => ?_) (fun c126 => ?_)
                        · refine r_iload (pc := 134) dX12_square_134 rfl ?_
                          refine r_istore (pc := 136) (lv' := [(5, .int (iv v67_5)), (9, .int (iv ((wt (Int.toNat (60 * x1 + v43_6))) + (wt (Int.toNat (60 * x1 + v67_8)))))), (0, .ref y), (1, .int (iv x1)), (2, .int (iv (sz (Int.toNat x1)))), (3, .int (iv v9_3)), (4, .int (iv v30_4)), (6, .int (iv v43_6)), (7, .int (iv r9_76)), (8, .int (iv v67_8))]) dX12_square_136 (by decide) rfl ?_
                          refine r_iinc (pc := 138) (v := iv (v67_8 + 1)) (lv' := [(8, .int (iv (v67_8 + 1))), (5, .int (iv v67_5)), (9, .int (iv ((wt (Int.toNat (60 * x1 + v43_6))) + (wt (Int.toNat (60 * x1 + v67_8)))))), (0, .ref y), (1, .int (iv x1)), (2, .int (iv (sz (Int.toNat x1)))), (3, .int (iv v9_3)), (4, .int (iv v30_4)), (6, .int (iv v43_6)), (7, .int (iv r9_76))]) dX12_square_138 rfl (iv_add _ _) (by decide) rfl ?_
                          refine r_goto (pc := 141) (tgt := 67) dX12_square_141 (by decide) ?_
                          refine Rn.pick (lv' := [(0, .ref y), (1, .int (iv x1)), (2, .int (iv (sz (Int.toNat x1)))), (3, .int (iv v9_3)), (4, .int (iv v30_4)), (5, .int (iv v67_5)), (6, .int (iv v43_6)), (7, .int (iv r9_76)), (8, .int (iv (v67_8 + 1)))]) [3, 4, 5, 6, 7, 1, 8, 9, 0] rfl ?_
                          exact ih67 (Int.toNat (60 - (v67_8 + 1))) (by omega) _ ht91 v67_5 (v67_8 + 1) ⟨by omega, by omega, by omega, by omega, by omega, by (first | exact sb_keep (by assumption) (fun e f q => by omega) (fun e f c q1 q2 q3 q4 => by exfalso; omega) | exact hnew (by omega) (by omega) | exact hold (by omega))⟩ (by omega)
                        · refine r_iload (pc := 129) dX12_square_129 rfl ?_
                          refine r_goto (pc := 131) (tgt := 136) dX12_square_131 (by decide) ?_
                          refine r_istore (pc := 136) (lv' := [(5, .int (iv ((wt (Int.toNat (60 * x1 + v43_6))) + (wt (Int.toNat (60 * x1 + v67_8)))))), (9, .int (iv ((wt (Int.toNat (60 * x1 + v43_6))) + (wt (Int.toNat (60 * x1 + v67_8)))))), (0, .ref y), (1, .int (iv x1)), (2, .int (iv (sz (Int.toNat x1)))), (3, .int (iv v9_3)), (4, .int (iv v30_4)), (6, .int (iv v43_6)), (7, .int (iv r9_76)), (8, .int (iv v67_8))]) dX12_square_136 (by decide) rfl ?_
                          refine r_iinc (pc := 138) (v := iv (v67_8 + 1)) (lv' := [(8, .int (iv (v67_8 + 1))), (5, .int (iv ((wt (Int.toNat (60 * x1 + v43_6))) + (wt (Int.toNat (60 * x1 + v67_8)))))), (9, .int (iv ((wt (Int.toNat (60 * x1 + v43_6))) + (wt (Int.toNat (60 * x1 + v67_8)))))), (0, .ref y), (1, .int (iv x1)), (2, .int (iv (sz (Int.toNat x1)))), (3, .int (iv v9_3)), (4, .int (iv v30_4)), (6, .int (iv v43_6)), (7, .int (iv r9_76))]) dX12_square_138 rfl (iv_add _ _) (by decide) rfl ?_
                          refine r_goto (pc := 141) (tgt := 67) dX12_square_141 (by decide) ?_
                          refine Rn.pick (lv' := [(0, .ref y), (1, .int (iv x1)), (2, .int (iv (sz (Int.toNat x1)))), (3, .int (iv v9_3)), (4, .int (iv v30_4)), (5, .int (iv ((wt (Int.toNat (60 * x1 + v43_6))) + (wt (Int.toNat (60 * x1 + v67_8)))))), (6, .int (iv v43_6)), (7, .int (iv r9_76)), (8, .int (iv (v67_8 + 1)))]) [3, 4, 5, 6, 7, 1, 8, 9, 0] rfl ?_
                          exact ih67 (Int.toNat (60 - (v67_8 + 1))) (by omega) _ ht91 ((wt (Int.toNat (60 * x1 + v43_6))) + (wt (Int.toNat (60 * x1 + v67_8)))) (v67_8 + 1) ⟨by omega, by omega, by omega, by omega, by omega, by (first | exact sb_keep (by assumption) (fun e f q => by omega) (fun e f c q1 q2 q3 q4 => by exfalso; omega) | exact hnew (by omega) (by omega) | exact hold (by omega))⟩ (by omega)
                refine Rn.pick (lv' := [(0, .ref y), (1, .int (iv x1)), (2, .int (iv (sz (Int.toNat x1)))), (3, .int (iv v9_3)), (4, .int (iv v30_4)), (5, .int (iv v43_5)), (6, .int (iv v43_6)), (7, .int (iv r9_76)), (8, .int (iv 0))]) [2, 3, 4, 5, 6, 7, 8, 1, 0] rfl ?_
                exact B67 (Int.toNat (60 - 0)) _ ht75 v43_5 0 ⟨by omega, by omega, by omega, by omega, by omega, by (first | exact sb_keep (by assumption) (fun e f q => by omega) (fun e f c q1 q2 q3 q4 => by exfalso; omega) | exact hnew (by omega) (by omega) | exact hold (by omega))⟩ (by omega)
            refine Rn.pick (lv' := [(0, .ref y), (1, .int (iv x1)), (2, .int (iv (sz (Int.toNat x1)))), (3, .int (iv v9_3)), (4, .int (iv v30_4)), (5, .int (iv 99999)), (6, .int (iv 0))]) [2, 3, 4, 5, 6, 1, 0] rfl ?_
            exact B43 (Int.toNat (60 - 0)) _ ht30 99999 0 ⟨by omega, by omega, by omega, by omega, by omega, by (first | exact ⟨Or.inl rfl, fun e f c q => by omega⟩ | exact sb_keep (by assumption) (fun e f q => by omega) (fun e f c q1 q2 q3 q4 => by first | (exfalso; omega) | (have e1 : e = Int.toNat v43_6 := (by omega); subst e1; exact absurd q3 (hno1 _))))⟩ (by omega)
        refine Rn.pick (lv' := [(0, .ref y), (1, .int (iv x1)), (2, .int (iv (sz (Int.toNat x1)))), (3, .int (iv v9_3)), (4, .int (iv 0))]) [1, 2, 3, 4, 0] rfl ?_
        exact B30 (Int.toNat (16 - 0)) nm9 nf9 nt9 nw9 nc9 _ ht9 0 ⟨by omega, by omega, by omega, by omega, by omega, by omega, by omega, by assumption, by (first | (rw [show acc ((sqR (Int.toNat (mn (Int.toNat x1))) (dr (Int.toNat x1)) (sh fr (60 * x1)) (sh tt (60 * x1)) (sh wt (60 * x1))) (Int.toNat v9_3)) (Int.toNat 0) = [] from rfl, List.append_nil]; assumption) | (rw [acc_nil (h := (sqR (Int.toNat (mn (Int.toNat x1))) (dr (Int.toNat x1)) (sh fr (60 * x1)) (sh tt (60 * x1)) (sh wt (60 * x1))) (Int.toNat v9_3)) (fun i hi => by unfold sqR; rw [if_pos (by omega)]), List.append_nil]; assumption) | exact PL_y (by assumption) (by omega) hrow | exact PL_n (by assumption) (by omega) (by unfold sqR; rw [if_neg (by omega), Int.toNat_of_nonneg (show (0 : Int) ≤ v9_3 by omega), Int.toNat_of_nonneg (show (0 : Int) ≤ v30_4 by omega)]; exact sqE_n hsqn))⟩ (by omega)
  refine Rn.pick (lv' := [(0, .ref y), (1, .int (iv x1)), (2, .int (iv (sz (Int.toNat x1)))), (3, .int (iv 0))]) [2, 3, 1, 0] rfl ?_
  exact B9 (Int.toNat (16 - 0)) nm nf nt nw nc _ ht 0 ⟨by omega, by omega, by omega, by omega, by omega, by omega, by assumption, by (first | (rw [List.nil_append] at hpl0; exact hpl0) | assumption | (have h8 : PL (acc (sqL (Int.toNat (sz (Int.toNat x1))) (Int.toNat (mn (Int.toNat x1))) (dr (Int.toNat x1)) (sh fr (60 * x1)) (sh tt (60 * x1)) (sh wt (60 * x1))) (Int.toNat v9_3) ++ acc ((sqR (Int.toNat (mn (Int.toNat x1))) (dr (Int.toNat x1)) (sh fr (60 * x1)) (sh tt (60 * x1)) (sh wt (60 * x1))) (Int.toNat v9_3)) (Int.toNat v30_4)) _ _ _ _ _ := (by assumption); rw [acc_up (by omega)]; have e9 : (sqL (Int.toNat (sz (Int.toNat x1))) (Int.toNat (mn (Int.toNat x1))) (dr (Int.toNat x1)) (sh fr (60 * x1)) (sh tt (60 * x1)) (sh wt (60 * x1))) (Int.toNat v9_3) = acc ((sqR (Int.toNat (mn (Int.toNat x1))) (dr (Int.toNat x1)) (sh fr (60 * x1)) (sh tt (60 * x1)) (sh wt (60 * x1))) (Int.toNat v9_3)) (Int.toNat v30_4) := (by show acc _ _ = _; rw [show v30_4 = (sz (Int.toNat x1)) by omega]); rw [e9]; exact h8))⟩ (by omega)
set_option maxHeartbeats 4000000 in
set_option maxRecDepth 100000 in
theorem x_X12_line {D : va_G} {cI cJ cZ cT : ClassId} {lo b L : Nat} {xs : Nat → Int32} {hp : MH} {n d : Nat} {Γ : TG} {y : Nat} {rf cn nm : Int} {so sz dr mn fr tt wt co : Nat → Int} {nu : Nat → Int64} {sa : Nat → Int} {wo : Nat → Int64} {ln : Nat → Int} {hw : Nat → Int64} {ro qi qc nf nt nw nc : Nat → Int} {cl nx : Nat → Int64} {ie be sd bl : Nat → Int} {bs wy ra rb : Nat → Int64} {lb bg os js ls : Nat → Int} {sp : Nat → Int64} {jw go : Nat → Int} {de : Nat → Int64} {yb ah im : Nat → Int} {x1 : Int} {Po9 : Option Value → MH → Nat → Prop} (hd0 : 1 ≤ d) (hR_directs : Rfx 121 0 1 dr) (hR_many : Rfx 121 0 60 mn) (hR_from : Rfx 7260 0 15 fr) (hR_to : Rfx 7260 0 15 tt) (hnm : 0 ≤ nm ∧ nm ≤ 400) (ht : Tw (RX Γ cI cJ cZ y rf cn nm so sz dr mn fr tt wt co nu sa wo ln hw ro qi qc nf nt nw nc cl nx ie be sd bl bs wy ra rb lb bg os js ls sp jw go de yb ah im) hp) (hx1 : 0 ≤ x1 ∧ x1 ≤ 120) (hz9 : nm = 0) (hm9 : (mn (Int.toNat x1)) ≤ 16) (hPo : ∀ r hp1 n1, (n1 = n ∧ ∃ (nf1 : Nat → Int) (nt1 : Nat → Int) (nw1 : Nat → Int) (nc1 : Nat → Int) (m1 : Int), Tw (RX Γ cI cJ cZ y rf cn m1 so sz dr mn fr tt wt co nu sa wo ln hw ro qi qc nf1 nt1 nw1 nc1 cl nx ie be sd bl bs wy ra rb lb bg os js ls sp jw go de yb ah im) hp1 ∧ r = none ∧ (0 ≤ m1 ∧ m1 ≤ 256) ∧ (arP nf1 nt1 nw1 nc1 m1 (mn (Int.toNat x1))) ∧ (PL (acc (lnL (Int.toNat (mn (Int.toNat x1))) (dr (Int.toNat x1)) (sh fr (60 * x1)) (sh tt (60 * x1))) (Int.toNat (mn (Int.toNat x1)))) m1 nf1 nt1 nw1 nc1)) → Po9 r hp1 n1) : Mt (gG D cI cJ cZ cT lo b L xs) mX12_line d 0 0 [.ref y, .int (iv x1)] hp n Po9 := by
  refine Mt.of rfl (Nat.le_of_ble_eq_true rfl) ?_
  refine Rn.pick (lv' := [(0, .ref y), (1, .int (iv x1))]) [0, 1] rfl ?_
  have rmn := hR_many (Int.toNat x1) (by omega)
  have rdr := hR_directs (Int.toNat x1) (by omega)
  have ha0 : arP nf nt nw nc nm (mn (Int.toNat x1)) := by rw [hz9]; exact ar_0 _ _ _ _ _
  have hpl0 : PL (acc (lnL (Int.toNat (mn (Int.toNat x1))) (dr (Int.toNat x1)) (sh fr (60 * x1)) (sh tt (60 * x1))) (Int.toNat 0)) nm nf nt nw nc := by rw [hz9]; exact PL_0 _ _ _ _
  refine r_iconst (pc := 0) (v := iv 0) dX12_line_0 (by decide) ?_
  refine r_istore_n (pc := 1) (lv' := [(2, .int (iv 0)), (0, .ref y), (1, .int (iv x1))]) dX12_line_1 (i := 2) rfl (by decide) rfl ?_
  have B2 : ∀ k : Nat, ∀ nm2 : Int, ∀ nf2 : Nat → Int, ∀ nt2 : Nat → Int, ∀ nw2 : Nat → Int, ∀ nc2 : Nat → Int, ∀ hp2 : MH, Tw (RX Γ cI cJ cZ y rf cn nm2 so sz dr mn fr tt wt co nu sa wo ln hw ro qi qc nf2 nt2 nw2 nc2 cl nx ie be sd bl bs wy ra rb lb bg os js ls sp jw go de yb ah im) hp2 → ∀  (v2_2 : Int), 0 ≤ v2_2 ∧ v2_2 ≤ 16 ∧ (0 ≤ nm2) ∧ (nm2 ≤ 400) ∧ (v2_2 ≤ (mn (Int.toNat x1))) ∧ (nm2 ≤ 16 * v2_2) ∧ (arP nf2 nt2 nw2 nc2 nm2 (mn (Int.toNat x1))) ∧ (PL (acc (lnL (Int.toNat (mn (Int.toNat x1))) (dr (Int.toNat x1)) (sh fr (60 * x1)) (sh tt (60 * x1))) (Int.toNat v2_2)) nm2 nf2 nt2 nw2 nc2) → 16 - v2_2 ≤ (k : Int) → Rn (gG D cI cJ cZ cT lo b L xs) mX12_line d 2 [(0, .ref y), (1, .int (iv x1)), (2, .int (iv v2_2))] [] hp2 n 0 0 Po9 := by
    refine lpS _ ?_
    intro k2 ih2 nm2 nf2 nt2 nw2 nc2 hp2 ht2 v2_2 hf2 hm2
    obtain ⟨hf2_0, hf2_1, hf2_2, hf2_3, hf2_4, hf2_5, ha2_6, ha2_7⟩ := hf2
    refine r_iload_n (pc := 2) dX12_line_2 (i := 2) rfl rfl ?_
    refine r_aload_n (pc := 3) dX12_line_3 (i := 0) rfl rfl ?_
    refine t_getE (pc := 4) (.ref (y + 4)) ht2 (rd_of RX_y) fX12_20 dX12_line_4 rfl ?_
    refine r_iload_n (pc := 7) dX12_line_7 (i := 1) rfl rfl ?_
    refine t_ialdX (pc := 8) (t0 := 0) ht2 (rd_of RX_many) dX12_line_8 rfl (by decide) (by omega) (fun b1 => ?_)
    have rb1 := (show Rfx 121 0 60 mn by assumption) (Int.toNat x1) (by omega)
    refine t_icmp_ge (pc := 9) (tgt := 177) dX12_line_9 (by decide) (by omega) (by omega) (fun c9 => ?_) (fun c9 => ?_)
    · exact r_vret (pc := 177) dX12_line_177 rfl (hPo _ _ _ ⟨rfl, nf2, nt2, nw2, nc2, nm2, ht2, rfl, (by omega), (by assumption), (by (have h8 : PL (acc (lnL (Int.toNat (mn (Int.toNat x1))) (dr (Int.toNat x1)) (sh fr (60 * x1)) (sh tt (60 * x1))) (Int.toNat v2_2)) _ _ _ _ _ := (by assumption); rw [show v2_2 = (mn (Int.toNat x1)) by omega] at h8; exact h8))⟩)
    · refine r_iconst (pc := 12) (v := iv 0) dX12_line_12 (by decide) ?_
      refine r_istore_n (pc := 13) (lv' := [(3, .int (iv 0)), (0, .ref y), (1, .int (iv x1)), (2, .int (iv v2_2))]) dX12_line_13 (i := 3) rfl (by decide) rfl ?_
      have B14 : ∀ k : Nat, ∀ nm14 : Int, ∀ nf14 : Nat → Int, ∀ nt14 : Nat → Int, ∀ nw14 : Nat → Int, ∀ nc14 : Nat → Int, ∀ hp14 : MH, Tw (RX Γ cI cJ cZ y rf cn nm14 so sz dr mn fr tt wt co nu sa wo ln hw ro qi qc nf14 nt14 nw14 nc14 cl nx ie be sd bl bs wy ra rb lb bg os js ls sp jw go de yb ah im) hp14 → ∀  (v14_3 : Int), 0 ≤ v14_3 ∧ v14_3 ≤ 16 ∧ (0 ≤ nm14) ∧ (nm14 ≤ 400) ∧ (v14_3 ≤ (mn (Int.toNat x1))) ∧ (nm14 ≤ 16 * v2_2 + v14_3) ∧ (arP nf14 nt14 nw14 nc14 nm14 (mn (Int.toNat x1))) ∧ (PL (acc (lnL (Int.toNat (mn (Int.toNat x1))) (dr (Int.toNat x1)) (sh fr (60 * x1)) (sh tt (60 * x1))) (Int.toNat v2_2) ++ acc ((lnR (dr (Int.toNat x1)) (sh fr (60 * x1)) (sh tt (60 * x1))) (Int.toNat v2_2)) (Int.toNat v14_3)) nm14 nf14 nt14 nw14 nc14) → 16 - v14_3 ≤ (k : Int) → Rn (gG D cI cJ cZ cT lo b L xs) mX12_line d 14 [(0, .ref y), (1, .int (iv x1)), (2, .int (iv v2_2)), (3, .int (iv v14_3))] [] hp14 n 0 0 Po9 := by
        refine lpS _ ?_
        intro k14 ih14 nm14 nf14 nt14 nw14 nc14 hp14 ht14 v14_3 hf14 hm14
        obtain ⟨hf14_0, hf14_1, hf14_2, hf14_3, hf14_4, hf14_5, ha14_6, ha14_7⟩ := hf14
        refine r_iload_n (pc := 14) dX12_line_14 (i := 3) rfl rfl ?_
        refine r_aload_n (pc := 15) dX12_line_15 (i := 0) rfl rfl ?_
        refine t_getE (pc := 16) (.ref (y + 4)) ht14 (rd_of RX_y) fX12_20 dX12_line_16 rfl ?_
        refine r_iload_n (pc := 19) dX12_line_19 (i := 1) rfl rfl ?_
        refine t_ialdX (pc := 20) (t0 := 0) ht14 (rd_of RX_many) dX12_line_20 rfl (by decide) (by omega) (fun b2 => ?_)
        have rb2 := (show Rfx 121 0 60 mn by assumption) (Int.toNat x1) (by omega)
        refine t_icmp_ge (pc := 21) (tgt := 171) dX12_line_21 (by decide) (by omega) (by omega) (fun c21 => ?_) (fun c21 => ?_)
        · refine r_iinc (pc := 171) (v := iv (v2_2 + 1)) (lv' := [(2, .int (iv (v2_2 + 1))), (0, .ref y), (1, .int (iv x1)), (3, .int (iv v14_3))]) dX12_line_171 rfl (iv_add _ _) (by decide) rfl ?_
          refine r_goto (pc := 174) (tgt := 2) dX12_line_174 (by decide) ?_
          refine Rn.pick (lv' := [(0, .ref y), (1, .int (iv x1)), (2, .int (iv (v2_2 + 1)))]) [1, 2, 0] rfl ?_
          exact ih2 (Int.toNat (16 - (v2_2 + 1))) (by omega) nm14 nf14 nt14 nw14 nc14 _ ht14 (v2_2 + 1) ⟨by omega, by omega, by omega, by omega, by omega, by omega, by assumption, by (first | assumption | (have h8 : PL (acc (lnL (Int.toNat (mn (Int.toNat x1))) (dr (Int.toNat x1)) (sh fr (60 * x1)) (sh tt (60 * x1))) (Int.toNat v2_2) ++ acc ((lnR (dr (Int.toNat x1)) (sh fr (60 * x1)) (sh tt (60 * x1))) (Int.toNat v2_2)) (Int.toNat v14_3)) _ _ _ _ _ := (by assumption); rw [acc_up (by omega)]; have e9 : (lnL (Int.toNat (mn (Int.toNat x1))) (dr (Int.toNat x1)) (sh fr (60 * x1)) (sh tt (60 * x1))) (Int.toNat v2_2) = acc ((lnR (dr (Int.toNat x1)) (sh fr (60 * x1)) (sh tt (60 * x1))) (Int.toNat v2_2)) (Int.toNat v14_3) := (by show acc _ _ = _; rw [show v14_3 = (mn (Int.toNat x1)) by omega]); rw [e9]; exact h8))⟩ (by omega)
        · refine r_iload_n (pc := 24) dX12_line_24 (i := 1) rfl rfl ?_
          refine r_iload_n (pc := 25) dX12_line_25 (i := 2) rfl rfl ?_
          refine t_callSI (pc := 26) (as := [.int (iv x1), .int (iv v2_2)]) (st := []) kX12_157 dX12_line_26 (t_X12_at1x (d := d - 1) (x1 := x1) (x2 := v2_2) (by omega)  ht14 (by omega) (by omega)) rfl (by omega) (Nat.le_of_ble_eq_true rfl) rfl (fun hp3 y5 ht4 by5 => ?_)
          have ey5 : y5 = 60 * x1 + v2_2 := by5
          subst ey5
          refine r_istore (pc := 29) (lv' := [(4, .int (iv (60 * x1 + v2_2))), (0, .ref y), (1, .int (iv x1)), (2, .int (iv v2_2)), (3, .int (iv v14_3))]) dX12_line_29 (by decide) rfl ?_
          refine r_iload_n (pc := 31) dX12_line_31 (i := 1) rfl rfl ?_
          refine r_iload_n (pc := 32) dX12_line_32 (i := 3) rfl rfl ?_
          refine t_callSI (pc := 33) (as := [.int (iv x1), .int (iv v14_3)]) (st := []) kX12_157 dX12_line_33 (t_X12_at1x (d := d - 1) (x1 := x1) (x2 := v14_3) (by omega)  ht4 (by omega) (by omega)) rfl (by omega) (Nat.le_of_ble_eq_true rfl) rfl (fun hp6 y8 ht7 by8 => ?_)
          have ey8 : y8 = 60 * x1 + v14_3 := by8
          subst ey8
          refine r_istore (pc := 36) (lv' := [(5, .int (iv (60 * x1 + v14_3))), (4, .int (iv (60 * x1 + v2_2))), (0, .ref y), (1, .int (iv x1)), (2, .int (iv v2_2)), (3, .int (iv v14_3))]) dX12_line_36 (by decide) rfl ?_
          refine r_aload_n (pc := 38) dX12_line_38 (i := 0) rfl rfl ?_
          refine t_getE (pc := 39) (.ref (y + 3)) ht7 (rd_of RX_y) fX12_16 dX12_line_39 rfl ?_
          refine r_iload_n (pc := 42) dX12_line_42 (i := 1) rfl rfl ?_
          refine t_zaldX (pc := 43) (t0 := 2) ht7 (rd_of RX_directs) dX12_line_43 rfl (by decide) (by omega) (fun b9 => ?_)
          have rb9 := (show Rfx 121 0 1 dr by assumption) (Int.toNat x1) (by omega)
          refine t_if_eq (pc := 44) (tgt := 72) dX12_line_44 (by decide) (by omega) (fun c44 => ?_) (fun c44 => ?_)
          · refine r_iload_n (pc := 72) dX12_line_72 (i := 2) rfl rfl ?_
            refine r_iload_n (pc := 73) dX12_line_73 (i := 3) rfl rfl ?_
            refine t_icmp_ge (pc := 74) (tgt := 149) dX12_line_74 (by decide) (by omega) (by omega) (fun c74 => ?_) (fun c74 => ?_)
            · refine r_iconst (pc := 149) (v := iv 0) dX12_line_149 (by decide) ?_
              refine r_istore (pc := 150) (lv' := [(6, .int (iv 0)), (5, .int (iv (60 * x1 + v14_3))), (4, .int (iv (60 * x1 + v2_2))), (0, .ref y), (1, .int (iv x1)), (2, .int (iv v2_2)), (3, .int (iv v14_3))]) dX12_line_150 (by decide) rfl ?_
              refine r_iload (pc := 152) dX12_line_152 rfl ?_
              refine t_if_eq (pc := 154) (tgt := 165) dX12_line_154 (by decide) (by omega) (fun c154 => ?_) (fun c154 => ?_)
              · refine r_iinc (pc := 165) (v := iv (v14_3 + 1)) (lv' := [(3, .int (iv (v14_3 + 1))), (6, .int (iv 0)), (5, .int (iv (60 * x1 + v14_3))), (4, .int (iv (60 * x1 + v2_2))), (0, .ref y), (1, .int (iv x1)), (2, .int (iv v2_2))]) dX12_line_165 rfl (iv_add _ _) (by decide) rfl ?_
                refine r_goto (pc := 168) (tgt := 14) dX12_line_168 (by decide) ?_
                refine Rn.pick (lv' := [(0, .ref y), (1, .int (iv x1)), (2, .int (iv v2_2)), (3, .int (iv (v14_3 + 1)))]) [4, 5, 6, 0] rfl ?_
                exact ih14 (Int.toNat (16 - (v14_3 + 1))) (by omega) nm14 nf14 nt14 nw14 nc14 _ ht7 (v14_3 + 1) ⟨by omega, by omega, by omega, by omega, by omega, by omega, by assumption, by (first | (rw [show acc ((lnR (dr (Int.toNat x1)) (sh fr (60 * x1)) (sh tt (60 * x1))) (Int.toNat v2_2)) (Int.toNat 0) = [] from rfl, List.append_nil]; assumption) | exact PL_y (by assumption) (by omega) (by show sel _ _ = _; rw [sel_y (by unfold mtP; rw [← sh_at fr (60 * x1) (v := v2_2) (by omega), ← sh_at tt (60 * x1) (v := v2_2) (by omega), ← sh_at fr (60 * x1) (v := v14_3) (by omega), ← sh_at tt (60 * x1) (v := v14_3) (by omega)]; omega), Int.toNat_of_nonneg (show (0 : Int) ≤ v2_2 by omega), Int.toNat_of_nonneg (show (0 : Int) ≤ v14_3 by omega)]) | exact PL_n (by assumption) (by omega) (sel_n (by unfold mtP; rw [← sh_at fr (60 * x1) (v := v2_2) (by omega), ← sh_at tt (60 * x1) (v := v2_2) (by omega), ← sh_at fr (60 * x1) (v := v14_3) (by omega), ← sh_at tt (60 * x1) (v := v14_3) (by omega)]; omega)))⟩ (by omega)
              · exfalso
                omega
            · refine r_aload_n (pc := 77) dX12_line_77 (i := 0) rfl rfl ?_
              refine t_getE (pc := 78) (.ref (y + 5)) ht7 (rd_of RX_y) fX12_23 dX12_line_78 rfl ?_
              refine r_iload (pc := 81) dX12_line_81 rfl ?_
              refine t_ialdX (pc := 83) (t0 := 0) ht7 (rd_of RX_from) dX12_line_83 rfl (by decide) (by omega) (fun b10 => ?_)
              have rb10 := (show Rfx 7260 0 15 fr by assumption) (Int.toNat (60 * x1 + v2_2)) (by omega)
              refine r_aload_n (pc := 84) dX12_line_84 (i := 0) rfl rfl ?_
              refine t_getE (pc := 85) (.ref (y + 5)) ht7 (rd_of RX_y) fX12_23 dX12_line_85 rfl ?_
              refine r_iload (pc := 88) dX12_line_88 rfl ?_
              refine t_ialdX (pc := 90) (t0 := 0) ht7 (rd_of RX_from) dX12_line_90 rfl (by decide) (by omega) (fun b11 => ?_)
              have rb11 := (show Rfx 7260 0 15 fr by assumption) (Int.toNat (60 * x1 + v14_3)) (by omega)
              refine t_icmp_eq (pc := 91) (tgt := 145) dX12_line_91 (by decide) (by omega) (by omega) (fun c91 => ?_) (fun c91 => ?_)
              · refine r_iconst (pc := 145) (v := iv 1) dX12_line_145 (by decide) ?_
                refine r_goto (pc := 146) (tgt := 150) dX12_line_146 (by decide) ?_
                refine r_istore (pc := 150) (lv' := [(6, .int (iv 1)), (5, .int (iv (60 * x1 + v14_3))), (4, .int (iv (60 * x1 + v2_2))), (0, .ref y), (1, .int (iv x1)), (2, .int (iv v2_2)), (3, .int (iv v14_3))]) dX12_line_150 (by decide) rfl ?_
                refine r_iload (pc := 152) dX12_line_152 rfl ?_
                refine t_if_eq (pc := 154) (tgt := 165) dX12_line_154 (by decide) (by omega) (fun c154 => ?_) (fun c154 => ?_)
                · exfalso
                  omega
                · refine r_aload_n (pc := 157) dX12_line_157 (i := 0) rfl rfl ?_
                  refine r_iload_n (pc := 158) dX12_line_158 (i := 2) rfl rfl ?_
                  refine r_iload_n (pc := 159) dX12_line_159 (i := 3) rfl rfl ?_
                  refine r_iconst (pc := 160) (v := iv 0) dX12_line_160 (by decide) ?_
                  refine r_iconst (pc := 161) (v := iv 0) dX12_line_161 (by decide) ?_
                  obtain ⟨fs16, hfs16⟩ := t_obj ht7 (rd_of RX_y)
                  refine r_callV (pc := 162) (as := [.int (iv v2_2), .int (iv v14_3), .int (iv 0), .int (iv 0)]) (st := []) kX12_171 rfl dX12_line_162 hfs16 (x_X12_put (d := d - 1) (x1 := v2_2) (x2 := v14_3) (x3 := 0) (x4 := 0) (by omega) (by omega) ht7 (by omega) (by omega) (by omega) (by omega) (by omega) (fun _ _ _ h => h)) rfl (by omega) (Nat.le_of_ble_eq_true rfl) (Nat.zero_le _) (Nat.zero_le _) rfl (fun r13 hp12 n14 hq15 => ?_)
                  obtain ⟨hnn14, ht17, hrr13⟩ := hq15
                  subst n14 r13
                  change Rn _ _ _ 165 _ [] _ _ _ _ _
                  have hapq18 : arP (fup nf14 (Int.toNat nm14) v2_2) (fup nt14 (Int.toNat nm14) v14_3) (fup nw14 (Int.toNat nm14) 0) (fup nc14 (Int.toNat nm14) 0) (nm14 + 1) (mn (Int.toNat x1)) := ar_up (by assumption) (by omega) (by omega) (by omega) (by omega) (by omega)
                  refine r_iinc (pc := 165) (v := iv (v14_3 + 1)) (lv' := [(3, .int (iv (v14_3 + 1))), (6, .int (iv 1)), (5, .int (iv (60 * x1 + v14_3))), (4, .int (iv (60 * x1 + v2_2))), (0, .ref y), (1, .int (iv x1)), (2, .int (iv v2_2))]) dX12_line_165 rfl (iv_add _ _) (by decide) rfl ?_
                  refine r_goto (pc := 168) (tgt := 14) dX12_line_168 (by decide) ?_
                  refine Rn.pick (lv' := [(0, .ref y), (1, .int (iv x1)), (2, .int (iv v2_2)), (3, .int (iv (v14_3 + 1)))]) [4, 5, 6, 0] rfl ?_
                  exact ih14 (Int.toNat (16 - (v14_3 + 1))) (by omega) (nm14 + 1) (fup nf14 (Int.toNat nm14) v2_2) (fup nt14 (Int.toNat nm14) v14_3) (fup nw14 (Int.toNat nm14) 0) (fup nc14 (Int.toNat nm14) 0) _ ht17 (v14_3 + 1) ⟨by omega, by omega, by omega, by omega, by omega, by omega, by assumption, by (first | (rw [show acc ((lnR (dr (Int.toNat x1)) (sh fr (60 * x1)) (sh tt (60 * x1))) (Int.toNat v2_2)) (Int.toNat 0) = [] from rfl, List.append_nil]; assumption) | exact PL_y (by assumption) (by omega) (by show sel _ _ = _; rw [sel_y (by unfold mtP; rw [← sh_at fr (60 * x1) (v := v2_2) (by omega), ← sh_at tt (60 * x1) (v := v2_2) (by omega), ← sh_at fr (60 * x1) (v := v14_3) (by omega), ← sh_at tt (60 * x1) (v := v14_3) (by omega)]; omega), Int.toNat_of_nonneg (show (0 : Int) ≤ v2_2 by omega), Int.toNat_of_nonneg (show (0 : Int) ≤ v14_3 by omega)]) | exact PL_n (by assumption) (by omega) (sel_n (by unfold mtP; rw [← sh_at fr (60 * x1) (v := v2_2) (by omega), ← sh_at tt (60 * x1) (v := v2_2) (by omega), ← sh_at fr (60 * x1) (v := v14_3) (by omega), ← sh_at tt (60 * x1) (v := v14_3) (by omega)]; omega)))⟩ (by omega)
              · refine r_aload_n (pc := 94) dX12_line_94 (i := 0) rfl rfl ?_
                refine t_getE (pc := 95) (.ref (y + 5)) ht7 (rd_of RX_y) fX12_23 dX12_line_95 rfl ?_
                refine r_iload (pc := 98) dX12_line_98 rfl ?_
                refine t_ialdX (pc := 100) (t0 := 0) ht7 (rd_of RX_from) dX12_line_100 rfl (by decide) (by omega) (fun b19 => ?_)
                have rb19 := (show Rfx 7260 0 15 fr by assumption) (Int.toNat (60 * x1 + v2_2)) (by omega)
                refine r_aload_n (pc := 101) dX12_line_101 (i := 0) rfl rfl ?_
                refine t_getE (pc := 102) (.ref (y + 6)) ht7 (rd_of RX_y) fX12_26 dX12_line_102 rfl ?_
                refine r_iload (pc := 105) dX12_line_105 rfl ?_
                refine t_ialdX (pc := 107) (t0 := 0) ht7 (rd_of RX_to) dX12_line_107 rfl (by decide) (by omega) (fun b20 => ?_)
                have rb20 := (show Rfx 7260 0 15 tt by assumption) (Int.toNat (60 * x1 + v14_3)) (by omega)
                refine t_icmp_eq (pc := 108) (tgt := 145) dX12_line_108 (by decide) (by omega) (by omega) (fun c108 => ?_) (fun c108 => ?_)
                · refine r_iconst (pc := 145) (v := iv 1) dX12_line_145 (by decide) ?_
                  refine r_goto (pc := 146) (tgt := 150) dX12_line_146 (by decide) ?_
                  refine r_istore (pc := 150) (lv' := [(6, .int (iv 1)), (5, .int (iv (60 * x1 + v14_3))), (4, .int (iv (60 * x1 + v2_2))), (0, .ref y), (1, .int (iv x1)), (2, .int (iv v2_2)), (3, .int (iv v14_3))]) dX12_line_150 (by decide) rfl ?_
                  refine r_iload (pc := 152) dX12_line_152 rfl ?_
                  refine t_if_eq (pc := 154) (tgt := 165) dX12_line_154 (by decide) (by omega) (fun c154 => ?_) (fun c154 => ?_)
                  · exfalso
                    omega
                  · refine r_aload_n (pc := 157) dX12_line_157 (i := 0) rfl rfl ?_
                    refine r_iload_n (pc := 158) dX12_line_158 (i := 2) rfl rfl ?_
                    refine r_iload_n (pc := 159) dX12_line_159 (i := 3) rfl rfl ?_
                    refine r_iconst (pc := 160) (v := iv 0) dX12_line_160 (by decide) ?_
                    refine r_iconst (pc := 161) (v := iv 0) dX12_line_161 (by decide) ?_
                    obtain ⟨fs25, hfs25⟩ := t_obj ht7 (rd_of RX_y)
                    refine r_callV (pc := 162) (as := [.int (iv v2_2), .int (iv v14_3), .int (iv 0), .int (iv 0)]) (st := []) kX12_171 rfl dX12_line_162 hfs25 (x_X12_put (d := d - 1) (x1 := v2_2) (x2 := v14_3) (x3 := 0) (x4 := 0) (by omega) (by omega) ht7 (by omega) (by omega) (by omega) (by omega) (by omega) (fun _ _ _ h => h)) rfl (by omega) (Nat.le_of_ble_eq_true rfl) (Nat.zero_le _) (Nat.zero_le _) rfl (fun r22 hp21 n23 hq24 => ?_)
                    obtain ⟨hnn23, ht26, hrr22⟩ := hq24
                    subst n23 r22
                    change Rn _ _ _ 165 _ [] _ _ _ _ _
                    have hapq27 : arP (fup nf14 (Int.toNat nm14) v2_2) (fup nt14 (Int.toNat nm14) v14_3) (fup nw14 (Int.toNat nm14) 0) (fup nc14 (Int.toNat nm14) 0) (nm14 + 1) (mn (Int.toNat x1)) := ar_up (by assumption) (by omega) (by omega) (by omega) (by omega) (by omega)
                    refine r_iinc (pc := 165) (v := iv (v14_3 + 1)) (lv' := [(3, .int (iv (v14_3 + 1))), (6, .int (iv 1)), (5, .int (iv (60 * x1 + v14_3))), (4, .int (iv (60 * x1 + v2_2))), (0, .ref y), (1, .int (iv x1)), (2, .int (iv v2_2))]) dX12_line_165 rfl (iv_add _ _) (by decide) rfl ?_
                    refine r_goto (pc := 168) (tgt := 14) dX12_line_168 (by decide) ?_
                    refine Rn.pick (lv' := [(0, .ref y), (1, .int (iv x1)), (2, .int (iv v2_2)), (3, .int (iv (v14_3 + 1)))]) [4, 5, 6, 0] rfl ?_
                    exact ih14 (Int.toNat (16 - (v14_3 + 1))) (by omega) (nm14 + 1) (fup nf14 (Int.toNat nm14) v2_2) (fup nt14 (Int.toNat nm14) v14_3) (fup nw14 (Int.toNat nm14) 0) (fup nc14 (Int.toNat nm14) 0) _ ht26 (v14_3 + 1) ⟨by omega, by omega, by omega, by omega, by omega, by omega, by assumption, by (first | (rw [show acc ((lnR (dr (Int.toNat x1)) (sh fr (60 * x1)) (sh tt (60 * x1))) (Int.toNat v2_2)) (Int.toNat 0) = [] from rfl, List.append_nil]; assumption) | exact PL_y (by assumption) (by omega) (by show sel _ _ = _; rw [sel_y (by unfold mtP; rw [← sh_at fr (60 * x1) (v := v2_2) (by omega), ← sh_at tt (60 * x1) (v := v2_2) (by omega), ← sh_at fr (60 * x1) (v := v14_3) (by omega), ← sh_at tt (60 * x1) (v := v14_3) (by omega)]; omega), Int.toNat_of_nonneg (show (0 : Int) ≤ v2_2 by omega), Int.toNat_of_nonneg (show (0 : Int) ≤ v14_3 by omega)]) | exact PL_n (by assumption) (by omega) (sel_n (by unfold mtP; rw [← sh_at fr (60 * x1) (v := v2_2) (by omega), ← sh_at tt (60 * x1) (v := v2_2) (by omega), ← sh_at fr (60 * x1) (v := v14_3) (by omega), ← sh_at tt (60 * x1) (v := v14_3) (by omega)]; omega)))⟩ (by omega)
                · refine r_aload_n (pc := 111) dX12_line_111 (i := 0) rfl rfl ?_
                  refine t_getE (pc := 112) (.ref (y + 6)) ht7 (rd_of RX_y) fX12_26 dX12_line_112 rfl ?_
                  refine r_iload (pc := 115) dX12_line_115 rfl ?_
                  refine t_ialdX (pc := 117) (t0 := 0) ht7 (rd_of RX_to) dX12_line_117 rfl (by decide) (by omega) (fun b28 => ?_)
                  have rb28 := (show Rfx 7260 0 15 tt by assumption) (Int.toNat (60 * x1 + v2_2)) (by omega)
                  refine r_aload_n (pc := 118) dX12_line_118 (i := 0) rfl rfl ?_
                  refine t_getE (pc := 119) (.ref (y + 5)) ht7 (rd_of RX_y) fX12_23 dX12_line_119 rfl ?_
                  refine r_iload (pc := 122) dX12_line_122 rfl ?_
                  refine t_ialdX (pc := 124) (t0 := 0) ht7 (rd_of RX_from) dX12_line_124 rfl (by decide) (by omega) (fun b29 => ?_)
                  have rb29 := (show Rfx 7260 0 15 fr by assumption) (Int.toNat (60 * x1 + v14_3)) (by omega)
                  refine t_icmp_eq (pc := 125) (tgt := 145) dX12_line_125 (by decide) (by omega) (by omega) (fun c125 => ?_) (fun c125 => ?_)
                  · refine r_iconst (pc := 145) (v := iv 1) dX12_line_145 (by decide) ?_
                    refine r_goto (pc := 146) (tgt := 150) dX12_line_146 (by decide) ?_
                    refine r_istore (pc := 150) (lv' := [(6, .int (iv 1)), (5, .int (iv (60 * x1 + v14_3))), (4, .int (iv (60 * x1 + v2_2))), (0, .ref y), (1, .int (iv x1)), (2, .int (iv v2_2)), (3, .int (iv v14_3))]) dX12_line_150 (by decide) rfl ?_
                    refine r_iload (pc := 152) dX12_line_152 rfl ?_
                    refine t_if_eq (pc := 154) (tgt := 165) dX12_line_154 (by decide) (by omega) (fun c154 => ?_) (fun c154 => ?_)
                    · exfalso
                      omega
                    · refine r_aload_n (pc := 157) dX12_line_157 (i := 0) rfl rfl ?_
                      refine r_iload_n (pc := 158) dX12_line_158 (i := 2) rfl rfl ?_
                      refine r_iload_n (pc := 159) dX12_line_159 (i := 3) rfl rfl ?_
                      refine r_iconst (pc := 160) (v := iv 0) dX12_line_160 (by decide) ?_
                      refine r_iconst (pc := 161) (v := iv 0) dX12_line_161 (by decide) ?_
                      obtain ⟨fs34, hfs34⟩ := t_obj ht7 (rd_of RX_y)
                      refine r_callV (pc := 162) (as := [.int (iv v2_2), .int (iv v14_3), .int (iv 0), .int (iv 0)]) (st := []) kX12_171 rfl dX12_line_162 hfs34 (x_X12_put (d := d - 1) (x1 := v2_2) (x2 := v14_3) (x3 := 0) (x4 := 0) (by omega) (by omega) ht7 (by omega) (by omega) (by omega) (by omega) (by omega) (fun _ _ _ h => h)) rfl (by omega) (Nat.le_of_ble_eq_true rfl) (Nat.zero_le _) (Nat.zero_le _) rfl (fun r31 hp30 n32 hq33 => ?_)
                      obtain ⟨hnn32, ht35, hrr31⟩ := hq33
                      subst n32 r31
                      change Rn _ _ _ 165 _ [] _ _ _ _ _
                      have hapq36 : arP (fup nf14 (Int.toNat nm14) v2_2) (fup nt14 (Int.toNat nm14) v14_3) (fup nw14 (Int.toNat nm14) 0) (fup nc14 (Int.toNat nm14) 0) (nm14 + 1) (mn (Int.toNat x1)) := ar_up (by assumption) (by omega) (by omega) (by omega) (by omega) (by omega)
                      refine r_iinc (pc := 165) (v := iv (v14_3 + 1)) (lv' := [(3, .int (iv (v14_3 + 1))), (6, .int (iv 1)), (5, .int (iv (60 * x1 + v14_3))), (4, .int (iv (60 * x1 + v2_2))), (0, .ref y), (1, .int (iv x1)), (2, .int (iv v2_2))]) dX12_line_165 rfl (iv_add _ _) (by decide) rfl ?_
                      refine r_goto (pc := 168) (tgt := 14) dX12_line_168 (by decide) ?_
                      refine Rn.pick (lv' := [(0, .ref y), (1, .int (iv x1)), (2, .int (iv v2_2)), (3, .int (iv (v14_3 + 1)))]) [4, 5, 6, 0] rfl ?_
                      exact ih14 (Int.toNat (16 - (v14_3 + 1))) (by omega) (nm14 + 1) (fup nf14 (Int.toNat nm14) v2_2) (fup nt14 (Int.toNat nm14) v14_3) (fup nw14 (Int.toNat nm14) 0) (fup nc14 (Int.toNat nm14) 0) _ ht35 (v14_3 + 1) ⟨by omega, by omega, by omega, by omega, by omega, by omega, by assumption, by (first | (rw [show acc ((lnR (dr (Int.toNat x1)) (sh fr (60 * x1)) (sh tt (60 * x1))) (Int.toNat v2_2)) (Int.toNat 0) = [] from rfl, List.append_nil]; assumption) | exact PL_y (by assumption) (by omega) (by show sel _ _ = _; rw [sel_y (by unfold mtP; rw [← sh_at fr (60 * x1) (v := v2_2) (by omega), ← sh_at tt (60 * x1) (v := v2_2) (by omega), ← sh_at fr (60 * x1) (v := v14_3) (by omega), ← sh_at tt (60 * x1) (v := v14_3) (by omega)]; omega), Int.toNat_of_nonneg (show (0 : Int) ≤ v2_2 by omega), Int.toNat_of_nonneg (show (0 : Int) ≤ v14_3 by omega)]) | exact PL_n (by assumption) (by omega) (sel_n (by unfold mtP; rw [← sh_at fr (60 * x1) (v := v2_2) (by omega), ← sh_at tt (60 * x1) (v := v2_2) (by omega), ← sh_at fr (60 * x1) (v := v14_3) (by omega), ← sh_at tt (60 * x1) (v := v14_3) (by omega)]; omega)))⟩ (by omega)
                  · refine r_aload_n (pc := 128) dX12_line_128 (i := 0) rfl rfl ?_
                    refine t_getE (pc := 129) (.ref (y + 6)) ht7 (rd_of RX_y) fX12_26 dX12_line_129 rfl ?_
                    refine r_iload (pc := 132) dX12_line_132 rfl ?_
                    refine t_ialdX (pc := 134) (t0 := 0) ht7 (rd_of RX_to) dX12_line_134 rfl (by decide) (by omega) (fun b37 => ?_)
                    have rb37 := (show Rfx 7260 0 15 tt by assumption) (Int.toNat (60 * x1 + v2_2)) (by omega)
                    refine r_aload_n (pc := 135) dX12_line_135 (i := 0) rfl rfl ?_
                    refine t_getE (pc := 136) (.ref (y + 6)) ht7 (rd_of RX_y) fX12_26 dX12_line_136 rfl ?_
                    refine r_iload (pc := 139) dX12_line_139 rfl ?_
                    refine t_ialdX (pc := 141) (t0 := 0) ht7 (rd_of RX_to) dX12_line_141 rfl (by decide) (by omega) (fun b38 => ?_)
                    have rb38 := (show Rfx 7260 0 15 tt by assumption) (Int.toNat (60 * x1 + v14_3)) (by omega)
                    refine t_icmp_ne (pc := 142) (tgt := 149) dX12_line_142 (by decide) (by omega) (by omega) (fun c142 => ?_) (fun c142 => ?_)
                    · refine r_iconst (pc := 149) (v := iv 0) dX12_line_149 (by decide) ?_
                      refine r_istore (pc := 150) (lv' := [(6, .int (iv 0)), (5, .int (iv (60 * x1 + v14_3))), (4, .int (iv (60 * x1 + v2_2))), (0, .ref y), (1, .int (iv x1)), (2, .int (iv v2_2)), (3, .int (iv v14_3))]) dX12_line_150 (by decide) rfl ?_
                      refine r_iload (pc := 152) dX12_line_152 rfl ?_
                      refine t_if_eq (pc := 154) (tgt := 165) dX12_line_154 (by decide) (by omega) (fun c154 => ?_) (fun c154 => ?_)
                      · refine r_iinc (pc := 165) (v := iv (v14_3 + 1)) (lv' := [(3, .int (iv (v14_3 + 1))), (6, .int (iv 0)), (5, .int (iv (60 * x1 + v14_3))), (4, .int (iv (60 * x1 + v2_2))), (0, .ref y), (1, .int (iv x1)), (2, .int (iv v2_2))]) dX12_line_165 rfl (iv_add _ _) (by decide) rfl ?_
                        refine r_goto (pc := 168) (tgt := 14) dX12_line_168 (by decide) ?_
                        refine Rn.pick (lv' := [(0, .ref y), (1, .int (iv x1)), (2, .int (iv v2_2)), (3, .int (iv (v14_3 + 1)))]) [4, 5, 6, 0] rfl ?_
                        exact ih14 (Int.toNat (16 - (v14_3 + 1))) (by omega) nm14 nf14 nt14 nw14 nc14 _ ht7 (v14_3 + 1) ⟨by omega, by omega, by omega, by omega, by omega, by omega, by assumption, by (first | (rw [show acc ((lnR (dr (Int.toNat x1)) (sh fr (60 * x1)) (sh tt (60 * x1))) (Int.toNat v2_2)) (Int.toNat 0) = [] from rfl, List.append_nil]; assumption) | exact PL_y (by assumption) (by omega) (by show sel _ _ = _; rw [sel_y (by unfold mtP; rw [← sh_at fr (60 * x1) (v := v2_2) (by omega), ← sh_at tt (60 * x1) (v := v2_2) (by omega), ← sh_at fr (60 * x1) (v := v14_3) (by omega), ← sh_at tt (60 * x1) (v := v14_3) (by omega)]; omega), Int.toNat_of_nonneg (show (0 : Int) ≤ v2_2 by omega), Int.toNat_of_nonneg (show (0 : Int) ≤ v14_3 by omega)]) | exact PL_n (by assumption) (by omega) (sel_n (by unfold mtP; rw [← sh_at fr (60 * x1) (v := v2_2) (by omega), ← sh_at tt (60 * x1) (v := v2_2) (by omega), ← sh_at fr (60 * x1) (v := v14_3) (by omega), ← sh_at tt (60 * x1) (v := v14_3) (by omega)]; omega)))⟩ (by omega)
                      · exfalso
                        omega
                    · refine r_iconst (pc := 145) (v := iv 1) dX12_line_145 (by decide) ?_
                      refine r_goto (pc := 146) (tgt := 150) dX12_line_146 (by decide) ?_
                      refine r_istore (pc := 150) (lv' := [(6, .int (iv 1)), (5, .int (iv (60 * x1 + v14_3))), (4, .int (iv (60 * x1 + v2_2))), (0, .ref y), (1, .int (iv x1)), (2, .int (iv v2_2)), (3, .int (iv v14_3))]) dX12_line_150 (by decide) rfl ?_
                      refine r_iload (pc := 152) dX12_line_152 rfl ?_
                      refine t_if_eq (pc := 154) (tgt := 165) dX12_line_154 (by decide) (by omega) (fun c154 => ?_) (fun c154 => ?_)
                      · exfalso
                        omega
                      · refine r_aload_n (pc := 157) dX12_line_157 (i := 0) rfl rfl ?_
                        refine r_iload_n (pc := 158) dX12_line_158 (i := 2) rfl rfl ?_
                        refine r_iload_n (pc := 159) dX12_line_159 (i := 3) rfl rfl ?_
                        refine r_iconst (pc := 160) (v := iv 0) dX12_line_160 (by decide) ?_
                        refine r_iconst (pc := 161) (v := iv 0) dX12_line_161 (by decide) ?_
                        obtain ⟨fs43, hfs43⟩ := t_obj ht7 (rd_of RX_y)
                        refine r_callV (pc := 162) (as := [.int (iv v2_2), .int (iv v14_3), .int (iv 0), .int (iv 0)]) (st := []) kX12_171 rfl dX12_line_162 hfs43 (x_X12_put (d := d - 1) (x1 := v2_2) (x2 := v14_3) (x3 := 0) (x4 := 0) (by omega) (by omega) ht7 (by omega) (by omega) (by omega) (by omega) (by omega) (fun _ _ _ h => h)) rfl (by omega) (Nat.le_of_ble_eq_true rfl) (Nat.zero_le _) (Nat.zero_le _) rfl (fun r40 hp39 n41 hq42 => ?_)
                        obtain ⟨hnn41, ht44, hrr40⟩ := hq42
                        subst n41 r40
                        change Rn _ _ _ 165 _ [] _ _ _ _ _
                        have hapq45 : arP (fup nf14 (Int.toNat nm14) v2_2) (fup nt14 (Int.toNat nm14) v14_3) (fup nw14 (Int.toNat nm14) 0) (fup nc14 (Int.toNat nm14) 0) (nm14 + 1) (mn (Int.toNat x1)) := ar_up (by assumption) (by omega) (by omega) (by omega) (by omega) (by omega)
                        refine r_iinc (pc := 165) (v := iv (v14_3 + 1)) (lv' := [(3, .int (iv (v14_3 + 1))), (6, .int (iv 1)), (5, .int (iv (60 * x1 + v14_3))), (4, .int (iv (60 * x1 + v2_2))), (0, .ref y), (1, .int (iv x1)), (2, .int (iv v2_2))]) dX12_line_165 rfl (iv_add _ _) (by decide) rfl ?_
                        refine r_goto (pc := 168) (tgt := 14) dX12_line_168 (by decide) ?_
                        refine Rn.pick (lv' := [(0, .ref y), (1, .int (iv x1)), (2, .int (iv v2_2)), (3, .int (iv (v14_3 + 1)))]) [4, 5, 6, 0] rfl ?_
                        exact ih14 (Int.toNat (16 - (v14_3 + 1))) (by omega) (nm14 + 1) (fup nf14 (Int.toNat nm14) v2_2) (fup nt14 (Int.toNat nm14) v14_3) (fup nw14 (Int.toNat nm14) 0) (fup nc14 (Int.toNat nm14) 0) _ ht44 (v14_3 + 1) ⟨by omega, by omega, by omega, by omega, by omega, by omega, by assumption, by (first | (rw [show acc ((lnR (dr (Int.toNat x1)) (sh fr (60 * x1)) (sh tt (60 * x1))) (Int.toNat v2_2)) (Int.toNat 0) = [] from rfl, List.append_nil]; assumption) | exact PL_y (by assumption) (by omega) (by show sel _ _ = _; rw [sel_y (by unfold mtP; rw [← sh_at fr (60 * x1) (v := v2_2) (by omega), ← sh_at tt (60 * x1) (v := v2_2) (by omega), ← sh_at fr (60 * x1) (v := v14_3) (by omega), ← sh_at tt (60 * x1) (v := v14_3) (by omega)]; omega), Int.toNat_of_nonneg (show (0 : Int) ≤ v2_2 by omega), Int.toNat_of_nonneg (show (0 : Int) ≤ v14_3 by omega)]) | exact PL_n (by assumption) (by omega) (sel_n (by unfold mtP; rw [← sh_at fr (60 * x1) (v := v2_2) (by omega), ← sh_at tt (60 * x1) (v := v2_2) (by omega), ← sh_at fr (60 * x1) (v := v14_3) (by omega), ← sh_at tt (60 * x1) (v := v14_3) (by omega)]; omega)))⟩ (by omega)
          · refine r_aload_n (pc := 47) dX12_line_47 (i := 0) rfl rfl ?_
            refine t_getE (pc := 48) (.ref (y + 6)) ht7 (rd_of RX_y) fX12_26 dX12_line_48 rfl ?_
            refine r_iload (pc := 51) dX12_line_51 rfl ?_
            refine t_ialdX (pc := 53) (t0 := 0) ht7 (rd_of RX_to) dX12_line_53 rfl (by decide) (by omega) (fun b46 => ?_)
            have rb46 := (show Rfx 7260 0 15 tt by assumption) (Int.toNat (60 * x1 + v2_2)) (by omega)
            refine r_aload_n (pc := 54) dX12_line_54 (i := 0) rfl rfl ?_
            refine t_getE (pc := 55) (.ref (y + 5)) ht7 (rd_of RX_y) fX12_23 dX12_line_55 rfl ?_
            refine r_iload (pc := 58) dX12_line_58 rfl ?_
            refine t_ialdX (pc := 60) (t0 := 0) ht7 (rd_of RX_from) dX12_line_60 rfl (by decide) (by omega) (fun b47 => ?_)
            have rb47 := (show Rfx 7260 0 15 fr by assumption) (Int.toNat (60 * x1 + v14_3)) (by omega)
            refine t_icmp_ne (pc := 61) (tgt := 68) dX12_line_61 (by decide) (by omega) (by omega) (fun c61 => ?_) (fun c61 => ?_)
            · refine r_iconst (pc := 68) (v := iv 0) dX12_line_68 (by decide) ?_
              refine r_goto (pc := 69) (tgt := 150) dX12_line_69 (by decide) ?_
              refine r_istore (pc := 150) (lv' := [(6, .int (iv 0)), (5, .int (iv (60 * x1 + v14_3))), (4, .int (iv (60 * x1 + v2_2))), (0, .ref y), (1, .int (iv x1)), (2, .int (iv v2_2)), (3, .int (iv v14_3))]) dX12_line_150 (by decide) rfl ?_
              refine r_iload (pc := 152) dX12_line_152 rfl ?_
              refine t_if_eq (pc := 154) (tgt := 165) dX12_line_154 (by decide) (by omega) (fun c154 => ?_) (fun c154 => ?_)
              · refine r_iinc (pc := 165) (v := iv (v14_3 + 1)) (lv' := [(3, .int (iv (v14_3 + 1))), (6, .int (iv 0)), (5, .int (iv (60 * x1 + v14_3))), (4, .int (iv (60 * x1 + v2_2))), (0, .ref y), (1, .int (iv x1)), (2, .int (iv v2_2))]) dX12_line_165 rfl (iv_add _ _) (by decide) rfl ?_
                refine r_goto (pc := 168) (tgt := 14) dX12_line_168 (by decide) ?_
                refine Rn.pick (lv' := [(0, .ref y), (1, .int (iv x1)), (2, .int (iv v2_2)), (3, .int (iv (v14_3 + 1)))]) [4, 5, 6, 0] rfl ?_
                exact ih14 (Int.toNat (16 - (v14_3 + 1))) (by omega) nm14 nf14 nt14 nw14 nc14 _ ht7 (v14_3 + 1) ⟨by omega, by omega, by omega, by omega, by omega, by omega, by assumption, by (first | (rw [show acc ((lnR (dr (Int.toNat x1)) (sh fr (60 * x1)) (sh tt (60 * x1))) (Int.toNat v2_2)) (Int.toNat 0) = [] from rfl, List.append_nil]; assumption) | exact PL_y (by assumption) (by omega) (by show sel _ _ = _; rw [sel_y (by unfold mtP; rw [← sh_at fr (60 * x1) (v := v2_2) (by omega), ← sh_at tt (60 * x1) (v := v2_2) (by omega), ← sh_at fr (60 * x1) (v := v14_3) (by omega), ← sh_at tt (60 * x1) (v := v14_3) (by omega)]; omega), Int.toNat_of_nonneg (show (0 : Int) ≤ v2_2 by omega), Int.toNat_of_nonneg (show (0 : Int) ≤ v14_3 by omega)]) | exact PL_n (by assumption) (by omega) (sel_n (by unfold mtP; rw [← sh_at fr (60 * x1) (v := v2_2) (by omega), ← sh_at tt (60 * x1) (v := v2_2) (by omega), ← sh_at fr (60 * x1) (v := v14_3) (by omega), ← sh_at tt (60 * x1) (v := v14_3) (by omega)]; omega)))⟩ (by omega)
              · exfalso
                omega
            · refine r_iconst (pc := 64) (v := iv 1) dX12_line_64 (by decide) ?_
              refine r_goto (pc := 65) (tgt := 150) dX12_line_65 (by decide) ?_
              refine r_istore (pc := 150) (lv' := [(6, .int (iv 1)), (5, .int (iv (60 * x1 + v14_3))), (4, .int (iv (60 * x1 + v2_2))), (0, .ref y), (1, .int (iv x1)), (2, .int (iv v2_2)), (3, .int (iv v14_3))]) dX12_line_150 (by decide) rfl ?_
              refine r_iload (pc := 152) dX12_line_152 rfl ?_
              refine t_if_eq (pc := 154) (tgt := 165) dX12_line_154 (by decide) (by omega) (fun c154 => ?_) (fun c154 => ?_)
              · exfalso
                omega
              · refine r_aload_n (pc := 157) dX12_line_157 (i := 0) rfl rfl ?_
                refine r_iload_n (pc := 158) dX12_line_158 (i := 2) rfl rfl ?_
                refine r_iload_n (pc := 159) dX12_line_159 (i := 3) rfl rfl ?_
                refine r_iconst (pc := 160) (v := iv 0) dX12_line_160 (by decide) ?_
                refine r_iconst (pc := 161) (v := iv 0) dX12_line_161 (by decide) ?_
                obtain ⟨fs52, hfs52⟩ := t_obj ht7 (rd_of RX_y)
                refine r_callV (pc := 162) (as := [.int (iv v2_2), .int (iv v14_3), .int (iv 0), .int (iv 0)]) (st := []) kX12_171 rfl dX12_line_162 hfs52 (x_X12_put (d := d - 1) (x1 := v2_2) (x2 := v14_3) (x3 := 0) (x4 := 0) (by omega) (by omega) ht7 (by omega) (by omega) (by omega) (by omega) (by omega) (fun _ _ _ h => h)) rfl (by omega) (Nat.le_of_ble_eq_true rfl) (Nat.zero_le _) (Nat.zero_le _) rfl (fun r49 hp48 n50 hq51 => ?_)
                obtain ⟨hnn50, ht53, hrr49⟩ := hq51
                subst n50 r49
                change Rn _ _ _ 165 _ [] _ _ _ _ _
                have hapq54 : arP (fup nf14 (Int.toNat nm14) v2_2) (fup nt14 (Int.toNat nm14) v14_3) (fup nw14 (Int.toNat nm14) 0) (fup nc14 (Int.toNat nm14) 0) (nm14 + 1) (mn (Int.toNat x1)) := ar_up (by assumption) (by omega) (by omega) (by omega) (by omega) (by omega)
                refine r_iinc (pc := 165) (v := iv (v14_3 + 1)) (lv' := [(3, .int (iv (v14_3 + 1))), (6, .int (iv 1)), (5, .int (iv (60 * x1 + v14_3))), (4, .int (iv (60 * x1 + v2_2))), (0, .ref y), (1, .int (iv x1)), (2, .int (iv v2_2))]) dX12_line_165 rfl (iv_add _ _) (by decide) rfl ?_
                refine r_goto (pc := 168) (tgt := 14) dX12_line_168 (by decide) ?_
                refine Rn.pick (lv' := [(0, .ref y), (1, .int (iv x1)), (2, .int (iv v2_2)), (3, .int (iv (v14_3 + 1)))]) [4, 5, 6, 0] rfl ?_
                exact ih14 (Int.toNat (16 - (v14_3 + 1))) (by omega) (nm14 + 1) (fup nf14 (Int.toNat nm14) v2_2) (fup nt14 (Int.toNat nm14) v14_3) (fup nw14 (Int.toNat nm14) 0) (fup nc14 (Int.toNat nm14) 0) _ ht53 (v14_3 + 1) ⟨by omega, by omega, by omega, by omega, by omega, by omega, by assumption, by (first | (rw [show acc ((lnR (dr (Int.toNat x1)) (sh fr (60 * x1)) (sh tt (60 * x1))) (Int.toNat v2_2)) (Int.toNat 0) = [] from rfl, List.append_nil]; assumption) | exact PL_y (by assumption) (by omega) (by show sel _ _ = _; rw [sel_y (by unfold mtP; rw [← sh_at fr (60 * x1) (v := v2_2) (by omega), ← sh_at tt (60 * x1) (v := v2_2) (by omega), ← sh_at fr (60 * x1) (v := v14_3) (by omega), ← sh_at tt (60 * x1) (v := v14_3) (by omega)]; omega), Int.toNat_of_nonneg (show (0 : Int) ≤ v2_2 by omega), Int.toNat_of_nonneg (show (0 : Int) ≤ v14_3 by omega)]) | exact PL_n (by assumption) (by omega) (sel_n (by unfold mtP; rw [← sh_at fr (60 * x1) (v := v2_2) (by omega), ← sh_at tt (60 * x1) (v := v2_2) (by omega), ← sh_at fr (60 * x1) (v := v14_3) (by omega), ← sh_at tt (60 * x1) (v := v14_3) (by omega)]; omega)))⟩ (by omega)
      refine Rn.pick (lv' := [(0, .ref y), (1, .int (iv x1)), (2, .int (iv v2_2)), (3, .int (iv 0))]) [1, 2, 3, 0] rfl ?_
      exact B14 (Int.toNat (16 - 0)) nm2 nf2 nt2 nw2 nc2 _ ht2 0 ⟨by omega, by omega, by omega, by omega, by omega, by omega, by assumption, by (first | (rw [show acc ((lnR (dr (Int.toNat x1)) (sh fr (60 * x1)) (sh tt (60 * x1))) (Int.toNat v2_2)) (Int.toNat 0) = [] from rfl, List.append_nil]; assumption) | exact PL_y (by assumption) (by omega) (by show sel _ _ = _; rw [sel_y (by unfold mtP; rw [← sh_at fr (60 * x1) (v := v2_2) (by omega), ← sh_at tt (60 * x1) (v := v2_2) (by omega), ← sh_at fr (60 * x1) (v := v14_3) (by omega), ← sh_at tt (60 * x1) (v := v14_3) (by omega)]; omega), Int.toNat_of_nonneg (show (0 : Int) ≤ v2_2 by omega), Int.toNat_of_nonneg (show (0 : Int) ≤ v14_3 by omega)]) | exact PL_n (by assumption) (by omega) (sel_n (by unfold mtP; rw [← sh_at fr (60 * x1) (v := v2_2) (by omega), ← sh_at tt (60 * x1) (v := v2_2) (by omega), ← sh_at fr (60 * x1) (v := v14_3) (by omega), ← sh_at tt (60 * x1) (v := v14_3) (by omega)]; omega)))⟩ (by omega)
  refine Rn.pick (lv' := [(0, .ref y), (1, .int (iv x1)), (2, .int (iv 0))]) [1, 2, 0] rfl ?_
  exact B2 (Int.toNat (16 - 0)) nm nf nt nw nc _ ht 0 ⟨by omega, by omega, by omega, by omega, by omega, by omega, by assumption, by (first | assumption | (have h8 : PL (acc (lnL (Int.toNat (mn (Int.toNat x1))) (dr (Int.toNat x1)) (sh fr (60 * x1)) (sh tt (60 * x1))) (Int.toNat v2_2) ++ acc ((lnR (dr (Int.toNat x1)) (sh fr (60 * x1)) (sh tt (60 * x1))) (Int.toNat v2_2)) (Int.toNat v14_3)) _ _ _ _ _ := (by assumption); rw [acc_up (by omega)]; have e9 : (lnL (Int.toNat (mn (Int.toNat x1))) (dr (Int.toNat x1)) (sh fr (60 * x1)) (sh tt (60 * x1))) (Int.toNat v2_2) = acc ((lnR (dr (Int.toNat x1)) (sh fr (60 * x1)) (sh tt (60 * x1))) (Int.toNat v2_2)) (Int.toNat v14_3) := (by show acc _ _ = _; rw [show v14_3 = (mn (Int.toNat x1)) by omega]); rw [e9]; exact h8))⟩ (by omega)
