theorem or_y {p : Prop} {s z b : Int} {t : Nat} (hz : ∀ i, Me z i ↔ Me s i ∨ Me b i) (hb : ∀ i, Me b i ↔ i = t) (hp : p) (j : Nat) : Me z j ↔ Me s j ∨ (p ∧ t = j) := by
  rw [hz j, hb j]
  exact ⟨fun h => h.elim Or.inl (fun e => Or.inr ⟨hp, e.symm⟩), fun h => h.elim Or.inl (fun e => Or.inr e.2.symm)⟩
theorem or_n {p : Prop} {s : Int} {t : Nat} (hp : ¬ p) (j : Nat) : Me s j ↔ Me s j ∨ (p ∧ t = j) := ⟨Or.inl, fun h => h.elim id (fun q => absurd q.1 hp)⟩
/-- where arcs below K lead from a set -/
def rhP (d : Int) (F T : Nat → Int) (set all : Int) (K : Nat) : Prop := ∀ j : Nat, Me all j ↔ ∃ k, k < K ∧ ((Me set (F k).toNat ∧ (T k).toNat = j) ∨ ((d = 0 ∧ Me set (T k).toNat) ∧ (F k).toNat = j))
theorem rh_0 (d : Int) (F T : Nat → Int) (set : Int) : rhP d F T set 0 0 := fun j => ⟨fun h => absurd h (Me_0 j), fun ⟨k, h, _⟩ => absurd h (Nat.not_lt_zero k)⟩
theorem rh_up {d : Int} {F T : Nat → Int} {set all a1 a2 : Int} {K : Int} (h : rhP d F T set all K.toNat) (h0 : 0 ≤ K) (h1 : ∀ j, Me a1 j ↔ Me all j ∨ (Me set (F K.toNat).toNat ∧ (T K.toNat).toNat = j)) (h2 : ∀ j, Me a2 j ↔ Me a1 j ∨ ((d = 0 ∧ Me set (T K.toNat).toNat) ∧ (F K.toNat).toNat = j)) : rhP d F T set a2 (K + 1).toNat := by
  intro j
  rw [h2 j, h1 j, h j, tn1 h0]
  constructor
  · rintro ((⟨k, q1, q2⟩ | q) | q)
    · exact ⟨k, by omega, q2⟩
    · exact ⟨K.toNat, by omega, Or.inl q⟩
    · exact ⟨K.toNat, by omega, Or.inr q⟩
  · rintro ⟨k, q1, q2⟩
    by_cases e : k = K.toNat
    · subst e
      rcases q2 with q | q
      · exact Or.inl (Or.inr q)
      · exact Or.inr q
    · exact Or.inl (Or.inl ⟨k, by omega, q2⟩)
theorem rh_st {d : Int} {F T : Nat → Int} {set all : Int} {m n : Nat} (h : rhP d F T set all m) (hF : ∀ k, k < m → (0 ≤ F k ∧ F k < (n : Int)) ∧ (0 ≤ T k ∧ T k < (n : Int))) (j : Nat) : Me all j ↔ ∃ i, Me set i ∧ stP m d F T i j := by
  rw [h j]
  constructor
  · rintro ⟨k, q1, q2⟩
    have q3 := hF k q1
    rcases q2 with ⟨r1, r2⟩ | ⟨⟨r0, r1⟩, r2⟩
    · exact ⟨_, r1, k, q1, Or.inl ⟨by omega, by omega⟩⟩
    · exact ⟨_, r1, k, q1, Or.inr ⟨r0, by omega, by omega⟩⟩
  · rintro ⟨i, r1, k, q1, q2⟩
    refine ⟨k, q1, ?_⟩
    rcases q2 with ⟨e1, e2⟩ | ⟨e0, e1, e2⟩
    · left; rw [e1, e2]; exact ⟨r1, rfl⟩
    · right; rw [e1, e2]; exact ⟨⟨e0, r1⟩, rfl⟩
/-- in the midst of a search: all that is seen, and what is a step further -/
def raP (R : Nat → Nat → Prop) (s all more : Int) : Prop := (∀ i, Me s i → Me all i) ∧ (∀ i, Me all i → RC R (fun x => Me s x) i) ∧ ∀ j, Me more j ↔ Me all j ∨ ∃ i, Me all i ∧ R i j
theorem ra_0 {R : Nat → Nat → Prop} {s more r : Int} (hm : ∀ j, Me more j ↔ Me s j ∨ Me r j) (hr : ∀ j, Me r j ↔ ∃ i, Me s i ∧ R i j) : raP R s s more := ⟨fun _ h => h, fun i h => RC_in h, fun j => by rw [hm j, hr j]⟩
theorem ra_st {R : Nat → Nat → Prop} {s all a1 more r : Int} (h : raP R s all a1) (hm : ∀ j, Me more j ↔ Me a1 j ∨ Me r j) (hr : ∀ j, Me r j ↔ ∃ i, Me a1 i ∧ R i j) : raP R s a1 more := by
  obtain ⟨q1, q2, q3⟩ := h
  refine ⟨fun i hi => (q3 i).mpr (Or.inl (q1 i hi)), fun i hi => ?_, fun j => by rw [hm j, hr j]⟩
  rcases (q3 i).mp hi with h9 | ⟨k, h8, h9⟩
  · exact q2 i h9
  · exact RC_st (q2 k h8) h9
theorem ra_end {R : Nat → Nat → Prop} {s all : Int} (h : raP R s all all) (j : Nat) : Me all j ↔ RC R (fun x => Me s x) j := by
  obtain ⟨q1, q2, q3⟩ := h
  exact ⟨q2 j, fun h => h (Me all) q1 (fun i k hi hr => (q3 k).mpr (Or.inr ⟨i, hi, hr⟩))⟩
theorem Me_sub_le {x y : Int} (h0 : 0 ≤ x) (h1 : 0 ≤ y) (h : ∀ i, Me x i → Me y i) : x ≤ y := by
  have := le_of_tb (a := x.toNat) (b := y.toNat) h
  omega
/-- far: the ball of r arcs and the next -/
def faP (R : Nat → Nat → Prop) (v : Nat) (set more : Int) (r : Nat) : Prop := (∀ j, Me set j ↔ blP R v r j) ∧ (∀ j, Me more j ↔ blP R v (r + 1) j) ∧ (∀ q, q < r → ∃ j, blP R v (q + 1) j ∧ ¬ blP R v q j) ∧ r + 1 ≤ bcn set 16
theorem fa_0 {R : Nat → Nat → Prop} {v : Nat} {s more r : Int} (hs : ∀ i, Me s i ↔ i = v) (hv : v < 16) (hm : ∀ j, Me more j ↔ Me s j ∨ Me r j) (hr : ∀ j, Me r j ↔ ∃ i, Me s i ∧ R i j) : faP R v s more 0 := by
  refine ⟨hs, fun j => ?_, fun q h => absurd h (Nat.not_lt_zero q), ?_⟩
  · rw [hm j, hr j, hs j]
    show _ ↔ (j = v ∨ ∃ i, i = v ∧ R i j)
    constructor
    · rintro (h | ⟨i, h1, h2⟩)
      · exact Or.inl h
      · exact Or.inr ⟨i, (hs i).mp h1, h2⟩
    · rintro (h | ⟨i, h1, h2⟩)
      · exact Or.inl h
      · exact Or.inr ⟨i, (hs i).mpr h1, h2⟩
  · have h1 := bcn_lt (s := 0) (t := s) (fun i h => absurd h (Me_0 i)) ((hs v).mpr rfl) (Me_0 v) 16 hv
    omega
theorem fa_st {R : Nat → Nat → Prop} {v : Nat} {set a1 more r : Int} {k : Nat} (h : faP R v set a1 k) (hne : a1 ≠ set) (h0 : 0 ≤ set) (h1 : 0 ≤ a1 ∧ a1 ≤ 65535) (hm : ∀ j, Me more j ↔ Me a1 j ∨ Me r j) (hr : ∀ j, Me r j ↔ ∃ i, Me a1 i ∧ R i j) : faP R v a1 more (k + 1) := by
  obtain ⟨q1, q2, q3, q4⟩ := h
  have sub : ∀ j, Me set j → Me a1 j := fun j hj => (q2 j).mpr (Or.inl ((q1 j).mp hj))
  have new : ∃ j, Me a1 j ∧ ¬ Me set j := by
    apply Classical.byContradiction
    intro hn
    exact hne (Me_ext h1.1 h0 (fun i => ⟨fun hi => Classical.byContradiction (fun h9 => hn ⟨i, hi, h9⟩), sub i⟩))
  obtain ⟨j, hj1, hj2⟩ := new
  refine ⟨q2, fun j => ?_, fun q hq => ?_, ?_⟩
  · rw [hm j, hr j]
    show _ ↔ (blP R v (k + 1) j ∨ ∃ i, blP R v (k + 1) i ∧ R i j)
    constructor
    · rintro (h | ⟨i, h1, h2⟩)
      · exact Or.inl ((q2 j).mp h)
      · exact Or.inr ⟨i, (q2 i).mp h1, h2⟩
    · rintro (h | ⟨i, h1, h2⟩)
      · exact Or.inl ((q2 j).mpr h)
      · exact Or.inr ⟨i, (q2 i).mpr h1, h2⟩
  · rcases Nat.lt_or_ge q k with h9 | h9
    · exact q3 q h9
    · have e : q = k := by omega
      subst e
      exact ⟨j, (q2 j).mp hj1, fun h8 => hj2 ((q1 j).mpr h8)⟩
  · have h9 := bcn_lt (s := set) (t := a1) sub hj1 hj2 16 (Me_lt hj1 h1.2)
    omega
theorem fa_end {R : Nat → Nat → Prop} {v : Nat} {set : Int} {k : Nat} (h : faP R v set set k) : frP R v k ∧ k ≤ 15 := by
  obtain ⟨q1, q2, q3, q4⟩ := h
  have := bcn_le set 16
  exact ⟨⟨fun j hj => (q1 j).mp ((q2 j).mpr hj), q3⟩, by omega⟩
/-- columns of far -/
def fcP (R : Nat → Nat → Prop) (n : Int) (v : Int) (cl : Nat → Int64) : Prop := (∀ u : Nat, (u : Int) < v → 0 ≤ (cl u).toInt ∧ frP R u (cl u).toInt.toNat) ∧ ∀ u : Nat, v ≤ (u : Int) → (u : Int) < n → cl u = 0
theorem inV_sh {fr tt dr : Nat → Int} {g k v u : Int} (hu : u = inV tt fr dr g k v) (hk : 0 ≤ k) : u = if sh fr (60 * g) k.toNat = v then sh tt (60 * g) k.toNat else if dr g.toNat = 0 ∧ sh tt (60 * g) k.toNat = v then sh fr (60 * g) k.toNat else -1 := by
  rw [hu]; unfold inV; rw [sh_at fr (60 * g) hk, sh_at tt (60 * g) hk]
theorem wk_y {fr tt dr : Nat → Int} {c : Nat → Int64} {g k v u : Int} {s : Int64} (h : s = wkA (dr g.toNat) (sh fr (60 * g)) (sh tt (60 * g)) c v.toNat k.toNat) (hk : 0 ≤ k) (hv : 0 ≤ v) (hu : u = inV tt fr dr g k v) (h0 : 0 ≤ u) : s + c u.toNat = wkA (dr g.toNat) (sh fr (60 * g)) (sh tt (60 * g)) c v.toNat (k + 1).toNat := by
  rw [tn1 hk]
  show _ = wkA (dr g.toNat) (sh fr (60 * g)) (sh tt (60 * g)) c v.toNat k.toNat + _
  rw [← h]
  have e := inV_sh hu hk
  have ev : ((v.toNat : Nat) : Int) = v := Int.toNat_of_nonneg hv
  congr 1
  rw [ev]
  revert e
  split
  · intro e; rw [e]
  · split
    · intro e; rw [e]
    · intro e; omega
theorem wk_n {fr tt dr : Nat → Int} {c : Nat → Int64} {g k v u : Int} {s : Int64} (h : s = wkA (dr g.toNat) (sh fr (60 * g)) (sh tt (60 * g)) c v.toNat k.toNat) (hk : 0 ≤ k) (hv : 0 ≤ v) (hu : u = inV tt fr dr g k v) (h0 : u < 0) (hF : Rfx 7260 0 15 fr) (hT : Rfx 7260 0 15 tt) (hg : 0 ≤ g ∧ g ≤ 120) (hk9 : k ≤ 59) : s + 0 = wkA (dr g.toNat) (sh fr (60 * g)) (sh tt (60 * g)) c v.toNat (k + 1).toNat := by
  rw [tn1 hk]
  show _ = wkA (dr g.toNat) (sh fr (60 * g)) (sh tt (60 * g)) c v.toNat k.toNat + _
  rw [← h]
  have e := inV_sh hu hk
  have ev : ((v.toNat : Nat) : Int) = v := Int.toNat_of_nonneg hv
  have r1 := hF (60 * g + k).toNat (by omega)
  have r2 := hT (60 * g + k).toNat (by omega)
  rw [sh_at fr (60 * g) hk] at r1
  rw [sh_at tt (60 * g) hk] at r2
  congr 1
  rw [ev]
  revert e
  split
  · intro e; omega
  · split
    · intro e; omega
    · intro _; rfl
theorem wkA_eq {d : Int} {F T : Nat → Int} {c c' : Nat → Int64} {n : Int} (h : ∀ u : Nat, (u : Int) < n → c u = c' u) (v : Nat) : ∀ {m : Nat}, (∀ k, k < m → (0 ≤ F k ∧ F k < n) ∧ (0 ≤ T k ∧ T k < n)) → wkA d F T c v m = wkA d F T c' v m := by
  intro m
  induction m with
  | zero => intro _; rfl
  | succ m ih =>
    intro hF
    have h1 := hF m (by omega)
    show wkA d F T c v m + _ = wkA d F T c' v m + _
    rw [ih (fun k hk => hF k (by omega)), h (F m).toNat (by omega), h (T m).toNat (by omega)]
/-- the rows below v are new, the others old -/
def mixP (n v : Int) (cl a b : Nat → Int64) : Prop := ∀ u : Nat, (u : Int) < n → ((u : Int) < v → cl u = a u) ∧ (v ≤ (u : Int) → cl u = b u)
theorem enF {fr tt mn sz : Nat → Int} {g : Int} (h : enP fr tt mn sz g) (hF : Rfx 7260 0 15 fr) (hT : Rfx 7260 0 15 tt) (hg : 0 ≤ g ∧ g ≤ 120) (hm : mn g.toNat ≤ 60) : ∀ k, k < (mn g.toNat).toNat → (0 ≤ sh fr (60 * g) k ∧ sh fr (60 * g) k < sz g.toNat) ∧ (0 ≤ sh tt (60 * g) k ∧ sh tt (60 * g) k < sz g.toNat) := by
  intro k hk
  have h1 := h (k : Int) (by omega) (by omega)
  have h2 := hF (60 * g + (k : Int)).toNat (by omega)
  have h3 := hT (60 * g + (k : Int)).toNat (by omega)
  exact ⟨⟨h2.1, h1.1⟩, ⟨h3.1, h1.2⟩⟩
def hsP (o : Option Int64) (s : Int) (a : Int64) : Prop := (o = none ∧ s = 0) ∨ (o = some a ∧ s = 1)
theorem hd_up {d : Int} {F T W : Nat → Int} {kind j : Int} {c : Nat → Int64} {v : Nat} {k s : Int} {a u mg x : Int64} (h : hsP (hdA d F T W kind j c v k.toNat) s a) (h0 : 0 ≤ k) (hx : (T k.toNat = (v : Int) ∧ u = c (F k.toNat).toNat) ∨ (T k.toNat ≠ (v : Int) ∧ (d = 0 ∧ F k.toNat = (v : Int)) ∧ u = c (T k.toNat).toNat)) (hm : mg = mgV kind u (iv (W k.toNat)).toInt64) (hs : (s = 0 → x = mg) ∧ (s ≠ 0 → x = jnV j a mg)) : hsP (hdA d F T W kind j c v (k + 1).toNat) 1 x := by
  rw [tn1 h0]
  right
  refine ⟨?_, rfl⟩
  show (if T k.toNat = (v : Int) then _ else if d = 0 ∧ F k.toNat = (v : Int) then _ else hdA d F T W kind j c v k.toNat) = some x
  rcases hx with ⟨q1, q2⟩ | ⟨q1, q2, q3⟩
  · rw [if_pos q1]
    subst q2
    rcases h with ⟨e, es⟩ | ⟨e, es⟩
    · rw [e, hs.1 es, hm]
    · rw [e, hs.2 (by omega), hm]
  · rw [if_neg q1, if_pos q2]
    subst q3
    rcases h with ⟨e, es⟩ | ⟨e, es⟩
    · rw [e, hs.1 es, hm]
    · rw [e, hs.2 (by omega), hm]
theorem hd_no {d : Int} {F T W : Nat → Int} {kind j : Int} {c : Nat → Int64} {v : Nat} {k s : Int} {a : Int64} (h : hsP (hdA d F T W kind j c v k.toNat) s a) (h0 : 0 ≤ k) (h1 : T k.toNat ≠ (v : Int)) (h2 : ¬ (d = 0 ∧ F k.toNat = (v : Int))) : hsP (hdA d F T W kind j c v (k + 1).toNat) s a := by
  rw [tn1 h0]
  have e : hdA d F T W kind j c v (k.toNat + 1) = hdA d F T W kind j c v k.toNat := by
    show (if T k.toNat = (v : Int) then _ else if d = 0 ∧ F k.toNat = (v : Int) then _ else hdA d F T W kind j c v k.toNat) = _
    rw [if_neg h1, if_neg h2]
  rw [e]; exact h
theorem hdA_eq {d : Int} {F T W : Nat → Int} {kind j : Int} {c c' : Nat → Int64} {n : Int} (h : ∀ u : Nat, (u : Int) < n → c u = c' u) (v : Nat) : ∀ {m : Nat}, (∀ k, k < m → (0 ≤ F k ∧ F k < n) ∧ (0 ≤ T k ∧ T k < n)) → hdA d F T W kind j c v m = hdA d F T W kind j c' v m := by
  intro m
  induction m with
  | zero => intro _; rfl
  | succ m ih =>
    intro hF
    have h1 := hF m (by omega)
    simp only [hdA]
    rw [ih (fun k hk => hF k (by omega)), h (F m).toNat (by omega), h (T m).toNat (by omega)]
def eqB (f g : Nat → Int64) (v : Int) : Prop := ∀ u : Nat, (u : Int) < v → f u = g u
theorem eqB_0 (f g : Nat → Int64) : eqB f g 0 := fun u hu => by omega
theorem eqB_up {f g : Nat → Int64} {v : Int} {x : Int64} (h : eqB f g v) (hv : 0 ≤ v) (hx : x = g v.toNat) : eqB (fuj f v.toNat x) g (v + 1) := by
  intro u hu
  by_cases e : u = v.toNat
  · subst e; rw [fuj_s]; exact hx
  · rw [fuj_o _ _ e]; exact h u (by omega)
theorem eqB_le {f g : Nat → Int64} {v w : Int} (h : eqB f g v) (hw : w ≤ v) : eqB f g w := fun u hu => h u (by omega)
def exJ (f g : Nat → Int64) (i : Nat) : Prop := ∀ u : Nat, u ≠ i → f u = g u
theorem exJ_r (f : Nat → Int64) (i : Nat) : exJ f f i := fun _ _ => rfl
theorem exJ_up {f g : Nat → Int64} {i : Nat} {x : Int64} (h : exJ f g i) : exJ (fuj f i x) g i := fun u hu => by rw [fuj_o _ _ hu]; exact h u hu
def exI (f g : Nat → Int) (i : Nat) : Prop := ∀ u : Nat, u ≠ i → f u = g u
theorem exI_u (f : Nat → Int) (i : Nat) (x : Int) : exI (fup f i x) f i := fun _ hu => by rw [fup_o _ _ hu]
theorem exI_up {f g : Nat → Int} {i : Nat} {x : Int} (h : exI f g i) : exI (fup f i x) g i := fun u hu => by rw [fup_o _ _ hu]; exact h u hu
theorem wc_up {m : Nat} {d : Int} {F T : Nat → Int} {n : Int} {r v : Int} {cl : Nat → Int64} (h : eqB cl (wkC m d F T (r.toNat + 1)) v) (h0 : 0 ≤ r) (hn : n ≤ v) : eqB cl (wkC m d F T (r + 1).toNat) n := by
  intro u hu
  rw [tn1 h0]; exact h u (by omega)
theorem cl_inc {c : Int64} (h : 0 ≤ c.toInt ∧ c.toInt ≤ 15) : (c + 1).toInt.toNat = c.toInt.toNat + 1 := by
  have e : (c + 1).toInt = c.toInt + 1 := by
    have h1 : (1 : Int64).toInt = 1 := by decide
    rw [l_add (by omega), h1]
  rw [e]; omega
theorem fa_cl {R : Nat → Nat → Prop} {v : Nat} {set more : Int} {c : Int64} (h : faP R v set more (c + 1).toInt.toNat) (h0 : 0 ≤ c.toInt ∧ c.toInt ≤ 15) : 0 ≤ (c + 1).toInt ∧ (c + 1).toInt ≤ 15 := by
  have e : (c + 1).toInt = c.toInt + 1 := by
    have h1 : (1 : Int64).toInt = 1 := by decide
    rw [l_add (by omega), h1]
  have h4 := h.2.2.2
  have := bcn_le set 16
  omega
theorem fc_0 {R : Nat → Nat → Prop} {n : Int} {cl : Nat → Int64} (h : eqB cl (fun _ => 0) n) : fcP R n 0 cl := ⟨fun u hu => by omega, fun u _ hu => h u hu⟩
theorem fc_up {R : Nat → Nat → Prop} {n v : Int} {c cl : Nat → Int64} {set more : Int} (h : fcP R n v c) (ho : exJ cl c v.toNat) (hf : faP R v.toNat set more (Int.toNat (cl v.toNat).toInt)) (he : more = set) (hv : 0 ≤ v) (hr : 0 ≤ (cl v.toNat).toInt) : fcP R n (v + 1) cl := by
  refine ⟨fun u hu => ?_, fun u hu hn => ?_⟩
  · by_cases e : u = v.toNat
    · subst e
      rw [he] at hf
      exact ⟨hr, (fa_end hf).1⟩
    · rw [ho u e]; exact h.1 u (by omega)
  · rw [ho u (by omega)]; exact h.2 u (by omega) hn
set_option maxHeartbeats 4000000 in
set_option maxRecDepth 100000 in
theorem x_X12_over {D : va_G} {cI cJ cZ cT : ClassId} {lo b L : Nat} {xs : Nat → Int32} {hp : MH} {n d : Nat} {Γ : TG} {y : Nat} {rf cn nm : Int} {so sz dr mn fr tt wt co : Nat → Int} {nu : Nat → Int64} {sa : Nat → Int} {wo : Nat → Int64} {ln : Nat → Int} {hw : Nat → Int64} {ro qi qc nf nt nw nc : Nat → Int} {cl nx : Nat → Int64} {ie be sd bl : Nat → Int} {bs wy ra rb : Nat → Int64} {lb bg os js ls : Nat → Int} {sp : Nat → Int64} {jw go : Nat → Int} {de : Nat → Int64} {yb ah im : Nat → Int} {x1 x2 x3 : Int} {Po9 : Option Value → MH → Nat → Prop} (hd0 : 1 ≤ d) (hR_from : Rfx 7260 0 15 fr) (hR_to : Rfx 7260 0 15 tt) (hR_directs : Rfx 121 0 1 dr) (ht : Tw (RX Γ cI cJ cZ y rf cn nm so sz dr mn fr tt wt co nu sa wo ln hw ro qi qc nf nt nw nc cl nx ie be sd bl bs wy ra rb lb bg os js ls sp jw go de yb ah im) hp) (hx1 : 0 ≤ x1 ∧ x1 ≤ 120) (hx2 : 0 ≤ x2 ∧ x2 ≤ 59) (hx3 : 0 ≤ x3 ∧ x3 ≤ 15) (hPo : ∀ r hp1 n1, (n1 = n ∧ ∃ (r9 : Int), Tw (RX Γ cI cJ cZ y rf cn nm so sz dr mn fr tt wt co nu sa wo ln hw ro qi qc nf nt nw nc cl nx ie be sd bl bs wy ra rb lb bg os js ls sp jw go de yb ah im) hp1 ∧ r = some (.int (iv r9)) ∧ (r9 = inV tt fr dr x1 x2 x3) ∧ ((-1) ≤ r9 ∧ r9 ≤ 15)) → Po9 r hp1 n1) : Mt (gG D cI cJ cZ cT lo b L xs) mX12_over d 0 0 [.ref y, .int (iv x1), .int (iv x2), .int (iv x3)] hp n Po9 := by
  refine Mt.of rfl (Nat.le_of_ble_eq_true rfl) ?_
  refine Rn.pick (lv' := [(0, .ref y), (1, .int (iv x1)), (2, .int (iv x2)), (3, .int (iv x3))]) [0, 1, 2, 3] rfl ?_
  refine r_iload_n (pc := 0) dX12_over_0 (i := 1) rfl rfl ?_
  refine r_iload_n (pc := 1) dX12_over_1 (i := 2) rfl rfl ?_
  refine t_callSI (pc := 2) (as := [.int (iv x1), .int (iv x2)]) (st := []) kX12_157 dX12_over_2 (t_X12_at1x (d := d - 1) (x1 := x1) (x2 := x2) (by omega)  ht (by omega) (by omega)) rfl (by omega) (Nat.le_of_ble_eq_true rfl) rfl (fun hp1 y3 ht2 by3 => ?_)
  have ey3 : y3 = 60 * x1 + x2 := by3
  subst ey3
  refine r_istore (pc := 5) (lv' := [(4, .int (iv (60 * x1 + x2))), (0, .ref y), (1, .int (iv x1)), (2, .int (iv x2)), (3, .int (iv x3))]) dX12_over_5 (by decide) rfl ?_
  refine r_aload_n (pc := 7) dX12_over_7 (i := 0) rfl rfl ?_
  refine t_getE (pc := 8) (.ref (y + 5)) ht2 (rd_of RX_y) fX12_23 dX12_over_8 rfl ?_
  refine r_iload (pc := 11) dX12_over_11 rfl ?_
  refine t_ialdX (pc := 13) (t0 := 0) ht2 (rd_of RX_from) dX12_over_13 rfl (by decide) (by omega) (fun b4 => ?_)
  have rb4 := (show Rfx 7260 0 15 fr by assumption) (Int.toNat (60 * x1 + x2)) (by omega)
  refine r_iload_n (pc := 14) dX12_over_14 (i := 3) rfl rfl ?_
  refine t_icmp_ne (pc := 15) (tgt := 28) dX12_over_15 (by decide) (by omega) (by omega) (fun c15 => ?_) (fun c15 => ?_)
  · refine r_aload_n (pc := 28) dX12_over_28 (i := 0) rfl rfl ?_
    refine t_getE (pc := 29) (.ref (y + 3)) ht2 (rd_of RX_y) fX12_16 dX12_over_29 rfl ?_
    refine r_iload_n (pc := 32) dX12_over_32 (i := 1) rfl rfl ?_
    refine t_zaldX (pc := 33) (t0 := 2) ht2 (rd_of RX_directs) dX12_over_33 rfl (by decide) (by omega) (fun b5 => ?_)
    have rb5 := (show Rfx 121 0 1 dr by assumption) (Int.toNat x1) (by omega)
    refine t_if_ne (pc := 34) (tgt := 58) dX12_over_34 (by decide) (by omega) (fun c34 => ?_) (fun c34 => ?_)
    · refine r_iconst (pc := 58) (v := iv (-1)) dX12_over_58 (by decide) ?_
      exact r_iret (pc := 59) dX12_over_59 rfl (hPo _ _ _ ⟨rfl, (-1), ht2, rfl, (by unfold inV; (repeat' split) <;> omega), (by omega)⟩)
    · refine r_aload_n (pc := 37) dX12_over_37 (i := 0) rfl rfl ?_
      refine t_getE (pc := 38) (.ref (y + 6)) ht2 (rd_of RX_y) fX12_26 dX12_over_38 rfl ?_
      refine r_iload (pc := 41) dX12_over_41 rfl ?_
      refine t_ialdX (pc := 43) (t0 := 0) ht2 (rd_of RX_to) dX12_over_43 rfl (by decide) (by omega) (fun b6 => ?_)
      have rb6 := (show Rfx 7260 0 15 tt by assumption) (Int.toNat (60 * x1 + x2)) (by omega)
      refine r_iload_n (pc := 44) dX12_over_44 (i := 3) rfl rfl ?_
      refine t_icmp_ne (pc := 45) (tgt := 58) dX12_over_45 (by decide) (by omega) (by omega) (fun c45 => ?_) (fun c45 => ?_)
      · refine r_iconst (pc := 58) (v := iv (-1)) dX12_over_58 (by decide) ?_
        exact r_iret (pc := 59) dX12_over_59 rfl (hPo _ _ _ ⟨rfl, (-1), ht2, rfl, (by unfold inV; (repeat' split) <;> omega), (by omega)⟩)
      · refine r_aload_n (pc := 48) dX12_over_48 (i := 0) rfl rfl ?_
        refine t_getE (pc := 49) (.ref (y + 5)) ht2 (rd_of RX_y) fX12_23 dX12_over_49 rfl ?_
        refine r_iload (pc := 52) dX12_over_52 rfl ?_
        refine t_ialdX (pc := 54) (t0 := 0) ht2 (rd_of RX_from) dX12_over_54 rfl (by decide) (by omega) (fun b7 => ?_)
        have rb7 := (show Rfx 7260 0 15 fr by assumption) (Int.toNat (60 * x1 + x2)) (by omega)
        refine r_goto (pc := 55) (tgt := 59) dX12_over_55 (by decide) ?_
        exact r_iret (pc := 59) dX12_over_59 rfl (hPo _ _ _ ⟨rfl, (fr (Int.toNat (60 * x1 + x2))), ht2, rfl, (by unfold inV; (repeat' split) <;> omega), (by omega)⟩)
  · refine r_aload_n (pc := 18) dX12_over_18 (i := 0) rfl rfl ?_
    refine t_getE (pc := 19) (.ref (y + 6)) ht2 (rd_of RX_y) fX12_26 dX12_over_19 rfl ?_
    refine r_iload (pc := 22) dX12_over_22 rfl ?_
    refine t_ialdX (pc := 24) (t0 := 0) ht2 (rd_of RX_to) dX12_over_24 rfl (by decide) (by omega) (fun b8 => ?_)
    have rb8 := (show Rfx 7260 0 15 tt by assumption) (Int.toNat (60 * x1 + x2)) (by omega)
    refine r_goto (pc := 25) (tgt := 59) dX12_over_25 (by decide) ?_
    exact r_iret (pc := 59) dX12_over_59 rfl (hPo _ _ _ ⟨rfl, (tt (Int.toNat (60 * x1 + x2))), ht2, rfl, (by unfold inV; (repeat' split) <;> omega), (by omega)⟩)
set_option maxHeartbeats 4000000 in
set_option maxRecDepth 100000 in
theorem x_X12_sameEnds {D : va_G} {cI cJ cZ cT : ClassId} {lo b L : Nat} {xs : Nat → Int32} {hp : MH} {n d : Nat} {Γ : TG} {y : Nat} {rf cn nm : Int} {so sz dr mn fr tt wt co : Nat → Int} {nu : Nat → Int64} {sa : Nat → Int} {wo : Nat → Int64} {ln : Nat → Int} {hw : Nat → Int64} {ro qi qc nf nt nw nc : Nat → Int} {cl nx : Nat → Int64} {ie be sd bl : Nat → Int} {bs wy ra rb : Nat → Int64} {lb bg os js ls : Nat → Int} {sp : Nat → Int64} {jw go : Nat → Int} {de : Nat → Int64} {yb ah im : Nat → Int} {x1 x2 x3 : Int} {Po9 : Option Value → MH → Nat → Prop} (hd0 : 0 ≤ d) (hR_from : Rfx 7260 0 15 fr) (hR_to : Rfx 7260 0 15 tt) (hR_directs : Rfx 121 0 1 dr) (ht : Tw (RX Γ cI cJ cZ y rf cn nm so sz dr mn fr tt wt co nu sa wo ln hw ro qi qc nf nt nw nc cl nx ie be sd bl bs wy ra rb lb bg os js ls sp jw go de yb ah im) hp) (hx1 : 0 ≤ x1 ∧ x1 ≤ 120) (hx2 : 0 ≤ x2 ∧ x2 ≤ 7259) (hx3 : 0 ≤ x3 ∧ x3 ≤ 7259) (hPo : ∀ r hp1 n1, (n1 = n ∧ ∃ (r9 : Int), Tw (RX Γ cI cJ cZ y rf cn nm so sz dr mn fr tt wt co nu sa wo ln hw ro qi qc nf nt nw nc cl nx ie be sd bl bs wy ra rb lb bg os js ls sp jw go de yb ah im) hp1 ∧ r = some (.int (iv r9)) ∧ ((r9 = 1 ∧ ((fr (Int.toNat x2) = fr (Int.toNat x3) ∧ tt (Int.toNat x2) = tt (Int.toNat x3)) ∨ (dr (Int.toNat x1) = 0 ∧ fr (Int.toNat x2) = tt (Int.toNat x3) ∧ tt (Int.toNat x2) = fr (Int.toNat x3)))) ∨ (r9 = 0 ∧ ¬ ((fr (Int.toNat x2) = fr (Int.toNat x3) ∧ tt (Int.toNat x2) = tt (Int.toNat x3)) ∨ (dr (Int.toNat x1) = 0 ∧ fr (Int.toNat x2) = tt (Int.toNat x3) ∧ tt (Int.toNat x2) = fr (Int.toNat x3)))))) → Po9 r hp1 n1) : Mt (gG D cI cJ cZ cT lo b L xs) mX12_sameEnds d 0 0 [.ref y, .int (iv x1), .int (iv x2), .int (iv x3)] hp n Po9 := by
  refine Mt.of rfl (Nat.le_of_ble_eq_true rfl) ?_
  refine Rn.pick (lv' := [(0, .ref y), (1, .int (iv x1)), (2, .int (iv x2)), (3, .int (iv x3))]) [0, 1, 2, 3] rfl ?_
  refine r_aload_n (pc := 0) dX12_sameEnds_0 (i := 0) rfl rfl ?_
  refine t_getE (pc := 1) (.ref (y + 5)) ht (rd_of RX_y) fX12_23 dX12_sameEnds_1 rfl ?_
  refine r_iload_n (pc := 4) dX12_sameEnds_4 (i := 2) rfl rfl ?_
  refine t_ialdX (pc := 5) (t0 := 0) ht (rd_of RX_from) dX12_sameEnds_5 rfl (by decide) (by omega) (fun b1 => ?_)
  have rb1 := (show Rfx 7260 0 15 fr by assumption) (Int.toNat x2) (by omega)
  refine r_aload_n (pc := 6) dX12_sameEnds_6 (i := 0) rfl rfl ?_
  refine t_getE (pc := 7) (.ref (y + 5)) ht (rd_of RX_y) fX12_23 dX12_sameEnds_7 rfl ?_
  refine r_iload_n (pc := 10) dX12_sameEnds_10 (i := 3) rfl rfl ?_
  refine t_ialdX (pc := 11) (t0 := 0) ht (rd_of RX_from) dX12_sameEnds_11 rfl (by decide) (by omega) (fun b2 => ?_)
  have rb2 := (show Rfx 7260 0 15 fr by assumption) (Int.toNat x3) (by omega)
  refine t_icmp_ne (pc := 12) (tgt := 34) dX12_sameEnds_12 (by decide) (by omega) (by omega) (fun c12 => ?_) (fun c12 => ?_)
  · refine r_iconst (pc := 34) (v := iv 0) dX12_sameEnds_34 (by decide) ?_
    refine r_istore (pc := 35) (lv' := [(4, .int (iv 0)), (0, .ref y), (1, .int (iv x1)), (2, .int (iv x2)), (3, .int (iv x3))]) dX12_sameEnds_35 (by decide) rfl ?_
    refine r_iload (pc := 37) dX12_sameEnds_37 rfl ?_
    refine t_if_ne (pc := 39) (tgt := 81) dX12_sameEnds_39 (by decide) (by omega) (fun c39 => ?_) (fun c39 => ?_)
    · exfalso
      omega
    · refine r_aload_n (pc := 42) dX12_sameEnds_42 (i := 0) rfl rfl ?_
      refine t_getE (pc := 43) (.ref (y + 3)) ht (rd_of RX_y) fX12_16 dX12_sameEnds_43 rfl ?_
      refine r_iload_n (pc := 46) dX12_sameEnds_46 (i := 1) rfl rfl ?_
      refine t_zaldX (pc := 47) (t0 := 2) ht (rd_of RX_directs) dX12_sameEnds_47 rfl (by decide) (by omega) (fun b3 => ?_)
      have rb3 := (show Rfx 121 0 1 dr by assumption) (Int.toNat x1) (by omega)
      refine t_if_ne (pc := 48) (tgt := 85) dX12_sameEnds_48 (by decide) (by omega) (fun c48 => ?_) (fun c48 => ?_)
      · refine r_iconst (pc := 85) (v := iv 0) dX12_sameEnds_85 (by decide) ?_
        exact r_zret (pc := 86) dX12_sameEnds_86 rfl (iv_nar (by omega)) (hPo _ _ _ ⟨rfl, 0, ht, rfl, (by omega)⟩)
      · refine r_aload_n (pc := 51) dX12_sameEnds_51 (i := 0) rfl rfl ?_
        refine t_getE (pc := 52) (.ref (y + 5)) ht (rd_of RX_y) fX12_23 dX12_sameEnds_52 rfl ?_
        refine r_iload_n (pc := 55) dX12_sameEnds_55 (i := 2) rfl rfl ?_
        refine t_ialdX (pc := 56) (t0 := 0) ht (rd_of RX_from) dX12_sameEnds_56 rfl (by decide) (by omega) (fun b4 => ?_)
        have rb4 := (show Rfx 7260 0 15 fr by assumption) (Int.toNat x2) (by omega)
        refine r_aload_n (pc := 57) dX12_sameEnds_57 (i := 0) rfl rfl ?_
        refine t_getE (pc := 58) (.ref (y + 6)) ht (rd_of RX_y) fX12_26 dX12_sameEnds_58 rfl ?_
        refine r_iload_n (pc := 61) dX12_sameEnds_61 (i := 3) rfl rfl ?_
        refine t_ialdX (pc := 62) (t0 := 0) ht (rd_of RX_to) dX12_sameEnds_62 rfl (by decide) (by omega) (fun b5 => ?_)
        have rb5 := (show Rfx 7260 0 15 tt by assumption) (Int.toNat x3) (by omega)
        refine t_icmp_ne (pc := 63) (tgt := 85) dX12_sameEnds_63 (by decide) (by omega) (by omega) (fun c63 => ?_) (fun c63 => ?_)
        · refine r_iconst (pc := 85) (v := iv 0) dX12_sameEnds_85 (by decide) ?_
          exact r_zret (pc := 86) dX12_sameEnds_86 rfl (iv_nar (by omega)) (hPo _ _ _ ⟨rfl, 0, ht, rfl, (by omega)⟩)
        · refine r_aload_n (pc := 66) dX12_sameEnds_66 (i := 0) rfl rfl ?_
          refine t_getE (pc := 67) (.ref (y + 6)) ht (rd_of RX_y) fX12_26 dX12_sameEnds_67 rfl ?_
          refine r_iload_n (pc := 70) dX12_sameEnds_70 (i := 2) rfl rfl ?_
          refine t_ialdX (pc := 71) (t0 := 0) ht (rd_of RX_to) dX12_sameEnds_71 rfl (by decide) (by omega) (fun b6 => ?_)
          have rb6 := (show Rfx 7260 0 15 tt by assumption) (Int.toNat x2) (by omega)
          refine r_aload_n (pc := 72) dX12_sameEnds_72 (i := 0) rfl rfl ?_
          refine t_getE (pc := 73) (.ref (y + 5)) ht (rd_of RX_y) fX12_23 dX12_sameEnds_73 rfl ?_
          refine r_iload_n (pc := 76) dX12_sameEnds_76 (i := 3) rfl rfl ?_
          refine t_ialdX (pc := 77) (t0 := 0) ht (rd_of RX_from) dX12_sameEnds_77 rfl (by decide) (by omega) (fun b7 => ?_)
          have rb7 := (show Rfx 7260 0 15 fr by assumption) (Int.toNat x3) (by omega)
          refine t_icmp_ne (pc := 78) (tgt := 85) dX12_sameEnds_78 (by decide) (by omega) (by omega) (fun c78 => ?_) (fun c78 => ?_)
          · refine r_iconst (pc := 85) (v := iv 0) dX12_sameEnds_85 (by decide) ?_
            exact r_zret (pc := 86) dX12_sameEnds_86 rfl (iv_nar (by omega)) (hPo _ _ _ ⟨rfl, 0, ht, rfl, (by omega)⟩)
          · refine r_iconst (pc := 81) (v := iv 1) dX12_sameEnds_81 (by decide) ?_
            refine r_goto (pc := 82) (tgt := 86) dX12_sameEnds_82 (by decide) ?_
            exact r_zret (pc := 86) dX12_sameEnds_86 rfl (iv_nar (by omega)) (hPo _ _ _ ⟨rfl, 1, ht, rfl, (by omega)⟩)
  · refine r_aload_n (pc := 15) dX12_sameEnds_15 (i := 0) rfl rfl ?_
    refine t_getE (pc := 16) (.ref (y + 6)) ht (rd_of RX_y) fX12_26 dX12_sameEnds_16 rfl ?_
    refine r_iload_n (pc := 19) dX12_sameEnds_19 (i := 2) rfl rfl ?_
    refine t_ialdX (pc := 20) (t0 := 0) ht (rd_of RX_to) dX12_sameEnds_20 rfl (by decide) (by omega) (fun b8 => ?_)
    have rb8 := (show Rfx 7260 0 15 tt by assumption) (Int.toNat x2) (by omega)
    refine r_aload_n (pc := 21) dX12_sameEnds_21 (i := 0) rfl rfl ?_
    refine t_getE (pc := 22) (.ref (y + 6)) ht (rd_of RX_y) fX12_26 dX12_sameEnds_22 rfl ?_
    refine r_iload_n (pc := 25) dX12_sameEnds_25 (i := 3) rfl rfl ?_
    refine t_ialdX (pc := 26) (t0 := 0) ht (rd_of RX_to) dX12_sameEnds_26 rfl (by decide) (by omega) (fun b9 => ?_)
    have rb9 := (show Rfx 7260 0 15 tt by assumption) (Int.toNat x3) (by omega)
    refine t_icmp_ne (pc := 27) (tgt := 34) dX12_sameEnds_27 (by decide) (by omega) (by omega) (fun c27 => ?_) (fun c27 => ?_)
    · refine r_iconst (pc := 34) (v := iv 0) dX12_sameEnds_34 (by decide) ?_
      refine r_istore (pc := 35) (lv' := [(4, .int (iv 0)), (0, .ref y), (1, .int (iv x1)), (2, .int (iv x2)), (3, .int (iv x3))]) dX12_sameEnds_35 (by decide) rfl ?_
      refine r_iload (pc := 37) dX12_sameEnds_37 rfl ?_
      refine t_if_ne (pc := 39) (tgt := 81) dX12_sameEnds_39 (by decide) (by omega) (fun c39 => ?_) (fun c39 => ?_)
      · exfalso
        omega
      · refine r_aload_n (pc := 42) dX12_sameEnds_42 (i := 0) rfl rfl ?_
        refine t_getE (pc := 43) (.ref (y + 3)) ht (rd_of RX_y) fX12_16 dX12_sameEnds_43 rfl ?_
        refine r_iload_n (pc := 46) dX12_sameEnds_46 (i := 1) rfl rfl ?_
        refine t_zaldX (pc := 47) (t0 := 2) ht (rd_of RX_directs) dX12_sameEnds_47 rfl (by decide) (by omega) (fun b10 => ?_)
        have rb10 := (show Rfx 121 0 1 dr by assumption) (Int.toNat x1) (by omega)
        refine t_if_ne (pc := 48) (tgt := 85) dX12_sameEnds_48 (by decide) (by omega) (fun c48 => ?_) (fun c48 => ?_)
        · refine r_iconst (pc := 85) (v := iv 0) dX12_sameEnds_85 (by decide) ?_
          exact r_zret (pc := 86) dX12_sameEnds_86 rfl (iv_nar (by omega)) (hPo _ _ _ ⟨rfl, 0, ht, rfl, (by omega)⟩)
        · refine r_aload_n (pc := 51) dX12_sameEnds_51 (i := 0) rfl rfl ?_
          refine t_getE (pc := 52) (.ref (y + 5)) ht (rd_of RX_y) fX12_23 dX12_sameEnds_52 rfl ?_
          refine r_iload_n (pc := 55) dX12_sameEnds_55 (i := 2) rfl rfl ?_
          refine t_ialdX (pc := 56) (t0 := 0) ht (rd_of RX_from) dX12_sameEnds_56 rfl (by decide) (by omega) (fun b11 => ?_)
          have rb11 := (show Rfx 7260 0 15 fr by assumption) (Int.toNat x2) (by omega)
          refine r_aload_n (pc := 57) dX12_sameEnds_57 (i := 0) rfl rfl ?_
          refine t_getE (pc := 58) (.ref (y + 6)) ht (rd_of RX_y) fX12_26 dX12_sameEnds_58 rfl ?_
          refine r_iload_n (pc := 61) dX12_sameEnds_61 (i := 3) rfl rfl ?_
          refine t_ialdX (pc := 62) (t0 := 0) ht (rd_of RX_to) dX12_sameEnds_62 rfl (by decide) (by omega) (fun b12 => ?_)
          have rb12 := (show Rfx 7260 0 15 tt by assumption) (Int.toNat x3) (by omega)
          refine t_icmp_ne (pc := 63) (tgt := 85) dX12_sameEnds_63 (by decide) (by omega) (by omega) (fun c63 => ?_) (fun c63 => ?_)
          · refine r_iconst (pc := 85) (v := iv 0) dX12_sameEnds_85 (by decide) ?_
            exact r_zret (pc := 86) dX12_sameEnds_86 rfl (iv_nar (by omega)) (hPo _ _ _ ⟨rfl, 0, ht, rfl, (by omega)⟩)
          · refine r_aload_n (pc := 66) dX12_sameEnds_66 (i := 0) rfl rfl ?_
            refine t_getE (pc := 67) (.ref (y + 6)) ht (rd_of RX_y) fX12_26 dX12_sameEnds_67 rfl ?_
            refine r_iload_n (pc := 70) dX12_sameEnds_70 (i := 2) rfl rfl ?_
            refine t_ialdX (pc := 71) (t0 := 0) ht (rd_of RX_to) dX12_sameEnds_71 rfl (by decide) (by omega) (fun b13 => ?_)
            have rb13 := (show Rfx 7260 0 15 tt by assumption) (Int.toNat x2) (by omega)
            refine r_aload_n (pc := 72) dX12_sameEnds_72 (i := 0) rfl rfl ?_
            refine t_getE (pc := 73) (.ref (y + 5)) ht (rd_of RX_y) fX12_23 dX12_sameEnds_73 rfl ?_
            refine r_iload_n (pc := 76) dX12_sameEnds_76 (i := 3) rfl rfl ?_
            refine t_ialdX (pc := 77) (t0 := 0) ht (rd_of RX_from) dX12_sameEnds_77 rfl (by decide) (by omega) (fun b14 => ?_)
            have rb14 := (show Rfx 7260 0 15 fr by assumption) (Int.toNat x3) (by omega)
            refine t_icmp_ne (pc := 78) (tgt := 85) dX12_sameEnds_78 (by decide) (by omega) (by omega) (fun c78 => ?_) (fun c78 => ?_)
            · refine r_iconst (pc := 85) (v := iv 0) dX12_sameEnds_85 (by decide) ?_
              exact r_zret (pc := 86) dX12_sameEnds_86 rfl (iv_nar (by omega)) (hPo _ _ _ ⟨rfl, 0, ht, rfl, (by omega)⟩)
            · refine r_iconst (pc := 81) (v := iv 1) dX12_sameEnds_81 (by decide) ?_
              refine r_goto (pc := 82) (tgt := 86) dX12_sameEnds_82 (by decide) ?_
              exact r_zret (pc := 86) dX12_sameEnds_86 rfl (iv_nar (by omega)) (hPo _ _ _ ⟨rfl, 1, ht, rfl, (by omega)⟩)
    · refine r_iconst (pc := 30) (v := iv 1) dX12_sameEnds_30 (by decide) ?_
      refine r_goto (pc := 31) (tgt := 35) dX12_sameEnds_31 (by decide) ?_
      refine r_istore (pc := 35) (lv' := [(4, .int (iv 1)), (0, .ref y), (1, .int (iv x1)), (2, .int (iv x2)), (3, .int (iv x3))]) dX12_sameEnds_35 (by decide) rfl ?_
      refine r_iload (pc := 37) dX12_sameEnds_37 rfl ?_
      refine t_if_ne (pc := 39) (tgt := 81) dX12_sameEnds_39 (by decide) (by omega) (fun c39 => ?_) (fun c39 => ?_)
      · refine r_iconst (pc := 81) (v := iv 1) dX12_sameEnds_81 (by decide) ?_
        refine r_goto (pc := 82) (tgt := 86) dX12_sameEnds_82 (by decide) ?_
        exact r_zret (pc := 86) dX12_sameEnds_86 rfl (iv_nar (by omega)) (hPo _ _ _ ⟨rfl, 1, ht, rfl, (by omega)⟩)
      · exfalso
        omega
set_option maxHeartbeats 4000000 in
set_option maxRecDepth 100000 in
theorem t_X12_joinedx {D : va_G} {cI cJ cZ cT : ClassId} {lo b L : Nat} {xs : Nat → Int32} {hp : MH} {n d : Nat} {Γ : TG} {x1 : Int} {j2 j3 : Int64} (hd0 : 0 ≤ d) (ht : Tw Γ hp) (hx1 : 0 ≤ x1 ∧ x1 ≤ 3) : Mt (gG D cI cJ cZ cT lo b L xs) mX12_joined d 0 0 [.int (iv x1), .long j2, .long j3] hp n (pJ Γ n (fun r => r = jnV x1 j2 j3)) := by
  refine Mt.of rfl (Nat.le_of_ble_eq_true rfl) ?_
  refine Rn.pick (lv' := [(0, .int (iv x1)), (1, .long j2), (3, .long j3)]) [0, 1, 2] rfl ?_
  refine r_iload_n (pc := 0) dX12_joined_0 (i := 0) rfl rfl ?_
  refine t_if_ne (pc := 1) (tgt := 18) dX12_joined_1 (by decide) (by omega) (fun c1 => ?_) (fun c1 => ?_)
  · refine r_iload_n (pc := 18) dX12_joined_18 (i := 0) rfl rfl ?_
    refine r_iconst (pc := 19) (v := iv 1) dX12_joined_19 (by decide) ?_
    refine t_icmp_ne (pc := 20) (tgt := 37) dX12_joined_20 (by decide) (by omega) (by omega) (fun c20 => ?_) (fun c20 => ?_)
    · refine r_iload_n (pc := 37) dX12_joined_37 (i := 0) rfl rfl ?_
      refine r_iconst (pc := 38) (v := iv 2) dX12_joined_38 (by decide) ?_
      refine t_icmp_ne (pc := 39) (tgt := 48) dX12_joined_39 (by decide) (by omega) (by omega) (fun c39 => ?_) (fun c39 => ?_)
      · refine r_lload_n (pc := 48) dX12_joined_48 (i := 1) rfl rfl ?_
        refine r_lload_n (pc := 49) dX12_joined_49 (i := 3) rfl rfl ?_
        refine r_lxor (pc := 50) (v := j2 ^^^ j3) dX12_joined_50 rfl ?_
        exact r_lret (pc := 51) dX12_joined_51 rfl ⟨rfl, ht, _, rfl, by show _ = jnV x1 j2 j3; unfold jnV; (repeat' split) <;> first | rfl | (exfalso; omega)⟩
      · refine r_lload_n (pc := 42) dX12_joined_42 (i := 1) rfl rfl ?_
        refine r_lload_n (pc := 43) dX12_joined_43 (i := 3) rfl rfl ?_
        refine r_ladd (pc := 44) (v := j2 + j3) dX12_joined_44 rfl ?_
        refine r_goto (pc := 45) (tgt := 51) dX12_joined_45 (by decide) ?_
        exact r_lret (pc := 51) dX12_joined_51 rfl ⟨rfl, ht, _, rfl, by show _ = jnV x1 j2 j3; unfold jnV; (repeat' split) <;> first | rfl | (exfalso; omega)⟩
    · refine r_lload_n (pc := 23) dX12_joined_23 (i := 1) rfl rfl ?_
      refine r_lload_n (pc := 24) dX12_joined_24 (i := 3) rfl rfl ?_
      refine r_lcmp (pc := 25) dX12_joined_25 ?_
      refine t_lif_le (pc := 26) (tgt := 33) dX12_joined_26 (by decide) (fun c26 => ?_) (fun c26 => ?_)
      · refine r_lload_n (pc := 33) dX12_joined_33 (i := 3) rfl rfl ?_
        refine r_goto (pc := 34) (tgt := 51) dX12_joined_34 (by decide) ?_
        exact r_lret (pc := 51) dX12_joined_51 rfl ⟨rfl, ht, _, rfl, by show _ = jnV x1 j2 j3; unfold jnV; (repeat' split) <;> first | rfl | (exfalso; omega)⟩
      · refine r_lload_n (pc := 29) dX12_joined_29 (i := 1) rfl rfl ?_
        refine r_goto (pc := 30) (tgt := 51) dX12_joined_30 (by decide) ?_
        exact r_lret (pc := 51) dX12_joined_51 rfl ⟨rfl, ht, _, rfl, by show _ = jnV x1 j2 j3; unfold jnV; (repeat' split) <;> first | rfl | (exfalso; omega)⟩
  · refine r_lload_n (pc := 4) dX12_joined_4 (i := 1) rfl rfl ?_
    refine r_lload_n (pc := 5) dX12_joined_5 (i := 3) rfl rfl ?_
    refine r_lcmp (pc := 6) dX12_joined_6 ?_
    refine t_lif_ge (pc := 7) (tgt := 14) dX12_joined_7 (by decide) (fun c7 => ?_) (fun c7 => ?_)
    · refine r_lload_n (pc := 14) dX12_joined_14 (i := 3) rfl rfl ?_
      refine r_goto (pc := 15) (tgt := 51) dX12_joined_15 (by decide) ?_
      exact r_lret (pc := 51) dX12_joined_51 rfl ⟨rfl, ht, _, rfl, by show _ = jnV x1 j2 j3; unfold jnV; (repeat' split) <;> first | rfl | (exfalso; omega)⟩
    · refine r_lload_n (pc := 10) dX12_joined_10 (i := 1) rfl rfl ?_
      refine r_goto (pc := 11) (tgt := 51) dX12_joined_11 (by decide) ?_
      exact r_lret (pc := 51) dX12_joined_51 rfl ⟨rfl, ht, _, rfl, by show _ = jnV x1 j2 j3; unfold jnV; (repeat' split) <;> first | rfl | (exfalso; omega)⟩
set_option maxHeartbeats 4000000 in
set_option maxRecDepth 100000 in
theorem t_X12_messagex {D : va_G} {cI cJ cZ cT : ClassId} {lo b L : Nat} {xs : Nat → Int32} {hp : MH} {n d : Nat} {Γ : TG} {x1 : Int} {j2 j3 : Int64} (hd0 : 0 ≤ d) (ht : Tw Γ hp) (hx1 : 0 ≤ x1 ∧ x1 ≤ 4) : Mt (gG D cI cJ cZ cT lo b L xs) mX12_message d 0 0 [.int (iv x1), .long j2, .long j3] hp n (pJ Γ n (fun r => r = mgV x1 j2 j3)) := by
  refine Mt.of rfl (Nat.le_of_ble_eq_true rfl) ?_
  refine Rn.pick (lv' := [(0, .int (iv x1)), (1, .long j2), (3, .long j3)]) [0, 1, 2] rfl ?_
  refine r_iload_n (pc := 0) dX12_message_0 (i := 0) rfl rfl ?_
  refine t_if_ne (pc := 1) (tgt := 8) dX12_message_1 (by decide) (by omega) (fun c1 => ?_) (fun c1 => ?_)
  · refine r_iload_n (pc := 8) dX12_message_8 (i := 0) rfl rfl ?_
    refine r_iconst (pc := 9) (v := iv 1) dX12_message_9 (by decide) ?_
    refine t_icmp_ne (pc := 10) (tgt := 19) dX12_message_10 (by decide) (by omega) (by omega) (fun c10 => ?_) (fun c10 => ?_)
    · refine r_iload_n (pc := 19) dX12_message_19 (i := 0) rfl rfl ?_
      refine r_iconst (pc := 20) (v := iv 2) dX12_message_20 (by decide) ?_
      refine t_icmp_ne (pc := 21) (tgt := 30) dX12_message_21 (by decide) (by omega) (by omega) (fun c21 => ?_) (fun c21 => ?_)
      · refine r_iload_n (pc := 30) dX12_message_30 (i := 0) rfl rfl ?_
        refine r_iconst (pc := 31) (v := iv 3) dX12_message_31 (by decide) ?_
        refine t_icmp_ne (pc := 32) (tgt := 49) dX12_message_32 (by decide) (by omega) (by omega) (fun c32 => ?_) (fun c32 => ?_)
        · refine r_lload_n (pc := 49) dX12_message_49 (i := 1) rfl rfl ?_
          refine r_lload_n (pc := 50) dX12_message_50 (i := 3) rfl rfl ?_
          refine r_lxor (pc := 51) (v := j2 ^^^ j3) dX12_message_51 rfl ?_
          exact r_lret (pc := 52) dX12_message_52 rfl ⟨rfl, ht, _, rfl, by show _ = mgV x1 j2 j3; unfold mgV; (repeat' split) <;> first | rfl | (exfalso; omega)⟩
        · refine r_lload_n (pc := 35) dX12_message_35 (i := 1) rfl rfl ?_
          refine r_lload_n (pc := 36) dX12_message_36 (i := 3) rfl rfl ?_
          refine r_lcmp (pc := 37) dX12_message_37 ?_
          refine t_lif_ge (pc := 38) (tgt := 45) dX12_message_38 (by decide) (fun c38 => ?_) (fun c38 => ?_)
          · refine r_lload_n (pc := 45) dX12_message_45 (i := 3) rfl rfl ?_
            refine r_goto (pc := 46) (tgt := 52) dX12_message_46 (by decide) ?_
            exact r_lret (pc := 52) dX12_message_52 rfl ⟨rfl, ht, _, rfl, by show _ = mgV x1 j2 j3; unfold mgV; (repeat' split) <;> first | rfl | (exfalso; omega)⟩
          · refine r_lload_n (pc := 41) dX12_message_41 (i := 1) rfl rfl ?_
            refine r_goto (pc := 42) (tgt := 52) dX12_message_42 (by decide) ?_
            exact r_lret (pc := 52) dX12_message_52 rfl ⟨rfl, ht, _, rfl, by show _ = mgV x1 j2 j3; unfold mgV; (repeat' split) <;> first | rfl | (exfalso; omega)⟩
      · refine r_lload_n (pc := 24) dX12_message_24 (i := 1) rfl rfl ?_
        refine r_lload_n (pc := 25) dX12_message_25 (i := 3) rfl rfl ?_
        refine r_lmul (pc := 26) (v := j2 * j3) dX12_message_26 rfl ?_
        refine r_goto (pc := 27) (tgt := 52) dX12_message_27 (by decide) ?_
        exact r_lret (pc := 52) dX12_message_52 rfl ⟨rfl, ht, _, rfl, by show _ = mgV x1 j2 j3; unfold mgV; (repeat' split) <;> first | rfl | (exfalso; omega)⟩
    · refine r_lload_n (pc := 13) dX12_message_13 (i := 1) rfl rfl ?_
      refine r_lload_n (pc := 14) dX12_message_14 (i := 3) rfl rfl ?_
      refine r_ladd (pc := 15) (v := j2 + j3) dX12_message_15 rfl ?_
      refine r_goto (pc := 16) (tgt := 52) dX12_message_16 (by decide) ?_
      exact r_lret (pc := 52) dX12_message_52 rfl ⟨rfl, ht, _, rfl, by show _ = mgV x1 j2 j3; unfold mgV; (repeat' split) <;> first | rfl | (exfalso; omega)⟩
  · refine r_lload_n (pc := 4) dX12_message_4 (i := 1) rfl rfl ?_
    refine r_goto (pc := 5) (tgt := 52) dX12_message_5 (by decide) ?_
    exact r_lret (pc := 52) dX12_message_52 rfl ⟨rfl, ht, _, rfl, by show _ = mgV x1 j2 j3; unfold mgV; (repeat' split) <;> first | rfl | (exfalso; omega)⟩
set_option maxHeartbeats 4000000 in
set_option maxRecDepth 100000 in
theorem x_X12_degrees {D : va_G} {cI cJ cZ cT : ClassId} {lo b L : Nat} {xs : Nat → Int32} {hp : MH} {n d : Nat} {Γ : TG} {y : Nat} {rf cn nm : Int} {so sz dr mn fr tt wt co : Nat → Int} {nu : Nat → Int64} {sa : Nat → Int} {wo : Nat → Int64} {ln : Nat → Int} {hw : Nat → Int64} {ro qi qc nf nt nw nc : Nat → Int} {cl nx : Nat → Int64} {ie be sd bl : Nat → Int} {bs wy ra rb : Nat → Int64} {lb bg os js ls : Nat → Int} {sp : Nat → Int64} {jw go : Nat → Int} {de : Nat → Int64} {yb ah im : Nat → Int} {x1 x2 : Int} {Po9 : Option Value → MH → Nat → Prop} (hd0 : 1 ≤ d) (hR_many : Rfx 121 0 60 mn) (hR_from : Rfx 7260 0 15 fr) (hR_to : Rfx 7260 0 15 tt) (hR_weight : Rfx 7260 (-1000) 1000 wt) (hR_directs : Rfx 121 0 1 dr) (ht : Tw (RX Γ cI cJ cZ y rf cn nm so sz dr mn fr tt wt co nu sa wo ln hw ro qi qc nf nt nw nc cl nx ie be sd bl bs wy ra rb lb bg os js ls sp jw go de yb ah im) hp) (hx1 : 0 ≤ x1 ∧ x1 ≤ 120) (hx2 : 0 ≤ x2 ∧ x2 ≤ 2) (hPo : ∀ r hp1 n1, (n1 = n ∧ ∃ (k1 : Nat → Int64), Tw (RX Γ cI cJ cZ y rf cn nm so sz dr mn fr tt wt co nu sa wo ln hw ro qi qc nf nt nw nc k1 nx ie be sd bl bs wy ra rb lb bg os js ls sp jw go de yb ah im) hp1 ∧ r = none ∧ (k1 = dgF x2 (dr (Int.toNat x1)) (sh fr (60 * x1)) (sh tt (60 * x1)) (sh wt (60 * x1)) cl (Int.toNat (mn (Int.toNat x1))))) → Po9 r hp1 n1) : Mt (gG D cI cJ cZ cT lo b L xs) mX12_degrees d 0 0 [.ref y, .int (iv x1), .int (iv x2)] hp n Po9 := by
  refine Mt.of rfl (Nat.le_of_ble_eq_true rfl) ?_
  refine Rn.pick (lv' := [(0, .ref y), (1, .int (iv x1)), (2, .int (iv x2))]) [0, 1, 2] rfl ?_
  have rmn := hR_many (Int.toNat x1) (by omega)
  refine r_iconst (pc := 0) (v := iv 0) dX12_degrees_0 (by decide) ?_
  refine r_istore_n (pc := 1) (lv' := [(3, .int (iv 0)), (0, .ref y), (1, .int (iv x1)), (2, .int (iv x2))]) dX12_degrees_1 (i := 3) rfl (by decide) rfl ?_
  have B2 : ∀ k : Nat, ∀ cl2 : Nat → Int64, ∀ hp2 : MH, Tw (RX Γ cI cJ cZ y rf cn nm so sz dr mn fr tt wt co nu sa wo ln hw ro qi qc nf nt nw nc cl2 nx ie be sd bl bs wy ra rb lb bg os js ls sp jw go de yb ah im) hp2 → ∀  (v2_3 : Int), 0 ≤ v2_3 ∧ v2_3 ≤ 60 ∧ (v2_3 ≤ (mn (Int.toNat x1))) ∧ (cl2 = dgF x2 (dr (Int.toNat x1)) (sh fr (60 * x1)) (sh tt (60 * x1)) (sh wt (60 * x1)) cl (Int.toNat v2_3)) → 60 - v2_3 ≤ (k : Int) → Rn (gG D cI cJ cZ cT lo b L xs) mX12_degrees d 2 [(0, .ref y), (1, .int (iv x1)), (2, .int (iv x2)), (3, .int (iv v2_3))] [] hp2 n 0 0 Po9 := by
    refine lpS _ ?_
    intro k2 ih2 cl2 hp2 ht2 v2_3 hf2 hm2
    obtain ⟨hf2_0, hf2_1, hf2_2, ha2_3⟩ := hf2
    refine r_iload_n (pc := 2) dX12_degrees_2 (i := 3) rfl rfl ?_
    refine r_aload_n (pc := 3) dX12_degrees_3 (i := 0) rfl rfl ?_
    refine t_getE (pc := 4) (.ref (y + 4)) ht2 (rd_of RX_y) fX12_20 dX12_degrees_4 rfl ?_
    refine r_iload_n (pc := 7) dX12_degrees_7 (i := 1) rfl rfl ?_
    refine t_ialdX (pc := 8) (t0 := 0) ht2 (rd_of RX_many) dX12_degrees_8 rfl (by decide) (by omega) (fun b1 => ?_)
    have rb1 := (show Rfx 121 0 60 mn by assumption) (Int.toNat x1) (by omega)
    refine t_icmp_ge (pc := 9) (tgt := 157) dX12_degrees_9 (by decide) (by omega) (by omega) (fun c9 => ?_) (fun c9 => ?_)
    · exact r_vret (pc := 157) dX12_degrees_157 rfl (hPo _ _ _ ⟨rfl, cl2, ht2, rfl, (by have e9 : v2_3 = (mn (Int.toNat x1)) := (by omega); rw [← e9]; assumption)⟩)
    · refine r_iload_n (pc := 12) dX12_degrees_12 (i := 1) rfl rfl ?_
      refine r_iload_n (pc := 13) dX12_degrees_13 (i := 3) rfl rfl ?_
      refine t_callSI (pc := 14) (as := [.int (iv x1), .int (iv v2_3)]) (st := []) kX12_157 dX12_degrees_14 (t_X12_at1x (d := d - 1) (x1 := x1) (x2 := v2_3) (by omega)  ht2 (by omega) (by omega)) rfl (by omega) (Nat.le_of_ble_eq_true rfl) rfl (fun hp2 y4 ht3 by4 => ?_)
      have ey4 : y4 = 60 * x1 + v2_3 := by4
      subst ey4
      refine r_istore (pc := 17) (lv' := [(4, .int (iv (60 * x1 + v2_3))), (0, .ref y), (1, .int (iv x1)), (2, .int (iv x2)), (3, .int (iv v2_3))]) dX12_degrees_17 (by decide) rfl ?_
      refine r_aload_n (pc := 19) dX12_degrees_19 (i := 0) rfl rfl ?_
      refine t_getE (pc := 20) (.ref (y + 5)) ht3 (rd_of RX_y) fX12_23 dX12_degrees_20 rfl ?_
      refine r_iload (pc := 23) dX12_degrees_23 rfl ?_
      refine t_ialdX (pc := 25) (t0 := 0) ht3 (rd_of RX_from) dX12_degrees_25 rfl (by decide) (by omega) (fun b5 => ?_)
      have rb5 := (show Rfx 7260 0 15 fr by assumption) (Int.toNat (60 * x1 + v2_3)) (by omega)
      refine r_istore (pc := 26) (lv' := [(5, .int (iv (fr (Int.toNat (60 * x1 + v2_3))))), (4, .int (iv (60 * x1 + v2_3))), (0, .ref y), (1, .int (iv x1)), (2, .int (iv x2)), (3, .int (iv v2_3))]) dX12_degrees_26 (by decide) rfl ?_
      refine r_aload_n (pc := 28) dX12_degrees_28 (i := 0) rfl rfl ?_
      refine t_getE (pc := 29) (.ref (y + 6)) ht3 (rd_of RX_y) fX12_26 dX12_degrees_29 rfl ?_
      refine r_iload (pc := 32) dX12_degrees_32 rfl ?_
      refine t_ialdX (pc := 34) (t0 := 0) ht3 (rd_of RX_to) dX12_degrees_34 rfl (by decide) (by omega) (fun b6 => ?_)
      have rb6 := (show Rfx 7260 0 15 tt by assumption) (Int.toNat (60 * x1 + v2_3)) (by omega)
      refine r_istore (pc := 35) (lv' := [(6, .int (iv (tt (Int.toNat (60 * x1 + v2_3))))), (5, .int (iv (fr (Int.toNat (60 * x1 + v2_3))))), (4, .int (iv (60 * x1 + v2_3))), (0, .ref y), (1, .int (iv x1)), (2, .int (iv x2)), (3, .int (iv v2_3))]) dX12_degrees_35 (by decide) rfl ?_
      refine r_iload_n (pc := 37) dX12_degrees_37 (i := 2) rfl rfl ?_
      refine r_iconst (pc := 38) (v := iv 2) dX12_degrees_38 (by decide) ?_
      refine t_icmp_ne (pc := 39) (tgt := 97) dX12_degrees_39 (by decide) (by omega) (by omega) (fun c39 => ?_) (fun c39 => ?_)
      · refine r_aload_n (pc := 97) dX12_degrees_97 (i := 0) rfl rfl ?_
        refine t_getE (pc := 98) (.ref (y + 3)) ht3 (rd_of RX_y) fX12_16 dX12_degrees_98 rfl ?_
        refine r_iload_n (pc := 101) dX12_degrees_101 (i := 1) rfl rfl ?_
        refine t_zaldX (pc := 102) (t0 := 2) ht3 (rd_of RX_directs) dX12_degrees_102 rfl (by decide) (by omega) (fun b7 => ?_)
        have rb7 := (show Rfx 121 0 1 dr by assumption) (Int.toNat x1) (by omega)
        refine t_if_eq (pc := 103) (tgt := 129) dX12_degrees_103 (by decide) (by omega) (fun c103 => ?_) (fun c103 => ?_)
        · refine r_aload_n (pc := 129) dX12_degrees_129 (i := 0) rfl rfl ?_
          refine t_getE (pc := 130) (.ref (y + 21)) ht3 (rd_of RX_y) fX12_72 dX12_degrees_130 rfl ?_
          refine r_iload (pc := 133) dX12_degrees_133 rfl ?_
          refine r_dup2_11 (pc := 135) dX12_degrees_135 rfl rfl ?_
          refine t_laldX (pc := 136) (t0 := 1) ht3 (rd_of RX_column) dX12_degrees_136 rfl (by decide) (by omega) ?_
          refine r_lconst (pc := 137) (v := 1) dX12_degrees_137 (by decide) ?_
          refine r_ladd (pc := 138) (v := (cl2 (Int.toNat (fr (Int.toNat (60 * x1 + v2_3))))) + (1 : Int64)) dX12_degrees_138 rfl ?_
          refine t_lastX (pc := 139) (t0 := 1) ht3 RX_column dX12_degrees_139 rfl (by decide) (by omega) (fun hp8 ht9 => ?_)
          have ht10 := RXw_cl ht9
          refine r_aload_n (pc := 140) dX12_degrees_140 (i := 0) rfl rfl ?_
          refine t_getE (pc := 141) (.ref (y + 21)) ht10 (rd_of RX_y) fX12_72 dX12_degrees_141 rfl ?_
          refine r_iload (pc := 144) dX12_degrees_144 rfl ?_
          refine r_dup2_11 (pc := 146) dX12_degrees_146 rfl rfl ?_
          refine t_laldX (pc := 147) (t0 := 1) ht10 (rd_of RX_column) dX12_degrees_147 rfl (by decide) (by omega) ?_
          refine r_lconst (pc := 148) (v := 1) dX12_degrees_148 (by decide) ?_
          refine r_ladd (pc := 149) (v := ((fuj cl2 (Int.toNat (fr (Int.toNat (60 * x1 + v2_3)))) ((cl2 (Int.toNat (fr (Int.toNat (60 * x1 + v2_3))))) + (1 : Int64))) (Int.toNat (tt (Int.toNat (60 * x1 + v2_3))))) + (1 : Int64)) dX12_degrees_149 rfl ?_
          refine t_lastX (pc := 150) (t0 := 1) ht10 RX_column dX12_degrees_150 rfl (by decide) (by omega) (fun hp11 ht12 => ?_)
          have ht13 := RXw_cl ht12
          refine r_iinc (pc := 151) (v := iv (v2_3 + 1)) (lv' := [(3, .int (iv (v2_3 + 1))), (6, .int (iv (tt (Int.toNat (60 * x1 + v2_3))))), (5, .int (iv (fr (Int.toNat (60 * x1 + v2_3))))), (4, .int (iv (60 * x1 + v2_3))), (0, .ref y), (1, .int (iv x1)), (2, .int (iv x2))]) dX12_degrees_151 rfl (iv_add _ _) (by decide) rfl ?_
          refine r_goto (pc := 154) (tgt := 2) dX12_degrees_154 (by decide) ?_
          refine Rn.pick (lv' := [(0, .ref y), (1, .int (iv x1)), (2, .int (iv x2)), (3, .int (iv (v2_3 + 1)))]) [4, 5, 6, 0] rfl ?_
          exact ih2 (Int.toNat (60 - (v2_3 + 1))) (by omega) (fuj (fuj cl2 (Int.toNat (fr (Int.toNat (60 * x1 + v2_3)))) ((cl2 (Int.toNat (fr (Int.toNat (60 * x1 + v2_3))))) + (1 : Int64))) (Int.toNat (tt (Int.toNat (60 * x1 + v2_3)))) (((fuj cl2 (Int.toNat (fr (Int.toNat (60 * x1 + v2_3)))) ((cl2 (Int.toNat (fr (Int.toNat (60 * x1 + v2_3))))) + (1 : Int64))) (Int.toNat (tt (Int.toNat (60 * x1 + v2_3))))) + (1 : Int64))) _ ht13 (v2_3 + 1) ⟨by omega, by omega, by omega, by (first | rfl | exact dg_up (by assumption) (by omega) (by rw [← sh_at fr (60 * x1) (v := v2_3) (by omega), ← sh_at tt (60 * x1) (v := v2_3) (by omega), ← sh_at wt (60 * x1) (v := v2_3) (by omega)]; unfold dgS; (repeat' split) <;> first | rfl | (exfalso; omega)))⟩ (by omega)
        · refine r_aload_n (pc := 106) dX12_degrees_106 (i := 0) rfl rfl ?_
          refine t_getE (pc := 107) (.ref (y + 21)) ht3 (rd_of RX_y) fX12_72 dX12_degrees_107 rfl ?_
          refine r_iload_n (pc := 110) dX12_degrees_110 (i := 2) rfl rfl ?_
          refine t_if_ne (pc := 111) (tgt := 119) dX12_degrees_111 (by decide) (by omega) (fun c111 => ?_) (fun c111 => ?_)
          · refine r_iload (pc := 119) dX12_degrees_119 rfl ?_
            refine r_dup2_11 (pc := 121) dX12_degrees_121 rfl rfl ?_
            refine t_laldX (pc := 122) (t0 := 1) ht3 (rd_of RX_column) dX12_degrees_122 rfl (by decide) (by omega) ?_
            refine r_lconst (pc := 123) (v := 1) dX12_degrees_123 (by decide) ?_
            refine r_ladd (pc := 124) (v := (cl2 (Int.toNat (tt (Int.toNat (60 * x1 + v2_3))))) + (1 : Int64)) dX12_degrees_124 rfl ?_
            refine t_lastX (pc := 125) (t0 := 1) ht3 RX_column dX12_degrees_125 rfl (by decide) (by omega) (fun hp14 ht15 => ?_)
            have ht16 := RXw_cl ht15
            refine r_goto (pc := 126) (tgt := 151) dX12_degrees_126 (by decide) ?_
            refine r_iinc (pc := 151) (v := iv (v2_3 + 1)) (lv' := [(3, .int (iv (v2_3 + 1))), (6, .int (iv (tt (Int.toNat (60 * x1 + v2_3))))), (5, .int (iv (fr (Int.toNat (60 * x1 + v2_3))))), (4, .int (iv (60 * x1 + v2_3))), (0, .ref y), (1, .int (iv x1)), (2, .int (iv x2))]) dX12_degrees_151 rfl (iv_add _ _) (by decide) rfl ?_
            refine r_goto (pc := 154) (tgt := 2) dX12_degrees_154 (by decide) ?_
            refine Rn.pick (lv' := [(0, .ref y), (1, .int (iv x1)), (2, .int (iv x2)), (3, .int (iv (v2_3 + 1)))]) [4, 5, 6, 0] rfl ?_
            exact ih2 (Int.toNat (60 - (v2_3 + 1))) (by omega) (fuj cl2 (Int.toNat (tt (Int.toNat (60 * x1 + v2_3)))) ((cl2 (Int.toNat (tt (Int.toNat (60 * x1 + v2_3))))) + (1 : Int64))) _ ht16 (v2_3 + 1) ⟨by omega, by omega, by omega, by (first | rfl | exact dg_up (by assumption) (by omega) (by rw [← sh_at fr (60 * x1) (v := v2_3) (by omega), ← sh_at tt (60 * x1) (v := v2_3) (by omega), ← sh_at wt (60 * x1) (v := v2_3) (by omega)]; unfold dgS; (repeat' split) <;> first | rfl | (exfalso; omega)))⟩ (by omega)
          · refine r_iload (pc := 114) dX12_degrees_114 rfl ?_
            refine r_goto (pc := 116) (tgt := 121) dX12_degrees_116 (by decide) ?_
            refine r_dup2_11 (pc := 121) dX12_degrees_121 rfl rfl ?_
            refine t_laldX (pc := 122) (t0 := 1) ht3 (rd_of RX_column) dX12_degrees_122 rfl (by decide) (by omega) ?_
            refine r_lconst (pc := 123) (v := 1) dX12_degrees_123 (by decide) ?_
            refine r_ladd (pc := 124) (v := (cl2 (Int.toNat (fr (Int.toNat (60 * x1 + v2_3))))) + (1 : Int64)) dX12_degrees_124 rfl ?_
            refine t_lastX (pc := 125) (t0 := 1) ht3 RX_column dX12_degrees_125 rfl (by decide) (by omega) (fun hp17 ht18 => ?_)
            have ht19 := RXw_cl ht18
            refine r_goto (pc := 126) (tgt := 151) dX12_degrees_126 (by decide) ?_
            refine r_iinc (pc := 151) (v := iv (v2_3 + 1)) (lv' := [(3, .int (iv (v2_3 + 1))), (6, .int (iv (tt (Int.toNat (60 * x1 + v2_3))))), (5, .int (iv (fr (Int.toNat (60 * x1 + v2_3))))), (4, .int (iv (60 * x1 + v2_3))), (0, .ref y), (1, .int (iv x1)), (2, .int (iv x2))]) dX12_degrees_151 rfl (iv_add _ _) (by decide) rfl ?_
            refine r_goto (pc := 154) (tgt := 2) dX12_degrees_154 (by decide) ?_
            refine Rn.pick (lv' := [(0, .ref y), (1, .int (iv x1)), (2, .int (iv x2)), (3, .int (iv (v2_3 + 1)))]) [4, 5, 6, 0] rfl ?_
            exact ih2 (Int.toNat (60 - (v2_3 + 1))) (by omega) (fuj cl2 (Int.toNat (fr (Int.toNat (60 * x1 + v2_3)))) ((cl2 (Int.toNat (fr (Int.toNat (60 * x1 + v2_3))))) + (1 : Int64))) _ ht19 (v2_3 + 1) ⟨by omega, by omega, by omega, by (first | rfl | exact dg_up (by assumption) (by omega) (by rw [← sh_at fr (60 * x1) (v := v2_3) (by omega), ← sh_at tt (60 * x1) (v := v2_3) (by omega), ← sh_at wt (60 * x1) (v := v2_3) (by omega)]; unfold dgS; (repeat' split) <;> first | rfl | (exfalso; omega)))⟩ (by omega)
      · refine r_aload_n (pc := 42) dX12_degrees_42 (i := 0) rfl rfl ?_
        refine t_getE (pc := 43) (.ref (y + 21)) ht3 (rd_of RX_y) fX12_72 dX12_degrees_43 rfl ?_
        refine r_iload (pc := 46) dX12_degrees_46 rfl ?_
        refine r_dup2_11 (pc := 48) dX12_degrees_48 rfl rfl ?_
        refine t_laldX (pc := 49) (t0 := 1) ht3 (rd_of RX_column) dX12_degrees_49 rfl (by decide) (by omega) ?_
        refine r_aload_n (pc := 50) dX12_degrees_50 (i := 0) rfl rfl ?_
        refine t_getE (pc := 51) (.ref (y + 7)) ht3 (rd_of RX_y) fX12_29 dX12_degrees_51 rfl ?_
        refine r_iload (pc := 54) dX12_degrees_54 rfl ?_
        refine t_ialdX (pc := 56) (t0 := 0) ht3 (rd_of RX_weight) dX12_degrees_56 rfl (by decide) (by omega) (fun b20 => ?_)
        have rb20 := (show Rfx 7260 (-1000) 1000 wt by assumption) (Int.toNat (60 * x1 + v2_3)) (by omega)
        refine r_i2l (pc := 57) (v := (iv (wt (Int.toNat (60 * x1 + v2_3)))).toInt64) dX12_degrees_57 rfl ?_
        refine r_ladd (pc := 58) (v := (cl2 (Int.toNat (fr (Int.toNat (60 * x1 + v2_3))))) + ((iv (wt (Int.toNat (60 * x1 + v2_3)))).toInt64)) dX12_degrees_58 rfl ?_
        refine t_lastX (pc := 59) (t0 := 1) ht3 RX_column dX12_degrees_59 rfl (by decide) (by omega) (fun hp21 ht22 => ?_)
        have ht23 := RXw_cl ht22
        refine r_aload_n (pc := 60) dX12_degrees_60 (i := 0) rfl rfl ?_
        refine t_getE (pc := 61) (.ref (y + 3)) ht23 (rd_of RX_y) fX12_16 dX12_degrees_61 rfl ?_
        refine r_iload_n (pc := 64) dX12_degrees_64 (i := 1) rfl rfl ?_
        refine t_zaldX (pc := 65) (t0 := 2) ht23 (rd_of RX_directs) dX12_degrees_65 rfl (by decide) (by omega) (fun b24 => ?_)
        have rb24 := (show Rfx 121 0 1 dr by assumption) (Int.toNat x1) (by omega)
        refine t_if_ne (pc := 66) (tgt := 151) dX12_degrees_66 (by decide) (by omega) (fun c66 => ?_) (fun c66 => ?_)
        · refine r_iinc (pc := 151) (v := iv (v2_3 + 1)) (lv' := [(3, .int (iv (v2_3 + 1))), (6, .int (iv (tt (Int.toNat (60 * x1 + v2_3))))), (5, .int (iv (fr (Int.toNat (60 * x1 + v2_3))))), (4, .int (iv (60 * x1 + v2_3))), (0, .ref y), (1, .int (iv x1)), (2, .int (iv x2))]) dX12_degrees_151 rfl (iv_add _ _) (by decide) rfl ?_
          refine r_goto (pc := 154) (tgt := 2) dX12_degrees_154 (by decide) ?_
          refine Rn.pick (lv' := [(0, .ref y), (1, .int (iv x1)), (2, .int (iv x2)), (3, .int (iv (v2_3 + 1)))]) [4, 5, 6, 0] rfl ?_
          exact ih2 (Int.toNat (60 - (v2_3 + 1))) (by omega) (fuj cl2 (Int.toNat (fr (Int.toNat (60 * x1 + v2_3)))) ((cl2 (Int.toNat (fr (Int.toNat (60 * x1 + v2_3))))) + ((iv (wt (Int.toNat (60 * x1 + v2_3)))).toInt64))) _ ht23 (v2_3 + 1) ⟨by omega, by omega, by omega, by (first | rfl | exact dg_up (by assumption) (by omega) (by rw [← sh_at fr (60 * x1) (v := v2_3) (by omega), ← sh_at tt (60 * x1) (v := v2_3) (by omega), ← sh_at wt (60 * x1) (v := v2_3) (by omega)]; unfold dgS; (repeat' split) <;> first | rfl | (exfalso; omega)))⟩ (by omega)
        · refine r_iload (pc := 69) dX12_degrees_69 rfl ?_
          refine r_iload (pc := 71) dX12_degrees_71 rfl ?_
          refine t_icmp_eq (pc := 73) (tgt := 151) dX12_degrees_73 (by decide) (by omega) (by omega) (fun c73 => ?_) (fun c73 => ?_)
          · refine r_iinc (pc := 151) (v := iv (v2_3 + 1)) (lv' := [(3, .int (iv (v2_3 + 1))), (6, .int (iv (tt (Int.toNat (60 * x1 + v2_3))))), (5, .int (iv (fr (Int.toNat (60 * x1 + v2_3))))), (4, .int (iv (60 * x1 + v2_3))), (0, .ref y), (1, .int (iv x1)), (2, .int (iv x2))]) dX12_degrees_151 rfl (iv_add _ _) (by decide) rfl ?_
            refine r_goto (pc := 154) (tgt := 2) dX12_degrees_154 (by decide) ?_
            refine Rn.pick (lv' := [(0, .ref y), (1, .int (iv x1)), (2, .int (iv x2)), (3, .int (iv (v2_3 + 1)))]) [4, 5, 6, 0] rfl ?_
            exact ih2 (Int.toNat (60 - (v2_3 + 1))) (by omega) (fuj cl2 (Int.toNat (fr (Int.toNat (60 * x1 + v2_3)))) ((cl2 (Int.toNat (fr (Int.toNat (60 * x1 + v2_3))))) + ((iv (wt (Int.toNat (60 * x1 + v2_3)))).toInt64))) _ ht23 (v2_3 + 1) ⟨by omega, by omega, by omega, by (first | rfl | exact dg_up (by assumption) (by omega) (by rw [← sh_at fr (60 * x1) (v := v2_3) (by omega), ← sh_at tt (60 * x1) (v := v2_3) (by omega), ← sh_at wt (60 * x1) (v := v2_3) (by omega)]; unfold dgS; (repeat' split) <;> first | rfl | (exfalso; omega)))⟩ (by omega)
          · refine r_aload_n (pc := 76) dX12_degrees_76 (i := 0) rfl rfl ?_
            refine t_getE (pc := 77) (.ref (y + 21)) ht23 (rd_of RX_y) fX12_72 dX12_degrees_77 rfl ?_
            refine r_iload (pc := 80) dX12_degrees_80 rfl ?_
            refine r_dup2_11 (pc := 82) dX12_degrees_82 rfl rfl ?_
            refine t_laldX (pc := 83) (t0 := 1) ht23 (rd_of RX_column) dX12_degrees_83 rfl (by decide) (by omega) ?_
            refine r_aload_n (pc := 84) dX12_degrees_84 (i := 0) rfl rfl ?_
            refine t_getE (pc := 85) (.ref (y + 7)) ht23 (rd_of RX_y) fX12_29 dX12_degrees_85 rfl ?_
            refine r_iload (pc := 88) dX12_degrees_88 rfl ?_
            refine t_ialdX (pc := 90) (t0 := 0) ht23 (rd_of RX_weight) dX12_degrees_90 rfl (by decide) (by omega) (fun b25 => ?_)
            have rb25 := (show Rfx 7260 (-1000) 1000 wt by assumption) (Int.toNat (60 * x1 + v2_3)) (by omega)
            refine r_i2l (pc := 91) (v := (iv (wt (Int.toNat (60 * x1 + v2_3)))).toInt64) dX12_degrees_91 rfl ?_
            refine r_ladd (pc := 92) (v := ((fuj cl2 (Int.toNat (fr (Int.toNat (60 * x1 + v2_3)))) ((cl2 (Int.toNat (fr (Int.toNat (60 * x1 + v2_3))))) + ((iv (wt (Int.toNat (60 * x1 + v2_3)))).toInt64))) (Int.toNat (tt (Int.toNat (60 * x1 + v2_3))))) + ((iv (wt (Int.toNat (60 * x1 + v2_3)))).toInt64)) dX12_degrees_92 rfl ?_
            refine t_lastX (pc := 93) (t0 := 1) ht23 RX_column dX12_degrees_93 rfl (by decide) (by omega) (fun hp26 ht27 => ?_)
            have ht28 := RXw_cl ht27
            refine r_goto (pc := 94) (tgt := 151) dX12_degrees_94 (by decide) ?_
            refine r_iinc (pc := 151) (v := iv (v2_3 + 1)) (lv' := [(3, .int (iv (v2_3 + 1))), (6, .int (iv (tt (Int.toNat (60 * x1 + v2_3))))), (5, .int (iv (fr (Int.toNat (60 * x1 + v2_3))))), (4, .int (iv (60 * x1 + v2_3))), (0, .ref y), (1, .int (iv x1)), (2, .int (iv x2))]) dX12_degrees_151 rfl (iv_add _ _) (by decide) rfl ?_
            refine r_goto (pc := 154) (tgt := 2) dX12_degrees_154 (by decide) ?_
            refine Rn.pick (lv' := [(0, .ref y), (1, .int (iv x1)), (2, .int (iv x2)), (3, .int (iv (v2_3 + 1)))]) [4, 5, 6, 0] rfl ?_
            exact ih2 (Int.toNat (60 - (v2_3 + 1))) (by omega) (fuj (fuj cl2 (Int.toNat (fr (Int.toNat (60 * x1 + v2_3)))) ((cl2 (Int.toNat (fr (Int.toNat (60 * x1 + v2_3))))) + ((iv (wt (Int.toNat (60 * x1 + v2_3)))).toInt64))) (Int.toNat (tt (Int.toNat (60 * x1 + v2_3)))) (((fuj cl2 (Int.toNat (fr (Int.toNat (60 * x1 + v2_3)))) ((cl2 (Int.toNat (fr (Int.toNat (60 * x1 + v2_3))))) + ((iv (wt (Int.toNat (60 * x1 + v2_3)))).toInt64))) (Int.toNat (tt (Int.toNat (60 * x1 + v2_3))))) + ((iv (wt (Int.toNat (60 * x1 + v2_3)))).toInt64))) _ ht28 (v2_3 + 1) ⟨by omega, by omega, by omega, by (first | rfl | exact dg_up (by assumption) (by omega) (by rw [← sh_at fr (60 * x1) (v := v2_3) (by omega), ← sh_at tt (60 * x1) (v := v2_3) (by omega), ← sh_at wt (60 * x1) (v := v2_3) (by omega)]; unfold dgS; (repeat' split) <;> first | rfl | (exfalso; omega)))⟩ (by omega)
  refine Rn.pick (lv' := [(0, .ref y), (1, .int (iv x1)), (2, .int (iv x2)), (3, .int (iv 0))]) [1, 2, 3, 0] rfl ?_
  exact B2 (Int.toNat (60 - 0)) cl _ ht 0 ⟨by omega, by omega, by omega, by (first | rfl | exact dg_up (by assumption) (by omega) (by rw [← sh_at fr (60 * x1) (v := v2_3) (by omega), ← sh_at tt (60 * x1) (v := v2_3) (by omega), ← sh_at wt (60 * x1) (v := v2_3) (by omega)]; unfold dgS; (repeat' split) <;> first | rfl | (exfalso; omega)))⟩ (by omega)
set_option maxHeartbeats 4000000 in
set_option maxRecDepth 100000 in
theorem x_X12_walks {D : va_G} {cI cJ cZ cT : ClassId} {lo b L : Nat} {xs : Nat → Int32} {hp : MH} {n d : Nat} {Γ : TG} {y : Nat} {rf cn nm : Int} {so sz dr mn fr tt wt co : Nat → Int} {nu : Nat → Int64} {sa : Nat → Int} {wo : Nat → Int64} {ln : Nat → Int} {hw : Nat → Int64} {ro qi qc nf nt nw nc : Nat → Int} {cl nx : Nat → Int64} {ie be sd bl : Nat → Int} {bs wy ra rb : Nat → Int64} {lb bg os js ls : Nat → Int} {sp : Nat → Int64} {jw go : Nat → Int} {de : Nat → Int64} {yb ah im : Nat → Int} {x1 x2 : Int} {Po9 : Option Value → MH → Nat → Prop} (hd0 : 2 ≤ d) (hR_sizes : Rfx 121 0 16 sz) (hR_many : Rfx 121 0 60 mn) (hR_from : Rfx 7260 0 15 fr) (hR_to : Rfx 7260 0 15 tt) (hR_directs : Rfx 121 0 1 dr) (ht : Tw (RX Γ cI cJ cZ y rf cn nm so sz dr mn fr tt wt co nu sa wo ln hw ro qi qc nf nt nw nc cl nx ie be sd bl bs wy ra rb lb bg os js ls sp jw go de yb ah im) hp) (hx1 : 0 ≤ x1 ∧ x1 ≤ 120) (hx2 : 0 ≤ x2 ∧ x2 ≤ 1000) (hEn : enP fr tt mn sz x1) (h1c : eqB cl (fun _ => 1) (sz (Int.toNat x1))) (hPo : ∀ r hp1 n1, (n1 = n ∧ ∃ (k1 : Nat → Int64) (n1 : Nat → Int64), Tw (RX Γ cI cJ cZ y rf cn nm so sz dr mn fr tt wt co nu sa wo ln hw ro qi qc nf nt nw nc k1 n1 ie be sd bl bs wy ra rb lb bg os js ls sp jw go de yb ah im) hp1 ∧ r = none ∧ (eqB k1 (wkC (Int.toNat (mn (Int.toNat x1))) (dr (Int.toNat x1)) (sh fr (60 * x1)) (sh tt (60 * x1)) (Int.toNat x2)) (sz (Int.toNat x1)))) → Po9 r hp1 n1) : Mt (gG D cI cJ cZ cT lo b L xs) mX12_walks d 0 0 [.ref y, .int (iv x1), .int (iv x2)] hp n Po9 := by
  refine Mt.of rfl (Nat.le_of_ble_eq_true rfl) ?_
  refine Rn.pick (lv' := [(0, .ref y), (1, .int (iv x1)), (2, .int (iv x2))]) [0, 1, 2] rfl ?_
  have rmn := hR_many (Int.toNat x1) (by omega)
  have rsz := hR_sizes (Int.toNat x1) (by omega)
  have hFT := enF hEn (by assumption) (by assumption) (by omega) (by omega)
  refine r_aload_n (pc := 0) dX12_walks_0 (i := 0) rfl rfl ?_
  refine t_getE (pc := 1) (.ref (y + 2)) ht (rd_of RX_y) fX12_13 dX12_walks_1 rfl ?_
  refine r_iload_n (pc := 4) dX12_walks_4 (i := 1) rfl rfl ?_
  refine t_ialdX (pc := 5) (t0 := 0) ht (rd_of RX_sizes) dX12_walks_5 rfl (by decide) (by omega) (fun b1 => ?_)
  have rb1 := (show Rfx 121 0 16 sz by assumption) (Int.toNat x1) (by omega)
  refine r_istore_n (pc := 6) (lv' := [(3, .int (iv (sz (Int.toNat x1)))), (0, .ref y), (1, .int (iv x1)), (2, .int (iv x2))]) dX12_walks_6 (i := 3) rfl (by decide) rfl ?_
  refine r_iconst (pc := 7) (v := iv 0) dX12_walks_7 (by decide) ?_
  refine r_istore (pc := 8) (lv' := [(4, .int (iv 0)), (3, .int (iv (sz (Int.toNat x1)))), (0, .ref y), (1, .int (iv x1)), (2, .int (iv x2))]) dX12_walks_8 (by decide) rfl ?_
  have B10 : ∀ k : Nat, ∀ cl10 : Nat → Int64, ∀ nx10 : Nat → Int64, ∀ hp10 : MH, Tw (RX Γ cI cJ cZ y rf cn nm so sz dr mn fr tt wt co nu sa wo ln hw ro qi qc nf nt nw nc cl10 nx10 ie be sd bl bs wy ra rb lb bg os js ls sp jw go de yb ah im) hp10 → ∀  (v10_4 : Int), 0 ≤ v10_4 ∧ v10_4 ≤ 1000 ∧ (v10_4 ≤ x2) ∧ (eqB cl10 (wkC (Int.toNat (mn (Int.toNat x1))) (dr (Int.toNat x1)) (sh fr (60 * x1)) (sh tt (60 * x1)) (Int.toNat v10_4)) (sz (Int.toNat x1))) → 1000 - v10_4 ≤ (k : Int) → Rn (gG D cI cJ cZ cT lo b L xs) mX12_walks d 10 [(0, .ref y), (1, .int (iv x1)), (2, .int (iv x2)), (3, .int (iv (sz (Int.toNat x1)))), (4, .int (iv v10_4))] [] hp10 n 0 0 Po9 := by
    refine lpS _ ?_
    intro k10 ih10 cl10 nx10 hp10 ht10 v10_4 hf10 hm10
    obtain ⟨hf10_0, hf10_1, hf10_2, ha10_3⟩ := hf10
    refine r_iload (pc := 10) dX12_walks_10 rfl ?_
    refine r_iload_n (pc := 12) dX12_walks_12 (i := 2) rfl rfl ?_
    refine t_icmp_ge (pc := 13) (tgt := 130) dX12_walks_13 (by decide) (by omega) (by omega) (fun c13 => ?_) (fun c13 => ?_)
    · exact r_vret (pc := 130) dX12_walks_130 rfl (hPo _ _ _ ⟨rfl, cl10, nx10, ht10, rfl, (by have e9 : v10_4 = x2 := (by omega); rw [← e9]; assumption)⟩)
    · refine r_iconst (pc := 16) (v := iv 0) dX12_walks_16 (by decide) ?_
      refine r_istore (pc := 17) (lv' := [(5, .int (iv 0)), (0, .ref y), (1, .int (iv x1)), (2, .int (iv x2)), (3, .int (iv (sz (Int.toNat x1)))), (4, .int (iv v10_4))]) dX12_walks_17 (by decide) rfl ?_
      have B19 : ∀ k : Nat, ∀ nx19 : Nat → Int64, ∀ hp19 : MH, Tw (RX Γ cI cJ cZ y rf cn nm so sz dr mn fr tt wt co nu sa wo ln hw ro qi qc nf nt nw nc cl10 nx19 ie be sd bl bs wy ra rb lb bg os js ls sp jw go de yb ah im) hp19 → ∀  (v19_5 : Int), 0 ≤ v19_5 ∧ v19_5 ≤ 16 ∧ (v19_5 ≤ (sz (Int.toNat x1))) ∧ (eqB nx19 (wkC (Int.toNat (mn (Int.toNat x1))) (dr (Int.toNat x1)) (sh fr (60 * x1)) (sh tt (60 * x1)) (Int.toNat v10_4 + 1)) v19_5) → 16 - v19_5 ≤ (k : Int) → Rn (gG D cI cJ cZ cT lo b L xs) mX12_walks d 19 [(0, .ref y), (1, .int (iv x1)), (2, .int (iv x2)), (3, .int (iv (sz (Int.toNat x1)))), (4, .int (iv v10_4)), (5, .int (iv v19_5))] [] hp19 n 0 0 Po9 := by
        refine lpS _ ?_
        intro k19 ih19 nx19 hp19 ht19 v19_5 hf19 hm19
        obtain ⟨hf19_0, hf19_1, hf19_2, ha19_3⟩ := hf19
        refine r_iload (pc := 19) dX12_walks_19 rfl ?_
        refine r_iload_n (pc := 21) dX12_walks_21 (i := 3) rfl rfl ?_
        refine t_icmp_ge (pc := 22) (tgt := 95) dX12_walks_22 (by decide) (by omega) (by omega) (fun c22 => ?_) (fun c22 => ?_)
        · refine r_iconst (pc := 95) (v := iv 0) dX12_walks_95 (by decide) ?_
          refine r_istore (pc := 96) (lv' := [(5, .int (iv 0)), (0, .ref y), (1, .int (iv x1)), (2, .int (iv x2)), (3, .int (iv (sz (Int.toNat x1)))), (4, .int (iv v10_4))]) dX12_walks_96 (by decide) rfl ?_
          have B98 : ∀ k : Nat, ∀ cl98 : Nat → Int64, ∀ hp98 : MH, Tw (RX Γ cI cJ cZ y rf cn nm so sz dr mn fr tt wt co nu sa wo ln hw ro qi qc nf nt nw nc cl98 nx19 ie be sd bl bs wy ra rb lb bg os js ls sp jw go de yb ah im) hp98 → ∀  (v98_5 : Int), 0 ≤ v98_5 ∧ v98_5 ≤ 16 ∧ (v98_5 ≤ (sz (Int.toNat x1))) ∧ (eqB cl98 (wkC (Int.toNat (mn (Int.toNat x1))) (dr (Int.toNat x1)) (sh fr (60 * x1)) (sh tt (60 * x1)) (Int.toNat v10_4 + 1)) v98_5) ∧ (eqB nx19 (wkC (Int.toNat (mn (Int.toNat x1))) (dr (Int.toNat x1)) (sh fr (60 * x1)) (sh tt (60 * x1)) (Int.toNat v10_4 + 1)) (sz (Int.toNat x1))) → 16 - v98_5 ≤ (k : Int) → Rn (gG D cI cJ cZ cT lo b L xs) mX12_walks d 98 [(0, .ref y), (1, .int (iv x1)), (2, .int (iv x2)), (3, .int (iv (sz (Int.toNat x1)))), (4, .int (iv v10_4)), (5, .int (iv v98_5))] [] hp98 n 0 0 Po9 := by
            refine lpS _ ?_
            intro k98 ih98 cl98 hp98 ht98 v98_5 hf98 hm98
            obtain ⟨hf98_0, hf98_1, hf98_2, ha98_3, ha98_4⟩ := hf98
            refine r_iload (pc := 98) dX12_walks_98 rfl ?_
            refine r_iload_n (pc := 100) dX12_walks_100 (i := 3) rfl rfl ?_
            refine t_icmp_ge (pc := 101) (tgt := 124) dX12_walks_101 (by decide) (by omega) (by omega) (fun c101 => ?_) (fun c101 => ?_)
            · refine r_iinc (pc := 124) (v := iv (v10_4 + 1)) (lv' := [(4, .int (iv (v10_4 + 1))), (0, .ref y), (1, .int (iv x1)), (2, .int (iv x2)), (3, .int (iv (sz (Int.toNat x1)))), (5, .int (iv v98_5))]) dX12_walks_124 rfl (iv_add _ _) (by decide) rfl ?_
              refine r_goto (pc := 127) (tgt := 10) dX12_walks_127 (by decide) ?_
              refine Rn.pick (lv' := [(0, .ref y), (1, .int (iv x1)), (2, .int (iv x2)), (3, .int (iv (sz (Int.toNat x1)))), (4, .int (iv (v10_4 + 1)))]) [1, 2, 3, 4, 0] rfl ?_
              exact ih10 (Int.toNat (1000 - (v10_4 + 1))) (by omega) cl98 nx19 _ ht98 (v10_4 + 1) ⟨by omega, by omega, by omega, by (first | assumption | exact h1c | exact wc_up (v := v98_5) (by assumption) (by omega) (by omega))⟩ (by omega)
            · refine r_aload_n (pc := 104) dX12_walks_104 (i := 0) rfl rfl ?_
              refine t_getE (pc := 105) (.ref (y + 21)) ht98 (rd_of RX_y) fX12_72 dX12_walks_105 rfl ?_
              refine r_iload (pc := 108) dX12_walks_108 rfl ?_
              refine r_aload_n (pc := 110) dX12_walks_110 (i := 0) rfl rfl ?_
              refine t_getE (pc := 111) (.ref (y + 22)) ht98 (rd_of RX_y) fX12_75 dX12_walks_111 rfl ?_
              refine r_iload (pc := 114) dX12_walks_114 rfl ?_
              refine t_laldX (pc := 116) (t0 := 1) ht98 (rd_of RX_next) dX12_walks_116 rfl (by decide) (by omega) ?_
              refine t_lastX (pc := 117) (t0 := 1) ht98 RX_column dX12_walks_117 rfl (by decide) (by omega) (fun hp2 ht3 => ?_)
              have ht4 := RXw_cl ht3
              refine r_iinc (pc := 118) (v := iv (v98_5 + 1)) (lv' := [(5, .int (iv (v98_5 + 1))), (0, .ref y), (1, .int (iv x1)), (2, .int (iv x2)), (3, .int (iv (sz (Int.toNat x1)))), (4, .int (iv v10_4))]) dX12_walks_118 rfl (iv_add _ _) (by decide) rfl ?_
              refine r_goto (pc := 121) (tgt := 98) dX12_walks_121 (by decide) ?_
              refine Rn.pick (lv' := [(0, .ref y), (1, .int (iv x1)), (2, .int (iv x2)), (3, .int (iv (sz (Int.toNat x1)))), (4, .int (iv v10_4)), (5, .int (iv (v98_5 + 1)))]) [1, 2, 3, 4, 5, 0] rfl ?_
              exact ih98 (Int.toNat (16 - (v98_5 + 1))) (by omega) (fuj cl98 (Int.toNat v98_5) (nx19 (Int.toNat v98_5))) _ ht4 (v98_5 + 1) ⟨by omega, by omega, by omega, by (first | exact eqB_0 _ _ | exact eqB_up (by assumption) (by omega) ((show eqB nx19 _ (sz (Int.toNat x1)) by assumption) _ (by omega))), by (first | assumption | exact eqB_le (v := v19_5) (by assumption) (by omega))⟩ (by omega)
          refine Rn.pick (lv' := [(0, .ref y), (1, .int (iv x1)), (2, .int (iv x2)), (3, .int (iv (sz (Int.toNat x1)))), (4, .int (iv v10_4)), (5, .int (iv 0))]) [1, 2, 3, 4, 5, 0] rfl ?_
          exact B98 (Int.toNat (16 - 0)) cl10 _ ht19 0 ⟨by omega, by omega, by omega, by (first | exact eqB_0 _ _ | exact eqB_up (by assumption) (by omega) ((show eqB nx19 _ (sz (Int.toNat x1)) by assumption) _ (by omega))), by (first | assumption | exact eqB_le (v := v19_5) (by assumption) (by omega))⟩ (by omega)
        · refine r_lconst (pc := 25) (v := 0) dX12_walks_25 (by decide) ?_
          refine r_lstore (pc := 26) (lv' := [(6, .long (0 : Int64)), (0, .ref y), (1, .int (iv x1)), (2, .int (iv x2)), (3, .int (iv (sz (Int.toNat x1)))), (4, .int (iv v10_4)), (5, .int (iv v19_5))]) dX12_walks_26 (by decide) rfl ?_
          refine r_iconst (pc := 28) (v := iv 0) dX12_walks_28 (by decide) ?_
          refine r_istore (pc := 29) (lv' := [(8, .int (iv 0)), (6, .long (0 : Int64)), (0, .ref y), (1, .int (iv x1)), (2, .int (iv x2)), (3, .int (iv (sz (Int.toNat x1)))), (4, .int (iv v10_4)), (5, .int (iv v19_5))]) dX12_walks_29 (by decide) rfl ?_
          have B31 : ∀ k : Nat, ∀ hp31 : MH, Tw (RX Γ cI cJ cZ y rf cn nm so sz dr mn fr tt wt co nu sa wo ln hw ro qi qc nf nt nw nc cl10 nx19 ie be sd bl bs wy ra rb lb bg os js ls sp jw go de yb ah im) hp31 → ∀  (v31_8 : Int) (w31_6 : Int64), 0 ≤ v31_8 ∧ v31_8 ≤ 60 ∧ (v31_8 ≤ (mn (Int.toNat x1))) ∧ (w31_6 = wkA (dr (Int.toNat x1)) (sh fr (60 * x1)) (sh tt (60 * x1)) cl10 (Int.toNat v19_5) (Int.toNat v31_8)) → 60 - v31_8 ≤ (k : Int) → Rn (gG D cI cJ cZ cT lo b L xs) mX12_walks d 31 [(0, .ref y), (1, .int (iv x1)), (2, .int (iv x2)), (3, .int (iv (sz (Int.toNat x1)))), (4, .int (iv v10_4)), (5, .int (iv v19_5)), (6, .long w31_6), (8, .int (iv v31_8))] [] hp31 n 0 0 Po9 := by
            refine lpS _ ?_
            intro k31 ih31 hp31 ht31 v31_8 w31_6 hf31 hm31
            obtain ⟨hf31_0, hf31_1, hf31_2, ha31_3⟩ := hf31
            refine r_iload (pc := 31) dX12_walks_31 rfl ?_
            refine r_aload_n (pc := 33) dX12_walks_33 (i := 0) rfl rfl ?_
            refine t_getE (pc := 34) (.ref (y + 4)) ht31 (rd_of RX_y) fX12_20 dX12_walks_34 rfl ?_
            refine r_iload_n (pc := 37) dX12_walks_37 (i := 1) rfl rfl ?_
            refine t_ialdX (pc := 38) (t0 := 0) ht31 (rd_of RX_many) dX12_walks_38 rfl (by decide) (by omega) (fun b5 => ?_)
            have rb5 := (show Rfx 121 0 60 mn by assumption) (Int.toNat x1) (by omega)
            refine t_icmp_ge (pc := 39) (tgt := 80) dX12_walks_39 (by decide) (by omega) (by omega) (fun c39 => ?_) (fun c39 => ?_)
            · refine r_aload_n (pc := 80) dX12_walks_80 (i := 0) rfl rfl ?_
              refine t_getE (pc := 81) (.ref (y + 22)) ht31 (rd_of RX_y) fX12_75 dX12_walks_81 rfl ?_
              refine r_iload (pc := 84) dX12_walks_84 rfl ?_
              refine r_lload (pc := 86) dX12_walks_86 rfl ?_
              refine t_lastX (pc := 88) (t0 := 1) ht31 RX_next dX12_walks_88 rfl (by decide) (by omega) (fun hp6 ht7 => ?_)
              have ht8 := RXw_nx ht7
              have es88 : w31_6 = (wkC (Int.toNat (mn (Int.toNat x1))) (dr (Int.toNat x1)) (sh fr (60 * x1)) (sh tt (60 * x1)) (Int.toNat v10_4 + 1)) (Int.toNat v19_5) := by
                have h8 : w31_6 = wkA (dr (Int.toNat x1)) (sh fr (60 * x1)) (sh tt (60 * x1)) cl10 (Int.toNat v19_5) (Int.toNat v31_8) := (by assumption)
                rw [show v31_8 = (mn (Int.toNat x1)) by omega] at h8
                rw [h8]
                exact wkA_eq (show eqB cl10 _ _ by assumption) _ hFT
              have hn88 : eqB (fuj nx19 (Int.toNat v19_5) w31_6) (wkC (Int.toNat (mn (Int.toNat x1))) (dr (Int.toNat x1)) (sh fr (60 * x1)) (sh tt (60 * x1)) (Int.toNat v10_4 + 1)) (v19_5 + 1) := eqB_up (by assumption) (by omega) es88
              refine r_iinc (pc := 89) (v := iv (v19_5 + 1)) (lv' := [(5, .int (iv (v19_5 + 1))), (0, .ref y), (1, .int (iv x1)), (2, .int (iv x2)), (3, .int (iv (sz (Int.toNat x1)))), (4, .int (iv v10_4)), (6, .long w31_6), (8, .int (iv v31_8))]) dX12_walks_89 rfl (iv_add _ _) (by decide) rfl ?_
              refine r_goto (pc := 92) (tgt := 19) dX12_walks_92 (by decide) ?_
              refine Rn.pick (lv' := [(0, .ref y), (1, .int (iv x1)), (2, .int (iv x2)), (3, .int (iv (sz (Int.toNat x1)))), (4, .int (iv v10_4)), (5, .int (iv (v19_5 + 1)))]) [1, 2, 3, 4, 5, 0] rfl ?_
              exact ih19 (Int.toNat (16 - (v19_5 + 1))) (by omega) (fuj nx19 (Int.toNat v19_5) w31_6) _ ht8 (v19_5 + 1) ⟨by omega, by omega, by omega, by (first | assumption | exact eqB_0 _ _)⟩ (by omega)
            · refine r_aload_n (pc := 42) dX12_walks_42 (i := 0) rfl rfl ?_
              refine r_iload_n (pc := 43) dX12_walks_43 (i := 1) rfl rfl ?_
              refine r_iload (pc := 44) dX12_walks_44 rfl ?_
              refine r_iload (pc := 46) dX12_walks_46 rfl ?_
              obtain ⟨fs13, hfs13⟩ := t_obj ht31 (rd_of RX_y)
              refine r_callV (pc := 48) (as := [.int (iv x1), .int (iv v31_8), .int (iv v19_5)]) (st := []) kX12_205 rfl dX12_walks_48 hfs13 (x_X12_over (d := d - 1) (x1 := x1) (x2 := v31_8) (x3 := v19_5) (by omega) (by assumption) (by assumption) (by assumption) ht31 (by omega) (by omega) (by omega) (fun _ _ _ h => h)) rfl (by omega) (Nat.le_of_ble_eq_true rfl) (Nat.zero_le _) (Nat.zero_le _) rfl (fun r10 hp9 n11 hq12 => ?_)
              obtain ⟨hnn11, r9_15, ht14, hrr10, hhq120, hhq121⟩ := hq12
              subst n11 r10
              have hhq120 : r9_15 = inV tt fr dr x1 v31_8 v19_5 := hhq120
              have hhq121 : (-1) ≤ r9_15 ∧ r9_15 ≤ 15 := hhq121
              change Rn _ _ _ 51 _ [.int (iv r9_15)] _ _ _ _ _
              refine r_istore (pc := 51) (lv' := [(9, .int (iv r9_15)), (0, .ref y), (1, .int (iv x1)), (2, .int (iv x2)), (3, .int (iv (sz (Int.toNat x1)))), (4, .int (iv v10_4)), (5, .int (iv v19_5)), (6, .long w31_6), (8, .int (iv v31_8))]) dX12_walks_51 (by decide) rfl ?_
              refine r_lload (pc := 53) dX12_walks_53 rfl ?_
              refine r_iload (pc := 55) dX12_walks_55 rfl ?_
              refine t_if_lt (pc := 57) (tgt := 70) dX12_walks_57 (by decide) (by omega) (fun c57 => ?_) (fun c57 => ?_)
              · refine r_lconst (pc := 70) (v := 0) dX12_walks_70 (by decide) ?_
                refine r_ladd (pc := 71) (v := w31_6 + (0 : Int64)) dX12_walks_71 rfl ?_
                refine r_lstore (pc := 72) (lv' := [(6, .long (w31_6 + (0 : Int64))), (9, .int (iv r9_15)), (0, .ref y), (1, .int (iv x1)), (2, .int (iv x2)), (3, .int (iv (sz (Int.toNat x1)))), (4, .int (iv v10_4)), (5, .int (iv v19_5)), (8, .int (iv v31_8))]) dX12_walks_72 (by decide) rfl ?_
                refine r_iinc (pc := 74) (v := iv (v31_8 + 1)) (lv' := [(8, .int (iv (v31_8 + 1))), (6, .long (w31_6 + (0 : Int64))), (9, .int (iv r9_15)), (0, .ref y), (1, .int (iv x1)), (2, .int (iv x2)), (3, .int (iv (sz (Int.toNat x1)))), (4, .int (iv v10_4)), (5, .int (iv v19_5))]) dX12_walks_74 rfl (iv_add _ _) (by decide) rfl ?_
                refine r_goto (pc := 77) (tgt := 31) dX12_walks_77 (by decide) ?_
                refine Rn.pick (lv' := [(0, .ref y), (1, .int (iv x1)), (2, .int (iv x2)), (3, .int (iv (sz (Int.toNat x1)))), (4, .int (iv v10_4)), (5, .int (iv v19_5)), (6, .long (w31_6 + (0 : Int64))), (8, .int (iv (v31_8 + 1)))]) [3, 4, 5, 6, 7, 8, 1, 0] rfl ?_
                exact ih31 (Int.toNat (60 - (v31_8 + 1))) (by omega) _ ht14 (v31_8 + 1) (w31_6 + (0 : Int64)) ⟨by omega, by omega, by omega, by (first | rfl | exact wk_y (by assumption) (by omega) (by omega) (by assumption) (by omega) | exact wk_n (by assumption) (by omega) (by omega) (by assumption) (by omega) (by assumption) (by assumption) (by omega) (by omega))⟩ (by omega)
              · refine r_aload_n (pc := 60) dX12_walks_60 (i := 0) rfl rfl ?_
                refine t_getE (pc := 61) (.ref (y + 21)) ht14 (rd_of RX_y) fX12_72 dX12_walks_61 rfl ?_
                refine r_iload (pc := 64) dX12_walks_64 rfl ?_
                refine t_laldX (pc := 66) (t0 := 1) ht14 (rd_of RX_column) dX12_walks_66 rfl (by decide) (by omega) ?_
                refine r_goto (pc := 67) (tgt := 71) dX12_walks_67 (by decide) ?_
                refine r_ladd (pc := 71) (v := w31_6 + (cl10 (Int.toNat r9_15))) dX12_walks_71 rfl ?_
                refine r_lstore (pc := 72) (lv' := [(6, .long (w31_6 + (cl10 (Int.toNat r9_15)))), (9, .int (iv r9_15)), (0, .ref y), (1, .int (iv x1)), (2, .int (iv x2)), (3, .int (iv (sz (Int.toNat x1)))), (4, .int (iv v10_4)), (5, .int (iv v19_5)), (8, .int (iv v31_8))]) dX12_walks_72 (by decide) rfl ?_
                refine r_iinc (pc := 74) (v := iv (v31_8 + 1)) (lv' := [(8, .int (iv (v31_8 + 1))), (6, .long (w31_6 + (cl10 (Int.toNat r9_15)))), (9, .int (iv r9_15)), (0, .ref y), (1, .int (iv x1)), (2, .int (iv x2)), (3, .int (iv (sz (Int.toNat x1)))), (4, .int (iv v10_4)), (5, .int (iv v19_5))]) dX12_walks_74 rfl (iv_add _ _) (by decide) rfl ?_
                refine r_goto (pc := 77) (tgt := 31) dX12_walks_77 (by decide) ?_
                refine Rn.pick (lv' := [(0, .ref y), (1, .int (iv x1)), (2, .int (iv x2)), (3, .int (iv (sz (Int.toNat x1)))), (4, .int (iv v10_4)), (5, .int (iv v19_5)), (6, .long (w31_6 + (cl10 (Int.toNat r9_15)))), (8, .int (iv (v31_8 + 1)))]) [3, 4, 5, 6, 7, 8, 1, 0] rfl ?_
                exact ih31 (Int.toNat (60 - (v31_8 + 1))) (by omega) _ ht14 (v31_8 + 1) (w31_6 + (cl10 (Int.toNat r9_15))) ⟨by omega, by omega, by omega, by (first | rfl | exact wk_y (by assumption) (by omega) (by omega) (by assumption) (by omega) | exact wk_n (by assumption) (by omega) (by omega) (by assumption) (by omega) (by assumption) (by assumption) (by omega) (by omega))⟩ (by omega)
          refine Rn.pick (lv' := [(0, .ref y), (1, .int (iv x1)), (2, .int (iv x2)), (3, .int (iv (sz (Int.toNat x1)))), (4, .int (iv v10_4)), (5, .int (iv v19_5)), (6, .long (0 : Int64)), (8, .int (iv 0))]) [2, 3, 4, 5, 6, 7, 1, 0] rfl ?_
          exact B31 (Int.toNat (60 - 0)) _ ht19 0 (0 : Int64) ⟨by omega, by omega, by omega, by (first | rfl | exact wk_y (by assumption) (by omega) (by omega) (by assumption) (by omega) | exact wk_n (by assumption) (by omega) (by omega) (by assumption) (by omega) (by assumption) (by assumption) (by omega) (by omega))⟩ (by omega)
      refine Rn.pick (lv' := [(0, .ref y), (1, .int (iv x1)), (2, .int (iv x2)), (3, .int (iv (sz (Int.toNat x1)))), (4, .int (iv v10_4)), (5, .int (iv 0))]) [1, 2, 3, 4, 5, 0] rfl ?_
      exact B19 (Int.toNat (16 - 0)) nx10 _ ht10 0 ⟨by omega, by omega, by omega, by (first | assumption | exact eqB_0 _ _)⟩ (by omega)
  refine Rn.pick (lv' := [(0, .ref y), (1, .int (iv x1)), (2, .int (iv x2)), (3, .int (iv (sz (Int.toNat x1)))), (4, .int (iv 0))]) [2, 3, 4, 1, 0] rfl ?_
  exact B10 (Int.toNat (1000 - 0)) cl nx _ ht 0 ⟨by omega, by omega, by omega, by (first | assumption | exact h1c | exact wc_up (v := v98_5) (by assumption) (by omega) (by omega))⟩ (by omega)
set_option maxHeartbeats 4000000 in
set_option maxRecDepth 100000 in
theorem x_X12_reach {D : va_G} {cI cJ cZ cT : ClassId} {lo b L : Nat} {xs : Nat → Int32} {hp : MH} {n d : Nat} {Γ : TG} {y : Nat} {rf cn nm : Int} {so sz dr mn fr tt wt co : Nat → Int} {nu : Nat → Int64} {sa : Nat → Int} {wo : Nat → Int64} {ln : Nat → Int} {hw : Nat → Int64} {ro qi qc nf nt nw nc : Nat → Int} {cl nx : Nat → Int64} {ie be sd bl : Nat → Int} {bs wy ra rb : Nat → Int64} {lb bg os js ls : Nat → Int} {sp : Nat → Int64} {jw go : Nat → Int} {de : Nat → Int64} {yb ah im : Nat → Int} {x1 x2 : Int} {Po9 : Option Value → MH → Nat → Prop} (hd0 : 1 ≤ d) (hR_many : Rfx 121 0 60 mn) (hR_sizes : Rfx 121 0 16 sz) (hR_from : Rfx 7260 0 15 fr) (hR_to : Rfx 7260 0 15 tt) (hR_directs : Rfx 121 0 1 dr) (ht : Tw (RX Γ cI cJ cZ y rf cn nm so sz dr mn fr tt wt co nu sa wo ln hw ro qi qc nf nt nw nc cl nx ie be sd bl bs wy ra rb lb bg os js ls sp jw go de yb ah im) hp) (hx1 : 0 ≤ x1 ∧ x1 ≤ 120) (hx2 : 0 ≤ x2 ∧ x2 ≤ 65535) (hEn : enP fr tt mn sz x1) (hPo : ∀ r hp1 n1, (n1 = n ∧ ∃ (r9 : Int), Tw (RX Γ cI cJ cZ y rf cn nm so sz dr mn fr tt wt co nu sa wo ln hw ro qi qc nf nt nw nc cl nx ie be sd bl bs wy ra rb lb bg os js ls sp jw go de yb ah im) hp1 ∧ r = some (.int (iv r9)) ∧ (0 ≤ r9 ∧ r9 ≤ 65535) ∧ (∀ j, Me r9 j ↔ ∃ i, Me x2 i ∧ (stP (Int.toNat (mn (Int.toNat x1))) (dr (Int.toNat x1)) (sh fr (60 * x1)) (sh tt (60 * x1))) i j)) → Po9 r hp1 n1) : Mt (gG D cI cJ cZ cT lo b L xs) mX12_reach d 0 0 [.ref y, .int (iv x1), .int (iv x2)] hp n Po9 := by
  refine Mt.of rfl (Nat.le_of_ble_eq_true rfl) ?_
  refine Rn.pick (lv' := [(0, .ref y), (1, .int (iv x1)), (2, .int (iv x2))]) [0, 1, 2] rfl ?_
  have rmn := hR_many (Int.toNat x1) (by omega)
  have rsz := hR_sizes (Int.toNat x1) (by omega)
  have hFT := enF hEn (by assumption) (by assumption) (by omega) (by omega)
  refine r_iconst (pc := 0) (v := iv 0) dX12_reach_0 (by decide) ?_
  refine r_istore_n (pc := 1) (lv' := [(3, .int (iv 0)), (0, .ref y), (1, .int (iv x1)), (2, .int (iv x2))]) dX12_reach_1 (i := 3) rfl (by decide) rfl ?_
  refine r_iconst (pc := 2) (v := iv 0) dX12_reach_2 (by decide) ?_
  refine r_istore (pc := 3) (lv' := [(4, .int (iv 0)), (3, .int (iv 0)), (0, .ref y), (1, .int (iv x1)), (2, .int (iv x2))]) dX12_reach_3 (by decide) rfl ?_
  have B5 : ∀ k : Nat, ∀ hp5 : MH, Tw (RX Γ cI cJ cZ y rf cn nm so sz dr mn fr tt wt co nu sa wo ln hw ro qi qc nf nt nw nc cl nx ie be sd bl bs wy ra rb lb bg os js ls sp jw go de yb ah im) hp5 → ∀  (v5_3 : Int) (v5_4 : Int), 0 ≤ v5_3 ∧ v5_3 ≤ 65535 ∧ 0 ≤ v5_4 ∧ v5_4 ≤ 60 ∧ (v5_4 ≤ (mn (Int.toNat x1))) ∧ (rhP (dr (Int.toNat x1)) (sh fr (60 * x1)) (sh tt (60 * x1)) x2 v5_3 (Int.toNat v5_4)) → 60 - v5_4 ≤ (k : Int) → Rn (gG D cI cJ cZ cT lo b L xs) mX12_reach d 5 [(0, .ref y), (1, .int (iv x1)), (2, .int (iv x2)), (3, .int (iv v5_3)), (4, .int (iv v5_4))] [] hp5 n 0 0 Po9 := by
    refine lpS _ ?_
    intro k5 ih5 hp5 ht5 v5_3 v5_4 hf5 hm5
    obtain ⟨hf5_0, hf5_1, hf5_2, hf5_3, hf5_4, ha5_5⟩ := hf5
    refine r_iload (pc := 5) dX12_reach_5 rfl ?_
    refine r_aload_n (pc := 7) dX12_reach_7 (i := 0) rfl rfl ?_
    refine t_getE (pc := 8) (.ref (y + 4)) ht5 (rd_of RX_y) fX12_20 dX12_reach_8 rfl ?_
    refine r_iload_n (pc := 11) dX12_reach_11 (i := 1) rfl rfl ?_
    refine t_ialdX (pc := 12) (t0 := 0) ht5 (rd_of RX_many) dX12_reach_12 rfl (by decide) (by omega) (fun b1 => ?_)
    have rb1 := (show Rfx 121 0 60 mn by assumption) (Int.toNat x1) (by omega)
    refine t_icmp_ge (pc := 13) (tgt := 93) dX12_reach_13 (by decide) (by omega) (by omega) (fun c13 => ?_) (fun c13 => ?_)
    · refine r_iload_n (pc := 93) dX12_reach_93 (i := 3) rfl rfl ?_
      exact r_iret (pc := 94) dX12_reach_94 rfl (hPo _ _ _ ⟨rfl, v5_3, ht5, rfl, (by omega), (by (have h8 : rhP (dr (Int.toNat x1)) (sh fr (60 * x1)) (sh tt (60 * x1)) x2 v5_3 (Int.toNat v5_4) := (by assumption); rw [show v5_4 = (mn (Int.toNat x1)) by omega] at h8; exact rh_st (n := Int.toNat (sz (Int.toNat x1))) h8 (fun k hk => by have := hFT k hk; omega)))⟩)
    · refine r_iload_n (pc := 16) dX12_reach_16 (i := 1) rfl rfl ?_
      refine r_iload (pc := 17) dX12_reach_17 rfl ?_
      refine t_callSI (pc := 19) (as := [.int (iv x1), .int (iv v5_4)]) (st := []) kX12_157 dX12_reach_19 (t_X12_at1x (d := d - 1) (x1 := x1) (x2 := v5_4) (by omega)  ht5 (by omega) (by omega)) rfl (by omega) (Nat.le_of_ble_eq_true rfl) rfl (fun hp2 y4 ht3 by4 => ?_)
      have ey4 : y4 = 60 * x1 + v5_4 := by4
      subst ey4
      refine r_istore (pc := 22) (lv' := [(5, .int (iv (60 * x1 + v5_4))), (0, .ref y), (1, .int (iv x1)), (2, .int (iv x2)), (3, .int (iv v5_3)), (4, .int (iv v5_4))]) dX12_reach_22 (by decide) rfl ?_
      refine r_iload_n (pc := 24) dX12_reach_24 (i := 2) rfl rfl ?_
      refine r_aload_n (pc := 25) dX12_reach_25 (i := 0) rfl rfl ?_
      refine t_getE (pc := 26) (.ref (y + 5)) ht3 (rd_of RX_y) fX12_23 dX12_reach_26 rfl ?_
      refine r_iload (pc := 29) dX12_reach_29 rfl ?_
      refine t_ialdX (pc := 31) (t0 := 0) ht3 (rd_of RX_from) dX12_reach_31 rfl (by decide) (by omega) (fun b5 => ?_)
      have rb5 := (show Rfx 7260 0 15 fr by assumption) (Int.toNat (60 * x1 + v5_4)) (by omega)
      have hq32_6 := shr_le (Int.toNat x2) (Int.toNat (fr (Int.toNat (60 * x1 + v5_4))))
      refine r_ishr (pc := 32) (v := iv ((Int.toNat x2 >>> Int.toNat (fr (Int.toNat (60 * x1 + v5_4))) : Nat) : Int)) dX12_reach_32 (shr_e (by omega) (by omega)) ?_
      refine r_iconst (pc := 33) (v := iv 1) dX12_reach_33 (by decide) ?_
      refine r_iand (pc := 34) (v := iv (((Int.toNat x2 >>> Int.toNat (fr (Int.toNat (60 * x1 + v5_4))) : Nat) : Int) % 2)) dX12_reach_34 (and1_e _ (by omega)) ?_
      have mb34 := @Me_bit x2 (fr (Int.toNat (60 * x1 + v5_4)))
      refine r_iconst (pc := 35) (v := iv 1) dX12_reach_35 (by decide) ?_
      have B51 : ∀ hp51 : MH, Tw (RX Γ cI cJ cZ y rf cn nm so sz dr mn fr tt wt co nu sa wo ln hw ro qi qc nf nt nw nc cl nx ie be sd bl bs wy ra rb lb bg os js ls sp jw go de yb ah im) hp51 → ∀  (v51_3 : Int), 0 ≤ v51_3 ∧ v51_3 ≤ 65535 ∧ v5_3 ≤ v51_3 ∧ (∀ j, Me v51_3 j ↔ Me v5_3 j ∨ (Me x2 (Int.toNat (fr (Int.toNat (60 * x1 + v5_4)))) ∧ Int.toNat (tt (Int.toNat (60 * x1 + v5_4))) = j)) → Rn (gG D cI cJ cZ cT lo b L xs) mX12_reach d 51 [(0, .ref y), (1, .int (iv x1)), (2, .int (iv x2)), (3, .int (iv v51_3)), (4, .int (iv v5_4)), (5, .int (iv (60 * x1 + v5_4)))] [] hp51 n 0 0 Po9 := by
        intro hp51 ht51 v51_3 hf51
        obtain ⟨hf51_0, hf51_1, hf51_2, ha51_3⟩ := hf51
        refine r_aload_n (pc := 51) dX12_reach_51 (i := 0) rfl rfl ?_
        refine t_getE (pc := 52) (.ref (y + 3)) ht51 (rd_of RX_y) fX12_16 dX12_reach_52 rfl ?_
        refine r_iload_n (pc := 55) dX12_reach_55 (i := 1) rfl rfl ?_
        refine t_zaldX (pc := 56) (t0 := 2) ht51 (rd_of RX_directs) dX12_reach_56 rfl (by decide) (by omega) (fun b7 => ?_)
        have rb7 := (show Rfx 121 0 1 dr by assumption) (Int.toNat x1) (by omega)
        have B87 : ∀ hp87 : MH, Tw (RX Γ cI cJ cZ y rf cn nm so sz dr mn fr tt wt co nu sa wo ln hw ro qi qc nf nt nw nc cl nx ie be sd bl bs wy ra rb lb bg os js ls sp jw go de yb ah im) hp87 → ∀  (v87_3 : Int), 0 ≤ v87_3 ∧ v87_3 ≤ 65535 ∧ v51_3 ≤ v87_3 ∧ (∀ j, Me v87_3 j ↔ Me v51_3 j ∨ (((dr (Int.toNat x1)) = 0 ∧ Me x2 (Int.toNat (tt (Int.toNat (60 * x1 + v5_4))))) ∧ Int.toNat (fr (Int.toNat (60 * x1 + v5_4))) = j)) → Rn (gG D cI cJ cZ cT lo b L xs) mX12_reach d 87 [(0, .ref y), (1, .int (iv x1)), (2, .int (iv x2)), (3, .int (iv v87_3)), (4, .int (iv v5_4))] [] hp87 n 0 0 Po9 := by
          intro hp87 ht87 v87_3 hf87
          obtain ⟨hf87_0, hf87_1, hf87_2, ha87_3⟩ := hf87
          refine r_iinc (pc := 87) (v := iv (v5_4 + 1)) (lv' := [(4, .int (iv (v5_4 + 1))), (0, .ref y), (1, .int (iv x1)), (2, .int (iv x2)), (3, .int (iv v87_3))]) dX12_reach_87 rfl (iv_add _ _) (by decide) rfl ?_
          refine r_goto (pc := 90) (tgt := 5) dX12_reach_90 (by decide) ?_
          refine Rn.pick (lv' := [(0, .ref y), (1, .int (iv x1)), (2, .int (iv x2)), (3, .int (iv v87_3)), (4, .int (iv (v5_4 + 1)))]) [1, 2, 3, 4, 0] rfl ?_
          exact ih5 (Int.toNat (60 - (v5_4 + 1))) (by omega) _ ht87 v87_3 (v5_4 + 1) ⟨by omega, by omega, by omega, by omega, by omega, by (first | exact rh_0 _ _ _ _ | (refine rh_up (a1 := v51_3) (by assumption) (by omega) ?_ ?_ <;> (rw [← sh_at fr (60 * x1) (v := v5_4) (by omega), ← sh_at tt (60 * x1) (v := v5_4) (by omega)]; assumption)))⟩ (by omega)
        refine t_if_ne (pc := 57) (tgt := 87) dX12_reach_57 (by decide) (by omega) (fun c57 => ?_) (fun c57 => ?_)
        · refine Rn.pick (lv' := [(0, .ref y), (1, .int (iv x1)), (2, .int (iv x2)), (3, .int (iv v51_3)), (4, .int (iv v5_4))]) [0, 1, 2, 3, 4] rfl ?_
          exact B87 _ ht51 v51_3 ⟨by omega, by omega, by omega, by (first | exact or_y (by assumption) (by assumption) ⟨by omega, by assumption⟩ | exact or_n (fun h9 => absurd h9.1 (by omega)) | exact or_n (fun h9 => absurd h9.2 (by assumption)))⟩
        · refine r_iload_n (pc := 60) dX12_reach_60 (i := 2) rfl rfl ?_
          refine r_aload_n (pc := 61) dX12_reach_61 (i := 0) rfl rfl ?_
          refine t_getE (pc := 62) (.ref (y + 6)) ht51 (rd_of RX_y) fX12_26 dX12_reach_62 rfl ?_
          refine r_iload (pc := 65) dX12_reach_65 rfl ?_
          refine t_ialdX (pc := 67) (t0 := 0) ht51 (rd_of RX_to) dX12_reach_67 rfl (by decide) (by omega) (fun b8 => ?_)
          have rb8 := (show Rfx 7260 0 15 tt by assumption) (Int.toNat (60 * x1 + v5_4)) (by omega)
          have hq68_9 := shr_le (Int.toNat x2) (Int.toNat (tt (Int.toNat (60 * x1 + v5_4))))
          refine r_ishr (pc := 68) (v := iv ((Int.toNat x2 >>> Int.toNat (tt (Int.toNat (60 * x1 + v5_4))) : Nat) : Int)) dX12_reach_68 (shr_e (by omega) (by omega)) ?_
          refine r_iconst (pc := 69) (v := iv 1) dX12_reach_69 (by decide) ?_
          refine r_iand (pc := 70) (v := iv (((Int.toNat x2 >>> Int.toNat (tt (Int.toNat (60 * x1 + v5_4))) : Nat) : Int) % 2)) dX12_reach_70 (and1_e _ (by omega)) ?_
          have mb70 := @Me_bit x2 (tt (Int.toNat (60 * x1 + v5_4)))
          refine r_iconst (pc := 71) (v := iv 1) dX12_reach_71 (by decide) ?_
          refine t_icmp_ne (pc := 72) (tgt := 87) dX12_reach_72 (by decide) (by omega) (by omega) (fun c72 => ?_) (fun c72 => ?_)
          · have nm72 : ¬ Me x2 (Int.toNat (tt (Int.toNat (60 * x1 + v5_4)))) := fun h9 => absurd (Me_bit.mpr h9) (by omega)
            refine Rn.pick (lv' := [(0, .ref y), (1, .int (iv x1)), (2, .int (iv x2)), (3, .int (iv v51_3)), (4, .int (iv v5_4))]) [0, 1, 2, 3, 4] rfl ?_
            exact B87 _ ht51 v51_3 ⟨by omega, by omega, by omega, by (first | exact or_y (by assumption) (by assumption) ⟨by omega, by assumption⟩ | exact or_n (fun h9 => absurd h9.1 (by omega)) | exact or_n (fun h9 => absurd h9.2 (by assumption)))⟩
          · have pm72 : Me x2 (Int.toNat (tt (Int.toNat (60 * x1 + v5_4)))) := Me_bit.mp (by omega)
            refine r_iload_n (pc := 75) dX12_reach_75 (i := 3) rfl rfl ?_
            refine r_iconst (pc := 76) (v := iv 1) dX12_reach_76 (by decide) ?_
            refine r_aload_n (pc := 77) dX12_reach_77 (i := 0) rfl rfl ?_
            refine t_getE (pc := 78) (.ref (y + 5)) ht51 (rd_of RX_y) fX12_23 dX12_reach_78 rfl ?_
            refine r_iload (pc := 81) dX12_reach_81 rfl ?_
            refine t_ialdX (pc := 83) (t0 := 0) ht51 (rd_of RX_from) dX12_reach_83 rfl (by decide) (by omega) (fun b10 => ?_)
            have rb10 := (show Rfx 7260 0 15 fr by assumption) (Int.toNat (60 * x1 + v5_4)) (by omega)
            refine r_ishl (pc := 84) (v := iv ((2 ^ Int.toNat (fr (Int.toNat (60 * x1 + v5_4))) : Nat) : Int)) dX12_reach_84 (shl_e (by omega)) ?_
            have mp84_11 : 1 ≤ 2 ^ Int.toNat (fr (Int.toNat (60 * x1 + v5_4))) := Nat.one_le_two_pow
            have mq84_12 : 2 ^ Int.toNat (fr (Int.toNat (60 * x1 + v5_4))) ≤ 2 ^ 15 := Nat.pow_le_pow_right (by omega) (by omega)
            have ms84 := Me_shl (Int.toNat (fr (Int.toNat (60 * x1 + v5_4))))
            obtain ⟨z13, hz13, bz13⟩ := or_2 16 v51_3 ((2 ^ Int.toNat (fr (Int.toNat (60 * x1 + v5_4))) : Nat) : Int) (by omega) (by omega) (by decide)
            refine r_ior (pc := 85) (v := iv z13) dX12_reach_85 hz13 ?_
            have mez13 := Me_or hz13 (by omega) (by omega) (by omega)
            refine r_istore_n (pc := 86) (lv' := [(3, .int (iv z13)), (0, .ref y), (1, .int (iv x1)), (2, .int (iv x2)), (4, .int (iv v5_4)), (5, .int (iv (60 * x1 + v5_4)))]) dX12_reach_86 (i := 3) rfl (by decide) rfl ?_
            refine Rn.pick (lv' := [(0, .ref y), (1, .int (iv x1)), (2, .int (iv x2)), (3, .int (iv z13)), (4, .int (iv v5_4))]) [1, 2, 3, 0, 4] rfl ?_
            exact B87 _ ht51 z13 ⟨by omega, by omega, by omega, by (first | exact or_y (by assumption) (by assumption) ⟨by omega, by assumption⟩ | exact or_n (fun h9 => absurd h9.1 (by omega)) | exact or_n (fun h9 => absurd h9.2 (by assumption)))⟩
      refine t_icmp_ne (pc := 36) (tgt := 51) dX12_reach_36 (by decide) (by omega) (by omega) (fun c36 => ?_) (fun c36 => ?_)
      · have nm36 : ¬ Me x2 (Int.toNat (fr (Int.toNat (60 * x1 + v5_4)))) := fun h9 => absurd (Me_bit.mpr h9) (by omega)
        refine Rn.pick (lv' := [(0, .ref y), (1, .int (iv x1)), (2, .int (iv x2)), (3, .int (iv v5_3)), (4, .int (iv v5_4)), (5, .int (iv (60 * x1 + v5_4)))]) [1, 2, 3, 4, 5, 0] rfl ?_
        exact B51 _ ht3 v5_3 ⟨by omega, by omega, by omega, by (first | exact or_y (by assumption) (by assumption) (by assumption) | exact or_n (by assumption))⟩
      · have pm36 : Me x2 (Int.toNat (fr (Int.toNat (60 * x1 + v5_4)))) := Me_bit.mp (by omega)
        refine r_iload_n (pc := 39) dX12_reach_39 (i := 3) rfl rfl ?_
        refine r_iconst (pc := 40) (v := iv 1) dX12_reach_40 (by decide) ?_
        refine r_aload_n (pc := 41) dX12_reach_41 (i := 0) rfl rfl ?_
        refine t_getE (pc := 42) (.ref (y + 6)) ht3 (rd_of RX_y) fX12_26 dX12_reach_42 rfl ?_
        refine r_iload (pc := 45) dX12_reach_45 rfl ?_
        refine t_ialdX (pc := 47) (t0 := 0) ht3 (rd_of RX_to) dX12_reach_47 rfl (by decide) (by omega) (fun b14 => ?_)
        have rb14 := (show Rfx 7260 0 15 tt by assumption) (Int.toNat (60 * x1 + v5_4)) (by omega)
        refine r_ishl (pc := 48) (v := iv ((2 ^ Int.toNat (tt (Int.toNat (60 * x1 + v5_4))) : Nat) : Int)) dX12_reach_48 (shl_e (by omega)) ?_
        have mp48_15 : 1 ≤ 2 ^ Int.toNat (tt (Int.toNat (60 * x1 + v5_4))) := Nat.one_le_two_pow
        have mq48_16 : 2 ^ Int.toNat (tt (Int.toNat (60 * x1 + v5_4))) ≤ 2 ^ 15 := Nat.pow_le_pow_right (by omega) (by omega)
        have ms48 := Me_shl (Int.toNat (tt (Int.toNat (60 * x1 + v5_4))))
        obtain ⟨z17, hz17, bz17⟩ := or_2 16 v5_3 ((2 ^ Int.toNat (tt (Int.toNat (60 * x1 + v5_4))) : Nat) : Int) (by omega) (by omega) (by decide)
        refine r_ior (pc := 49) (v := iv z17) dX12_reach_49 hz17 ?_
        have mez17 := Me_or hz17 (by omega) (by omega) (by omega)
        refine r_istore_n (pc := 50) (lv' := [(3, .int (iv z17)), (5, .int (iv (60 * x1 + v5_4))), (0, .ref y), (1, .int (iv x1)), (2, .int (iv x2)), (4, .int (iv v5_4))]) dX12_reach_50 (i := 3) rfl (by decide) rfl ?_
        refine Rn.pick (lv' := [(0, .ref y), (1, .int (iv x1)), (2, .int (iv x2)), (3, .int (iv z17)), (4, .int (iv v5_4)), (5, .int (iv (60 * x1 + v5_4)))]) [2, 3, 4, 0, 5, 1] rfl ?_
        exact B51 _ ht3 z17 ⟨by omega, by omega, by omega, by (first | exact or_y (by assumption) (by assumption) (by assumption) | exact or_n (by assumption))⟩
  refine Rn.pick (lv' := [(0, .ref y), (1, .int (iv x1)), (2, .int (iv x2)), (3, .int (iv 0)), (4, .int (iv 0))]) [2, 3, 4, 1, 0] rfl ?_
  exact B5 (Int.toNat (60 - 0)) _ ht 0 0 ⟨by omega, by omega, by omega, by omega, by omega, by (first | exact rh_0 _ _ _ _ | (refine rh_up (a1 := v51_3) (by assumption) (by omega) ?_ ?_ <;> (rw [← sh_at fr (60 * x1) (v := v5_4) (by omega), ← sh_at tt (60 * x1) (v := v5_4) (by omega)]; assumption)))⟩ (by omega)
set_option maxHeartbeats 4000000 in
set_option maxRecDepth 100000 in
theorem x_X12_reachAll {D : va_G} {cI cJ cZ cT : ClassId} {lo b L : Nat} {xs : Nat → Int32} {hp : MH} {n d : Nat} {Γ : TG} {y : Nat} {rf cn nm : Int} {so sz dr mn fr tt wt co : Nat → Int} {nu : Nat → Int64} {sa : Nat → Int} {wo : Nat → Int64} {ln : Nat → Int} {hw : Nat → Int64} {ro qi qc nf nt nw nc : Nat → Int} {cl nx : Nat → Int64} {ie be sd bl : Nat → Int} {bs wy ra rb : Nat → Int64} {lb bg os js ls : Nat → Int} {sp : Nat → Int64} {jw go : Nat → Int} {de : Nat → Int64} {yb ah im : Nat → Int} {x1 x2 : Int} {Po9 : Option Value → MH → Nat → Prop} (hd0 : 2 ≤ d) (hR_many : Rfx 121 0 60 mn) (hR_sizes : Rfx 121 0 16 sz) (hR_from : Rfx 7260 0 15 fr) (hR_to : Rfx 7260 0 15 tt) (hR_directs : Rfx 121 0 1 dr) (ht : Tw (RX Γ cI cJ cZ y rf cn nm so sz dr mn fr tt wt co nu sa wo ln hw ro qi qc nf nt nw nc cl nx ie be sd bl bs wy ra rb lb bg os js ls sp jw go de yb ah im) hp) (hx1 : 0 ≤ x1 ∧ x1 ≤ 120) (hx2 : 0 ≤ x2 ∧ x2 ≤ 65535) (hEn : enP fr tt mn sz x1) (hPo : ∀ r hp1 n1, (n1 = n ∧ ∃ (r9 : Int), Tw (RX Γ cI cJ cZ y rf cn nm so sz dr mn fr tt wt co nu sa wo ln hw ro qi qc nf nt nw nc cl nx ie be sd bl bs wy ra rb lb bg os js ls sp jw go de yb ah im) hp1 ∧ r = some (.int (iv r9)) ∧ (0 ≤ r9 ∧ r9 ≤ 65535) ∧ (∀ j, Me r9 j ↔ RC (stP (Int.toNat (mn (Int.toNat x1))) (dr (Int.toNat x1)) (sh fr (60 * x1)) (sh tt (60 * x1))) (fun x => Me x2 x) j)) → Po9 r hp1 n1) : Mt (gG D cI cJ cZ cT lo b L xs) mX12_reachAll d 0 0 [.ref y, .int (iv x1), .int (iv x2)] hp n Po9 := by
  refine Mt.of rfl (Nat.le_of_ble_eq_true rfl) ?_
  refine Rn.pick (lv' := [(0, .ref y), (1, .int (iv x1)), (2, .int (iv x2))]) [0, 1, 2] rfl ?_
  refine r_iload_n (pc := 0) dX12_reachAll_0 (i := 2) rfl rfl ?_
  refine r_istore_n (pc := 1) (lv' := [(3, .int (iv x2)), (0, .ref y), (1, .int (iv x1)), (2, .int (iv x2))]) dX12_reachAll_1 (i := 3) rfl (by decide) rfl ?_
  refine r_iload_n (pc := 2) dX12_reachAll_2 (i := 3) rfl rfl ?_
  refine r_aload_n (pc := 3) dX12_reachAll_3 (i := 0) rfl rfl ?_
  refine r_iload_n (pc := 4) dX12_reachAll_4 (i := 1) rfl rfl ?_
  refine r_iload_n (pc := 5) dX12_reachAll_5 (i := 3) rfl rfl ?_
  obtain ⟨fs5, hfs5⟩ := t_obj ht (rd_of RX_y)
  refine r_callV (pc := 6) (as := [.int (iv x1), .int (iv x2)]) (st := [.int (iv x2)]) kX12_231 rfl dX12_reachAll_6 hfs5 (x_X12_reach (d := d - 1) (x1 := x1) (x2 := x2) (by omega) (by assumption) (by assumption) (by assumption) (by assumption) (by assumption) ht (by omega) (by omega) (by assumption) (fun _ _ _ h => h)) rfl (by omega) (Nat.le_of_ble_eq_true rfl) (Nat.zero_le _) (Nat.zero_le _) rfl (fun r2 hp1 n3 hq4 => ?_)
  obtain ⟨hnn3, r9_7, ht6, hrr2, hhq40, hhq41⟩ := hq4
  subst n3 r2
  have hhq40 : 0 ≤ r9_7 ∧ r9_7 ≤ 65535 := hhq40
  have hhq41 : ∀ j, Me r9_7 j ↔ ∃ i, Me x2 i ∧ (stP (Int.toNat (mn (Int.toNat x1))) (dr (Int.toNat x1)) (sh fr (60 * x1)) (sh tt (60 * x1))) i j := hhq41
  change Rn _ _ _ 9 _ [.int (iv r9_7), .int (iv x2)] _ _ _ _ _
  obtain ⟨z8, hz8, bz8⟩ := or_2 16 x2 r9_7 (by omega) (by omega) (by decide)
  refine r_ior (pc := 9) (v := iv z8) dX12_reachAll_9 hz8 ?_
  have mez8 := Me_or hz8 (by omega) (by omega) (by omega)
  have hraz8 : raP (stP (Int.toNat (mn (Int.toNat x1))) (dr (Int.toNat x1)) (sh fr (60 * x1)) (sh tt (60 * x1))) x2 x2 z8 := by first | exact ra_0 mez8 (by assumption) | exact ra_st (by assumption) mez8 (by assumption)
  refine r_istore (pc := 10) (lv' := [(4, .int (iv z8)), (3, .int (iv x2)), (0, .ref y), (1, .int (iv x1)), (2, .int (iv x2))]) dX12_reachAll_10 (by decide) rfl ?_
  have B12 : ∀ k : Nat, ∀ hp12 : MH, Tw (RX Γ cI cJ cZ y rf cn nm so sz dr mn fr tt wt co nu sa wo ln hw ro qi qc nf nt nw nc cl nx ie be sd bl bs wy ra rb lb bg os js ls sp jw go de yb ah im) hp12 → ∀  (v12_3 : Int) (v12_4 : Int), 0 ≤ v12_3 ∧ v12_3 ≤ 65535 ∧ 0 ≤ v12_4 ∧ v12_4 ≤ 65535 ∧ (v12_3 ≤ v12_4) ∧ (raP (stP (Int.toNat (mn (Int.toNat x1))) (dr (Int.toNat x1)) (sh fr (60 * x1)) (sh tt (60 * x1))) x2 v12_3 v12_4) → 65535 - v12_3 ≤ (k : Int) → Rn (gG D cI cJ cZ cT lo b L xs) mX12_reachAll d 12 [(0, .ref y), (1, .int (iv x1)), (3, .int (iv v12_3)), (4, .int (iv v12_4))] [] hp12 n 0 0 Po9 := by
    refine lpS _ ?_
    intro k12 ih12 hp12 ht12 v12_3 v12_4 hf12 hm12
    obtain ⟨hf12_0, hf12_1, hf12_2, hf12_3, hf12_4, ha12_5⟩ := hf12
    refine r_iload (pc := 12) dX12_reachAll_12 rfl ?_
    refine r_iload_n (pc := 14) dX12_reachAll_14 (i := 3) rfl rfl ?_
    refine t_icmp_eq (pc := 15) (tgt := 34) dX12_reachAll_15 (by decide) (by omega) (by omega) (fun c15 => ?_) (fun c15 => ?_)
    · refine r_iload_n (pc := 34) dX12_reachAll_34 (i := 3) rfl rfl ?_
      exact r_iret (pc := 35) dX12_reachAll_35 rfl (hPo _ _ _ ⟨rfl, v12_3, ht12, rfl, (by omega), (by (have h8 : raP (stP (Int.toNat (mn (Int.toNat x1))) (dr (Int.toNat x1)) (sh fr (60 * x1)) (sh tt (60 * x1))) x2 v12_3 v12_4 := (by assumption); rw [show v12_4 = v12_3 by omega] at h8; exact ra_end h8))⟩)
    · refine r_iload (pc := 18) dX12_reachAll_18 rfl ?_
      refine r_istore_n (pc := 20) (lv' := [(3, .int (iv v12_4)), (0, .ref y), (1, .int (iv x1)), (4, .int (iv v12_4))]) dX12_reachAll_20 (i := 3) rfl (by decide) rfl ?_
      refine r_iload_n (pc := 21) dX12_reachAll_21 (i := 3) rfl rfl ?_
      refine r_aload_n (pc := 22) dX12_reachAll_22 (i := 0) rfl rfl ?_
      refine r_iload_n (pc := 23) dX12_reachAll_23 (i := 1) rfl rfl ?_
      refine r_iload_n (pc := 24) dX12_reachAll_24 (i := 3) rfl rfl ?_
      obtain ⟨fs13, hfs13⟩ := t_obj ht12 (rd_of RX_y)
      refine r_callV (pc := 25) (as := [.int (iv x1), .int (iv v12_4)]) (st := [.int (iv v12_4)]) kX12_231 rfl dX12_reachAll_25 hfs13 (x_X12_reach (d := d - 1) (x1 := x1) (x2 := v12_4) (by omega) (by assumption) (by assumption) (by assumption) (by assumption) (by assumption) ht12 (by omega) (by omega) (by assumption) (fun _ _ _ h => h)) rfl (by omega) (Nat.le_of_ble_eq_true rfl) (Nat.zero_le _) (Nat.zero_le _) rfl (fun r10 hp9 n11 hq12 => ?_)
      obtain ⟨hnn11, r9_15, ht14, hrr10, hhq120, hhq121⟩ := hq12
      subst n11 r10
      have hhq120 : 0 ≤ r9_15 ∧ r9_15 ≤ 65535 := hhq120
      have hhq121 : ∀ j, Me r9_15 j ↔ ∃ i, Me v12_4 i ∧ (stP (Int.toNat (mn (Int.toNat x1))) (dr (Int.toNat x1)) (sh fr (60 * x1)) (sh tt (60 * x1))) i j := hhq121
      change Rn _ _ _ 28 _ [.int (iv r9_15), .int (iv v12_4)] _ _ _ _ _
      obtain ⟨z16, hz16, bz16⟩ := or_2 16 v12_4 r9_15 (by omega) (by omega) (by decide)
      refine r_ior (pc := 28) (v := iv z16) dX12_reachAll_28 hz16 ?_
      have mez16 := Me_or hz16 (by omega) (by omega) (by omega)
      have hraz16 : raP (stP (Int.toNat (mn (Int.toNat x1))) (dr (Int.toNat x1)) (sh fr (60 * x1)) (sh tt (60 * x1))) x2 v12_4 z16 := by first | exact ra_0 mez16 (by assumption) | exact ra_st (by assumption) mez16 (by assumption)
      refine r_istore (pc := 29) (lv' := [(4, .int (iv z16)), (3, .int (iv v12_4)), (0, .ref y), (1, .int (iv x1))]) dX12_reachAll_29 (by decide) rfl ?_
      refine r_goto (pc := 31) (tgt := 12) dX12_reachAll_31 (by decide) ?_
      refine Rn.pick (lv' := [(0, .ref y), (1, .int (iv x1)), (3, .int (iv v12_4)), (4, .int (iv z16))]) [2, 3, 1, 0] rfl ?_
      exact ih12 (Int.toNat (65535 - v12_4)) (by omega) _ ht14 v12_4 z16 ⟨by omega, by omega, by omega, by omega, by omega, by assumption⟩ (by omega)
  refine Rn.pick (lv' := [(0, .ref y), (1, .int (iv x1)), (3, .int (iv x2)), (4, .int (iv z8))]) [2, 3, 1, 0] rfl ?_
  exact B12 (Int.toNat (65535 - x2)) _ ht6 x2 z8 ⟨by omega, by omega, by omega, by omega, by omega, by assumption⟩ (by omega)
set_option maxHeartbeats 4000000 in
set_option maxRecDepth 100000 in
theorem x_X12_farthest {D : va_G} {cI cJ cZ cT : ClassId} {lo b L : Nat} {xs : Nat → Int32} {hp : MH} {n d : Nat} {Γ : TG} {y : Nat} {rf cn nm : Int} {so sz dr mn fr tt wt co : Nat → Int} {nu : Nat → Int64} {sa : Nat → Int} {wo : Nat → Int64} {ln : Nat → Int} {hw : Nat → Int64} {ro qi qc nf nt nw nc : Nat → Int} {cl nx : Nat → Int64} {ie be sd bl : Nat → Int} {bs wy ra rb : Nat → Int64} {lb bg os js ls : Nat → Int} {sp : Nat → Int64} {jw go : Nat → Int} {de : Nat → Int64} {yb ah im : Nat → Int} {x1 : Int} {Po9 : Option Value → MH → Nat → Prop} (hd0 : 2 ≤ d) (hR_many : Rfx 121 0 60 mn) (hR_sizes : Rfx 121 0 16 sz) (hR_from : Rfx 7260 0 15 fr) (hR_to : Rfx 7260 0 15 tt) (hR_directs : Rfx 121 0 1 dr) (ht : Tw (RX Γ cI cJ cZ y rf cn nm so sz dr mn fr tt wt co nu sa wo ln hw ro qi qc nf nt nw nc cl nx ie be sd bl bs wy ra rb lb bg os js ls sp jw go de yb ah im) hp) (hx1 : 0 ≤ x1 ∧ x1 ≤ 120) (hEn : enP fr tt mn sz x1) (h0c : eqB cl (fun _ => 0) (sz (Int.toNat x1))) (hPo : ∀ r hp1 n1, (n1 = n ∧ ∃ (k1 : Nat → Int64), Tw (RX Γ cI cJ cZ y rf cn nm so sz dr mn fr tt wt co nu sa wo ln hw ro qi qc nf nt nw nc k1 nx ie be sd bl bs wy ra rb lb bg os js ls sp jw go de yb ah im) hp1 ∧ r = none ∧ (fcP (stP (Int.toNat (mn (Int.toNat x1))) (dr (Int.toNat x1)) (sh fr (60 * x1)) (sh tt (60 * x1))) (sz (Int.toNat x1)) (sz (Int.toNat x1)) k1)) → Po9 r hp1 n1) : Mt (gG D cI cJ cZ cT lo b L xs) mX12_farthest d 0 0 [.ref y, .int (iv x1)] hp n Po9 := by
  refine Mt.of rfl (Nat.le_of_ble_eq_true rfl) ?_
  refine Rn.pick (lv' := [(0, .ref y), (1, .int (iv x1))]) [0, 1] rfl ?_
  have rmn := hR_many (Int.toNat x1) (by omega)
  have rsz := hR_sizes (Int.toNat x1) (by omega)
  refine r_iconst (pc := 0) (v := iv 0) dX12_farthest_0 (by decide) ?_
  refine r_istore_n (pc := 1) (lv' := [(2, .int (iv 0)), (0, .ref y), (1, .int (iv x1))]) dX12_farthest_1 (i := 2) rfl (by decide) rfl ?_
  have B2 : ∀ k : Nat, ∀ cl2 : Nat → Int64, ∀ hp2 : MH, Tw (RX Γ cI cJ cZ y rf cn nm so sz dr mn fr tt wt co nu sa wo ln hw ro qi qc nf nt nw nc cl2 nx ie be sd bl bs wy ra rb lb bg os js ls sp jw go de yb ah im) hp2 → ∀  (v2_2 : Int), 0 ≤ v2_2 ∧ v2_2 ≤ 16 ∧ (v2_2 ≤ (sz (Int.toNat x1))) ∧ (fcP (stP (Int.toNat (mn (Int.toNat x1))) (dr (Int.toNat x1)) (sh fr (60 * x1)) (sh tt (60 * x1))) (sz (Int.toNat x1)) v2_2 cl2) → 16 - v2_2 ≤ (k : Int) → Rn (gG D cI cJ cZ cT lo b L xs) mX12_farthest d 2 [(0, .ref y), (1, .int (iv x1)), (2, .int (iv v2_2))] [] hp2 n 0 0 Po9 := by
    refine lpS _ ?_
    intro k2 ih2 cl2 hp2 ht2 v2_2 hf2 hm2
    obtain ⟨hf2_0, hf2_1, hf2_2, ha2_3⟩ := hf2
    refine r_iload_n (pc := 2) dX12_farthest_2 (i := 2) rfl rfl ?_
    refine r_aload_n (pc := 3) dX12_farthest_3 (i := 0) rfl rfl ?_
    refine t_getE (pc := 4) (.ref (y + 2)) ht2 (rd_of RX_y) fX12_13 dX12_farthest_4 rfl ?_
    refine r_iload_n (pc := 7) dX12_farthest_7 (i := 1) rfl rfl ?_
    refine t_ialdX (pc := 8) (t0 := 0) ht2 (rd_of RX_sizes) dX12_farthest_8 rfl (by decide) (by omega) (fun b1 => ?_)
    have rb1 := (show Rfx 121 0 16 sz by assumption) (Int.toNat x1) (by omega)
    refine t_icmp_ge (pc := 9) (tgt := 64) dX12_farthest_9 (by decide) (by omega) (by omega) (fun c9 => ?_) (fun c9 => ?_)
    · exact r_vret (pc := 64) dX12_farthest_64 rfl (hPo _ _ _ ⟨rfl, cl2, ht2, rfl, (by (have h8 : fcP (stP (Int.toNat (mn (Int.toNat x1))) (dr (Int.toNat x1)) (sh fr (60 * x1)) (sh tt (60 * x1))) (sz (Int.toNat x1)) v2_2 cl2 := (by assumption); rw [show v2_2 = (sz (Int.toNat x1)) by omega] at h8; exact h8))⟩)
    · refine r_iconst (pc := 12) (v := iv 1) dX12_farthest_12 (by decide) ?_
      refine r_iload_n (pc := 13) dX12_farthest_13 (i := 2) rfl rfl ?_
      refine r_ishl (pc := 14) (v := iv ((2 ^ Int.toNat v2_2 : Nat) : Int)) dX12_farthest_14 (shl_e (by omega)) ?_
      have mp14_2 : 1 ≤ 2 ^ Int.toNat v2_2 := Nat.one_le_two_pow
      have mq14_3 : 2 ^ Int.toNat v2_2 ≤ 2 ^ 15 := Nat.pow_le_pow_right (by omega) (by omega)
      have ms14 := Me_shl (Int.toNat v2_2)
      refine r_istore_n (pc := 15) (lv' := [(3, .int (iv ((2 ^ Int.toNat v2_2 : Nat) : Int))), (0, .ref y), (1, .int (iv x1)), (2, .int (iv v2_2))]) dX12_farthest_15 (i := 3) rfl (by decide) rfl ?_
      refine r_iload_n (pc := 16) dX12_farthest_16 (i := 3) rfl rfl ?_
      refine r_aload_n (pc := 17) dX12_farthest_17 (i := 0) rfl rfl ?_
      refine r_iload_n (pc := 18) dX12_farthest_18 (i := 1) rfl rfl ?_
      refine r_iload_n (pc := 19) dX12_farthest_19 (i := 3) rfl rfl ?_
      obtain ⟨fs8, hfs8⟩ := t_obj ht2 (rd_of RX_y)
      refine r_callV (pc := 20) (as := [.int (iv x1), .int (iv ((2 ^ Int.toNat v2_2 : Nat) : Int))]) (st := [.int (iv ((2 ^ Int.toNat v2_2 : Nat) : Int))]) kX12_231 rfl dX12_farthest_20 hfs8 (x_X12_reach (d := d - 1) (x1 := x1) (x2 := ((2 ^ Int.toNat v2_2 : Nat) : Int)) (by omega) (by assumption) (by assumption) (by assumption) (by assumption) (by assumption) ht2 (by omega) (by omega) (by assumption) (fun _ _ _ h => h)) rfl (by omega) (Nat.le_of_ble_eq_true rfl) (Nat.zero_le _) (Nat.zero_le _) rfl (fun r5 hp4 n6 hq7 => ?_)
      obtain ⟨hnn6, r9_10, ht9, hrr5, hhq70, hhq71⟩ := hq7
      subst n6 r5
      have hhq70 : 0 ≤ r9_10 ∧ r9_10 ≤ 65535 := hhq70
      have hhq71 : ∀ j, Me r9_10 j ↔ ∃ i, Me ((2 ^ Int.toNat v2_2 : Nat) : Int) i ∧ (stP (Int.toNat (mn (Int.toNat x1))) (dr (Int.toNat x1)) (sh fr (60 * x1)) (sh tt (60 * x1))) i j := hhq71
      change Rn _ _ _ 23 _ [.int (iv r9_10), .int (iv ((2 ^ Int.toNat v2_2 : Nat) : Int))] _ _ _ _ _
      obtain ⟨z11, hz11, bz11⟩ := or_2 16 ((2 ^ Int.toNat v2_2 : Nat) : Int) r9_10 (by omega) (by omega) (by decide)
      refine r_ior (pc := 23) (v := iv z11) dX12_farthest_23 hz11 ?_
      have mez11 := Me_or hz11 (by omega) (by omega) (by omega)
      have hfaz11 : faP (stP (Int.toNat (mn (Int.toNat x1))) (dr (Int.toNat x1)) (sh fr (60 * x1)) (sh tt (60 * x1))) (Int.toNat v2_2) ((2 ^ Int.toNat v2_2 : Nat) : Int) z11 0 := fa_0 ms14 (by omega) mez11 (by assumption)
      have hcz : cl2 (Int.toNat v2_2) = 0 := (by assumption : fcP (stP (Int.toNat (mn (Int.toNat x1))) (dr (Int.toNat x1)) (sh fr (60 * x1)) (sh tt (60 * x1))) (sz (Int.toNat x1)) v2_2 cl2).2 _ (by omega) (by omega)
      refine r_istore (pc := 24) (lv' := [(4, .int (iv z11)), (3, .int (iv ((2 ^ Int.toNat v2_2 : Nat) : Int))), (0, .ref y), (1, .int (iv x1)), (2, .int (iv v2_2))]) dX12_farthest_24 (by decide) rfl ?_
      have B26 : ∀ k : Nat, ∀ cl26 : Nat → Int64, ∀ hp26 : MH, Tw (RX Γ cI cJ cZ y rf cn nm so sz dr mn fr tt wt co nu sa wo ln hw ro qi qc nf nt nw nc cl26 nx ie be sd bl bs wy ra rb lb bg os js ls sp jw go de yb ah im) hp26 → ∀  (v26_3 : Int) (v26_4 : Int), 1 ≤ v26_3 ∧ v26_3 ≤ 65535 ∧ 1 ≤ v26_4 ∧ v26_4 ≤ 65535 ∧ (v26_3 ≤ v26_4) ∧ (0 ≤ (cl26 (Int.toNat v2_2)).toInt ∧ (cl26 (Int.toNat v2_2)).toInt ≤ 15) ∧ (faP (stP (Int.toNat (mn (Int.toNat x1))) (dr (Int.toNat x1)) (sh fr (60 * x1)) (sh tt (60 * x1))) (Int.toNat v2_2) v26_3 v26_4 (Int.toNat ((cl26 (Int.toNat v2_2)).toInt))) ∧ (exJ cl26 cl2 (Int.toNat v2_2)) → 65535 - v26_3 ≤ (k : Int) → Rn (gG D cI cJ cZ cT lo b L xs) mX12_farthest d 26 [(0, .ref y), (1, .int (iv x1)), (2, .int (iv v2_2)), (3, .int (iv v26_3)), (4, .int (iv v26_4))] [] hp26 n 0 0 Po9 := by
        refine lpS _ ?_
        intro k26 ih26 cl26 hp26 ht26 v26_3 v26_4 hf26 hm26
        obtain ⟨hf26_0, hf26_1, hf26_2, hf26_3, hf26_4, ha26_5, ha26_6, ha26_7⟩ := hf26
        refine r_iload (pc := 26) dX12_farthest_26 rfl ?_
        refine r_iload_n (pc := 28) dX12_farthest_28 (i := 3) rfl rfl ?_
        refine t_icmp_eq (pc := 29) (tgt := 58) dX12_farthest_29 (by decide) (by omega) (by omega) (fun c29 => ?_) (fun c29 => ?_)
        · refine r_iinc (pc := 58) (v := iv (v2_2 + 1)) (lv' := [(2, .int (iv (v2_2 + 1))), (0, .ref y), (1, .int (iv x1)), (3, .int (iv v26_3)), (4, .int (iv v26_4))]) dX12_farthest_58 rfl (iv_add _ _) (by decide) rfl ?_
          refine r_goto (pc := 61) (tgt := 2) dX12_farthest_61 (by decide) ?_
          refine Rn.pick (lv' := [(0, .ref y), (1, .int (iv x1)), (2, .int (iv (v2_2 + 1)))]) [1, 2, 0] rfl ?_
          exact ih2 (Int.toNat (16 - (v2_2 + 1))) (by omega) cl26 _ ht26 (v2_2 + 1) ⟨by omega, by omega, by omega, by (first | exact fc_0 h0c | exact fc_up (by assumption) (by assumption) (by assumption) (by omega) (by omega) (by omega))⟩ (by omega)
        · refine r_aload_n (pc := 32) dX12_farthest_32 (i := 0) rfl rfl ?_
          refine t_getE (pc := 33) (.ref (y + 21)) ht26 (rd_of RX_y) fX12_72 dX12_farthest_33 rfl ?_
          refine r_iload_n (pc := 36) dX12_farthest_36 (i := 2) rfl rfl ?_
          refine r_dup2_11 (pc := 37) dX12_farthest_37 rfl rfl ?_
          refine t_laldX (pc := 38) (t0 := 1) ht26 (rd_of RX_column) dX12_farthest_38 rfl (by decide) (by omega) ?_
          refine r_lconst (pc := 39) (v := 1) dX12_farthest_39 (by decide) ?_
          refine r_ladd (pc := 40) (v := (cl26 (Int.toNat v2_2)) + (1 : Int64)) dX12_farthest_40 rfl ?_
          refine t_lastX (pc := 41) (t0 := 1) ht26 RX_column dX12_farthest_41 rfl (by decide) (by omega) (fun hp12 ht13 => ?_)
          have ht14 := RXw_cl ht13
          refine r_iload (pc := 42) dX12_farthest_42 rfl ?_
          refine r_istore_n (pc := 44) (lv' := [(3, .int (iv v26_4)), (0, .ref y), (1, .int (iv x1)), (2, .int (iv v2_2)), (4, .int (iv v26_4))]) dX12_farthest_44 (i := 3) rfl (by decide) rfl ?_
          refine r_iload_n (pc := 45) dX12_farthest_45 (i := 3) rfl rfl ?_
          refine r_aload_n (pc := 46) dX12_farthest_46 (i := 0) rfl rfl ?_
          refine r_iload_n (pc := 47) dX12_farthest_47 (i := 1) rfl rfl ?_
          refine r_iload_n (pc := 48) dX12_farthest_48 (i := 3) rfl rfl ?_
          obtain ⟨fs19, hfs19⟩ := t_obj ht14 (rd_of RX_y)
          refine r_callV (pc := 49) (as := [.int (iv x1), .int (iv v26_4)]) (st := [.int (iv v26_4)]) kX12_231 rfl dX12_farthest_49 hfs19 (x_X12_reach (d := d - 1) (x1 := x1) (x2 := v26_4) (by omega) (by assumption) (by assumption) (by assumption) (by assumption) (by assumption) ht14 (by omega) (by omega) (by assumption) (fun _ _ _ h => h)) rfl (by omega) (Nat.le_of_ble_eq_true rfl) (Nat.zero_le _) (Nat.zero_le _) rfl (fun r16 hp15 n17 hq18 => ?_)
          obtain ⟨hnn17, r9_21, ht20, hrr16, hhq180, hhq181⟩ := hq18
          subst n17 r16
          have hhq180 : 0 ≤ r9_21 ∧ r9_21 ≤ 65535 := hhq180
          have hhq181 : ∀ j, Me r9_21 j ↔ ∃ i, Me v26_4 i ∧ (stP (Int.toNat (mn (Int.toNat x1))) (dr (Int.toNat x1)) (sh fr (60 * x1)) (sh tt (60 * x1))) i j := hhq181
          change Rn _ _ _ 52 _ [.int (iv r9_21), .int (iv v26_4)] _ _ _ _ _
          obtain ⟨z22, hz22, bz22⟩ := or_2 16 v26_4 r9_21 (by omega) (by omega) (by decide)
          refine r_ior (pc := 52) (v := iv z22) dX12_farthest_52 hz22 ?_
          have mez22 := Me_or hz22 (by omega) (by omega) (by omega)
          have hfbz22 : faP (stP (Int.toNat (mn (Int.toNat x1))) (dr (Int.toNat x1)) (sh fr (60 * x1)) (sh tt (60 * x1))) (Int.toNat v2_2) v26_4 z22 (Int.toNat (cl26 (Int.toNat v2_2) + 1).toInt) := by
            rw [cl_inc (by assumption : 0 ≤ (cl26 (Int.toNat v2_2)).toInt ∧ (cl26 (Int.toNat v2_2)).toInt ≤ 15)]
            exact fa_st (by assumption) (by omega) (by omega) (by omega) mez22 (by assumption)
          have hfaz22 : faP (stP (Int.toNat (mn (Int.toNat x1))) (dr (Int.toNat x1)) (sh fr (60 * x1)) (sh tt (60 * x1))) (Int.toNat v2_2) v26_4 z22 (Int.toNat (((fuj cl26 (Int.toNat v2_2) ((cl26 (Int.toNat v2_2)) + (1 : Int64))) (Int.toNat v2_2)).toInt)) := by
            rw [fuj_s]
            exact hfbz22
          refine r_istore (pc := 53) (lv' := [(4, .int (iv z22)), (3, .int (iv v26_4)), (0, .ref y), (1, .int (iv x1)), (2, .int (iv v2_2))]) dX12_farthest_53 (by decide) rfl ?_
          refine r_goto (pc := 55) (tgt := 26) dX12_farthest_55 (by decide) ?_
          refine Rn.pick (lv' := [(0, .ref y), (1, .int (iv x1)), (2, .int (iv v2_2)), (3, .int (iv v26_4)), (4, .int (iv z22))]) [2, 3, 4, 1, 0] rfl ?_
          exact ih26 (Int.toNat (65535 - v26_4)) (by omega) (fuj cl26 (Int.toNat v2_2) ((cl26 (Int.toNat v2_2)) + (1 : Int64))) _ ht20 v26_4 z22 ⟨by omega, by omega, by omega, by omega, by omega, by (first | (rw [hcz]; exact ⟨by decide, by decide⟩) | (rw [fuj_s]; exact fa_cl (by assumption) (by assumption))), by (first | assumption | (rw [hcz]; assumption)), by (first | exact exJ_r _ _ | exact exJ_up (by assumption))⟩ (by omega)
      refine Rn.pick (lv' := [(0, .ref y), (1, .int (iv x1)), (2, .int (iv v2_2)), (3, .int (iv ((2 ^ Int.toNat v2_2 : Nat) : Int))), (4, .int (iv z11))]) [2, 3, 4, 1, 0] rfl ?_
      exact B26 (Int.toNat (65535 - ((2 ^ Int.toNat v2_2 : Nat) : Int))) cl2 _ ht9 ((2 ^ Int.toNat v2_2 : Nat) : Int) z11 ⟨by omega, by omega, by omega, by omega, by omega, by (first | (rw [hcz]; exact ⟨by decide, by decide⟩) | (rw [fuj_s]; exact fa_cl (by assumption) (by assumption))), by (first | assumption | (rw [hcz]; assumption)), by (first | exact exJ_r _ _ | exact exJ_up (by assumption))⟩ (by omega)
  refine Rn.pick (lv' := [(0, .ref y), (1, .int (iv x1)), (2, .int (iv 0))]) [1, 2, 0] rfl ?_
  exact B2 (Int.toNat (16 - 0)) cl _ ht 0 ⟨by omega, by omega, by omega, by (first | exact fc_0 h0c | exact fc_up (by assumption) (by assumption) (by assumption) (by omega) (by omega) (by omega))⟩ (by omega)
set_option maxHeartbeats 4000000 in
set_option maxRecDepth 100000 in
theorem x_X12_heard {D : va_G} {cI cJ cZ cT : ClassId} {lo b L : Nat} {xs : Nat → Int32} {hp : MH} {n d : Nat} {Γ : TG} {y : Nat} {rf cn nm : Int} {so sz dr mn fr tt wt co : Nat → Int} {nu : Nat → Int64} {sa : Nat → Int} {wo : Nat → Int64} {ln : Nat → Int} {hw : Nat → Int64} {ro qi qc nf nt nw nc : Nat → Int} {cl nx : Nat → Int64} {ie be sd bl : Nat → Int} {bs wy ra rb : Nat → Int64} {lb bg os js ls : Nat → Int} {sp : Nat → Int64} {jw go : Nat → Int} {de : Nat → Int64} {yb ah im : Nat → Int} {x1 x2 x3 x4 x5 : Int} {Po9 : Option Value → MH → Nat → Prop} (hd0 : 1 ≤ d) (hR_many : Rfx 121 0 60 mn) (hR_from : Rfx 7260 0 15 fr) (hR_to : Rfx 7260 0 15 tt) (hR_weight : Rfx 7260 (-1000) 1000 wt) (hR_directs : Rfx 121 0 1 dr) (ht : Tw (RX Γ cI cJ cZ y rf cn nm so sz dr mn fr tt wt co nu sa wo ln hw ro qi qc nf nt nw nc cl nx ie be sd bl bs wy ra rb lb bg os js ls sp jw go de yb ah im) hp) (hx1 : 0 ≤ x1 ∧ x1 ≤ 120) (hx2 : 0 ≤ x2 ∧ x2 ≤ 15) (hx3 : 0 ≤ x3 ∧ x3 ≤ 4) (hx4 : 0 ≤ x4 ∧ x4 ≤ 3) (hx5 : 0 ≤ x5 ∧ x5 ≤ 1) (hPo : ∀ r hp1 n1, (n1 = n ∧ ∃ (q9 : Int64), Tw (RX Γ cI cJ cZ y rf cn nm so sz dr mn fr tt wt co nu sa wo ln hw ro qi qc nf nt nw nc cl nx ie be sd bl bs wy ra rb lb bg os js ls sp jw go de yb ah im) hp1 ∧ r = some (.long q9) ∧ (q9 = hdV (Int.toNat (mn (Int.toNat x1))) (dr (Int.toNat x1)) (sh fr (60 * x1)) (sh tt (60 * x1)) (sh wt (60 * x1)) x3 x4 x5 cl (Int.toNat x2))) → Po9 r hp1 n1) : Mt (gG D cI cJ cZ cT lo b L xs) mX12_heard d 0 0 [.ref y, .int (iv x1), .int (iv x2), .int (iv x3), .int (iv x4), .int (iv x5)] hp n Po9 := by
  refine Mt.of rfl (Nat.le_of_ble_eq_true rfl) ?_
  refine Rn.pick (lv' := [(0, .ref y), (1, .int (iv x1)), (2, .int (iv x2)), (3, .int (iv x3)), (4, .int (iv x4)), (5, .int (iv x5))]) [0, 1, 2, 3, 4, 5] rfl ?_
  have rmn := hR_many (Int.toNat x1) (by omega)
  refine r_iconst (pc := 0) (v := iv 0) dX12_heard_0 (by decide) ?_
  refine r_istore (pc := 1) (lv' := [(6, .int (iv 0)), (0, .ref y), (1, .int (iv x1)), (2, .int (iv x2)), (3, .int (iv x3)), (4, .int (iv x4)), (5, .int (iv x5))]) dX12_heard_1 (by decide) rfl ?_
  refine r_lconst (pc := 3) (v := 0) dX12_heard_3 (by decide) ?_
  refine r_lstore (pc := 4) (lv' := [(7, .long (0 : Int64)), (6, .int (iv 0)), (0, .ref y), (1, .int (iv x1)), (2, .int (iv x2)), (3, .int (iv x3)), (4, .int (iv x4)), (5, .int (iv x5))]) dX12_heard_4 (by decide) rfl ?_
  refine r_iconst (pc := 6) (v := iv 0) dX12_heard_6 (by decide) ?_
  refine r_istore (pc := 7) (lv' := [(9, .int (iv 0)), (7, .long (0 : Int64)), (6, .int (iv 0)), (0, .ref y), (1, .int (iv x1)), (2, .int (iv x2)), (3, .int (iv x3)), (4, .int (iv x4)), (5, .int (iv x5))]) dX12_heard_7 (by decide) rfl ?_
  have B9 : ∀ k : Nat, ∀ hp9 : MH, Tw (RX Γ cI cJ cZ y rf cn nm so sz dr mn fr tt wt co nu sa wo ln hw ro qi qc nf nt nw nc cl nx ie be sd bl bs wy ra rb lb bg os js ls sp jw go de yb ah im) hp9 → ∀  (v9_6 : Int) (v9_9 : Int) (w9_7 : Int64), 0 ≤ v9_6 ∧ v9_6 ≤ 1 ∧ 0 ≤ v9_9 ∧ v9_9 ≤ 60 ∧ (v9_9 ≤ (mn (Int.toNat x1))) ∧ (hsP (hdA (dr (Int.toNat x1)) (sh fr (60 * x1)) (sh tt (60 * x1)) (sh wt (60 * x1)) x3 x4 cl (Int.toNat x2) (Int.toNat v9_9)) v9_6 w9_7) → 60 - v9_9 ≤ (k : Int) → Rn (gG D cI cJ cZ cT lo b L xs) mX12_heard d 9 [(0, .ref y), (1, .int (iv x1)), (2, .int (iv x2)), (3, .int (iv x3)), (4, .int (iv x4)), (5, .int (iv x5)), (6, .int (iv v9_6)), (7, .long w9_7), (9, .int (iv v9_9))] [] hp9 n 0 0 Po9 := by
    refine lpS _ ?_
    intro k9 ih9 hp9 ht9 v9_6 v9_9 w9_7 hf9 hm9
    obtain ⟨hf9_0, hf9_1, hf9_2, hf9_3, hf9_4, ha9_5⟩ := hf9
    refine r_iload (pc := 9) dX12_heard_9 rfl ?_
    refine r_aload_n (pc := 11) dX12_heard_11 (i := 0) rfl rfl ?_
    refine t_getE (pc := 12) (.ref (y + 4)) ht9 (rd_of RX_y) fX12_20 dX12_heard_12 rfl ?_
    refine r_iload_n (pc := 15) dX12_heard_15 (i := 1) rfl rfl ?_
    refine t_ialdX (pc := 16) (t0 := 0) ht9 (rd_of RX_many) dX12_heard_16 rfl (by decide) (by omega) (fun b1 => ?_)
    have rb1 := (show Rfx 121 0 60 mn by assumption) (Int.toNat x1) (by omega)
    refine t_icmp_ge (pc := 17) (tgt := 138) dX12_heard_17 (by decide) (by omega) (by omega) (fun c17 => ?_) (fun c17 => ?_)
    · refine r_iload (pc := 138) dX12_heard_138 rfl ?_
      refine t_if_ne (pc := 140) (tgt := 152) dX12_heard_140 (by decide) (by omega) (fun c140 => ?_) (fun c140 => ?_)
      · refine r_iload (pc := 152) dX12_heard_152 rfl ?_
        refine t_if_eq (pc := 154) (tgt := 173) dX12_heard_154 (by decide) (by omega) (fun c154 => ?_) (fun c154 => ?_)
        · refine r_lload (pc := 173) dX12_heard_173 rfl ?_
          exact r_lret (pc := 175) dX12_heard_175 rfl (hPo _ _ _ ⟨rfl, w9_7, ht9, rfl, (by (have h8 : hsP (hdA (dr (Int.toNat x1)) (sh fr (60 * x1)) (sh tt (60 * x1)) (sh wt (60 * x1)) x3 x4 cl (Int.toNat x2) (Int.toNat v9_9)) v9_6 w9_7 := (by assumption); rw [show v9_9 = (mn (Int.toNat x1)) by omega] at h8; unfold hdV; rcases h8 with ⟨e1, e2⟩ | ⟨e1, e2⟩ <;> rw [e1] <;> first | rfl | (exfalso; omega) | (show _ = (if x5 = 0 then _ else _); split <;> first | rfl | (exfalso; omega))))⟩)
        · refine r_iload (pc := 157) dX12_heard_157 rfl ?_
          refine r_lload (pc := 159) dX12_heard_159 rfl ?_
          refine r_aload_n (pc := 161) dX12_heard_161 (i := 0) rfl rfl ?_
          refine t_getE (pc := 162) (.ref (y + 21)) ht9 (rd_of RX_y) fX12_72 dX12_heard_162 rfl ?_
          refine r_iload_n (pc := 165) dX12_heard_165 (i := 2) rfl rfl ?_
          refine t_laldX (pc := 166) (t0 := 1) ht9 (rd_of RX_column) dX12_heard_166 rfl (by decide) (by omega) ?_
          refine t_callSJ (pc := 167) (as := [.int (iv x4), .long w9_7, .long (cl (Int.toNat x2))]) (st := []) kX12_248 dX12_heard_167 (t_X12_joinedx (d := d - 1) (x1 := x4) (j2 := w9_7) (j3 := cl (Int.toNat x2)) (by omega)  ht9 (by omega)) rfl (by omega) (Nat.le_of_ble_eq_true rfl) rfl (fun hp2 y4 ht3 by4 => ?_)
          skip
          have fy4 : y4 = jnV x4 w9_7 (cl (Int.toNat x2)) := by4
          subst fy4
          refine r_goto (pc := 170) (tgt := 175) dX12_heard_170 (by decide) ?_
          exact r_lret (pc := 175) dX12_heard_175 rfl (hPo _ _ _ ⟨rfl, (jnV x4 w9_7 (cl (Int.toNat x2))), ht3, rfl, (by (have h8 : hsP (hdA (dr (Int.toNat x1)) (sh fr (60 * x1)) (sh tt (60 * x1)) (sh wt (60 * x1)) x3 x4 cl (Int.toNat x2) (Int.toNat v9_9)) v9_6 w9_7 := (by assumption); rw [show v9_9 = (mn (Int.toNat x1)) by omega] at h8; unfold hdV; rcases h8 with ⟨e1, e2⟩ | ⟨e1, e2⟩ <;> rw [e1] <;> first | rfl | (exfalso; omega) | (show _ = (if x5 = 0 then _ else _); split <;> first | rfl | (exfalso; omega))))⟩)
      · refine r_aload_n (pc := 143) dX12_heard_143 (i := 0) rfl rfl ?_
        refine t_getE (pc := 144) (.ref (y + 21)) ht9 (rd_of RX_y) fX12_72 dX12_heard_144 rfl ?_
        refine r_iload_n (pc := 147) dX12_heard_147 (i := 2) rfl rfl ?_
        refine t_laldX (pc := 148) (t0 := 1) ht9 (rd_of RX_column) dX12_heard_148 rfl (by decide) (by omega) ?_
        refine r_goto (pc := 149) (tgt := 175) dX12_heard_149 (by decide) ?_
        exact r_lret (pc := 175) dX12_heard_175 rfl (hPo _ _ _ ⟨rfl, (cl (Int.toNat x2)), ht9, rfl, (by (have h8 : hsP (hdA (dr (Int.toNat x1)) (sh fr (60 * x1)) (sh tt (60 * x1)) (sh wt (60 * x1)) x3 x4 cl (Int.toNat x2) (Int.toNat v9_9)) v9_6 w9_7 := (by assumption); rw [show v9_9 = (mn (Int.toNat x1)) by omega] at h8; unfold hdV; rcases h8 with ⟨e1, e2⟩ | ⟨e1, e2⟩ <;> rw [e1] <;> first | rfl | (exfalso; omega) | (show _ = (if x5 = 0 then _ else _); split <;> first | rfl | (exfalso; omega))))⟩)
    · refine r_iload_n (pc := 20) dX12_heard_20 (i := 1) rfl rfl ?_
      refine r_iload (pc := 21) dX12_heard_21 rfl ?_
      refine t_callSI (pc := 23) (as := [.int (iv x1), .int (iv v9_9)]) (st := []) kX12_157 dX12_heard_23 (t_X12_at1x (d := d - 1) (x1 := x1) (x2 := v9_9) (by omega)  ht9 (by omega) (by omega)) rfl (by omega) (Nat.le_of_ble_eq_true rfl) rfl (fun hp5 y7 ht6 by7 => ?_)
      have ey7 : y7 = 60 * x1 + v9_9 := by7
      subst ey7
      refine r_istore (pc := 26) (lv' := [(10, .int (iv (60 * x1 + v9_9))), (0, .ref y), (1, .int (iv x1)), (2, .int (iv x2)), (3, .int (iv x3)), (4, .int (iv x4)), (5, .int (iv x5)), (6, .int (iv v9_6)), (7, .long w9_7), (9, .int (iv v9_9))]) dX12_heard_26 (by decide) rfl ?_
      refine r_aload_n (pc := 28) dX12_heard_28 (i := 0) rfl rfl ?_
      refine t_getE (pc := 29) (.ref (y + 6)) ht6 (rd_of RX_y) fX12_26 dX12_heard_29 rfl ?_
      refine r_iload (pc := 32) dX12_heard_32 rfl ?_
      refine t_ialdX (pc := 34) (t0 := 0) ht6 (rd_of RX_to) dX12_heard_34 rfl (by decide) (by omega) (fun b8 => ?_)
      have rb8 := (show Rfx 7260 0 15 tt by assumption) (Int.toNat (60 * x1 + v9_9)) (by omega)
      refine r_iload_n (pc := 35) dX12_heard_35 (i := 2) rfl rfl ?_
      refine t_icmp_ne (pc := 36) (tgt := 49) dX12_heard_36 (by decide) (by omega) (by omega) (fun c36 => ?_) (fun c36 => ?_)
      · refine r_aload_n (pc := 49) dX12_heard_49 (i := 0) rfl rfl ?_
        refine t_getE (pc := 50) (.ref (y + 3)) ht6 (rd_of RX_y) fX12_16 dX12_heard_50 rfl ?_
        refine r_iload_n (pc := 53) dX12_heard_53 (i := 1) rfl rfl ?_
        refine t_zaldX (pc := 54) (t0 := 2) ht6 (rd_of RX_directs) dX12_heard_54 rfl (by decide) (by omega) (fun b9 => ?_)
        have rb9 := (show Rfx 121 0 1 dr by assumption) (Int.toNat x1) (by omega)
        refine t_if_ne (pc := 55) (tgt := 79) dX12_heard_55 (by decide) (by omega) (fun c55 => ?_) (fun c55 => ?_)
        · refine r_iconst (pc := 79) (v := iv (-1)) dX12_heard_79 (by decide) ?_
          refine r_istore (pc := 80) (lv' := [(11, .int (iv (-1))), (10, .int (iv (60 * x1 + v9_9))), (0, .ref y), (1, .int (iv x1)), (2, .int (iv x2)), (3, .int (iv x3)), (4, .int (iv x4)), (5, .int (iv x5)), (6, .int (iv v9_6)), (7, .long w9_7), (9, .int (iv v9_9))]) dX12_heard_80 (by decide) rfl ?_
          refine r_iload (pc := 82) dX12_heard_82 rfl ?_
          refine t_if_lt (pc := 84) (tgt := 132) dX12_heard_84 (by decide) (by omega) (fun c84 => ?_) (fun c84 => ?_)
          · refine r_iinc (pc := 132) (v := iv (v9_9 + 1)) (lv' := [(9, .int (iv (v9_9 + 1))), (11, .int (iv (-1))), (10, .int (iv (60 * x1 + v9_9))), (0, .ref y), (1, .int (iv x1)), (2, .int (iv x2)), (3, .int (iv x3)), (4, .int (iv x4)), (5, .int (iv x5)), (6, .int (iv v9_6)), (7, .long w9_7)]) dX12_heard_132 rfl (iv_add _ _) (by decide) rfl ?_
            refine r_goto (pc := 135) (tgt := 9) dX12_heard_135 (by decide) ?_
            refine Rn.pick (lv' := [(0, .ref y), (1, .int (iv x1)), (2, .int (iv x2)), (3, .int (iv x3)), (4, .int (iv x4)), (5, .int (iv x5)), (6, .int (iv v9_6)), (7, .long w9_7), (9, .int (iv (v9_9 + 1)))]) [3, 4, 5, 6, 7, 8, 9, 10, 0] rfl ?_
            exact ih9 (Int.toNat (60 - (v9_9 + 1))) (by omega) _ ht6 v9_6 (v9_9 + 1) w9_7 ⟨by omega, by omega, by omega, by omega, by omega, by (first | exact Or.inl ⟨rfl, rfl⟩ | exact hd_up (by assumption) (by omega) (by rw [← sh_at fr (60 * x1) (v := v9_9) (by omega), ← sh_at tt (60 * x1) (v := v9_9) (by omega)]; rw [Int.toNat_of_nonneg (show 0 ≤ x2 by omega)]; first | exact Or.inl ⟨by omega, rfl⟩ | exact Or.inr ⟨by omega, ⟨by omega, by omega⟩, rfl⟩) (by rw [← sh_at wt (60 * x1) (v := v9_9) (by omega)]) ⟨fun h9 => by first | rfl | (exfalso; omega), fun h9 => by first | rfl | (exfalso; omega)⟩ | exact hd_no (by assumption) (by omega) (by rw [← sh_at tt (60 * x1) (v := v9_9) (by omega), Int.toNat_of_nonneg (show 0 ≤ x2 by omega)]; omega) (by rw [← sh_at fr (60 * x1) (v := v9_9) (by omega), Int.toNat_of_nonneg (show 0 ≤ x2 by omega)]; omega))⟩ (by omega)
          · exfalso
            omega
        · refine r_aload_n (pc := 58) dX12_heard_58 (i := 0) rfl rfl ?_
          refine t_getE (pc := 59) (.ref (y + 5)) ht6 (rd_of RX_y) fX12_23 dX12_heard_59 rfl ?_
          refine r_iload (pc := 62) dX12_heard_62 rfl ?_
          refine t_ialdX (pc := 64) (t0 := 0) ht6 (rd_of RX_from) dX12_heard_64 rfl (by decide) (by omega) (fun b10 => ?_)
          have rb10 := (show Rfx 7260 0 15 fr by assumption) (Int.toNat (60 * x1 + v9_9)) (by omega)
          refine r_iload_n (pc := 65) dX12_heard_65 (i := 2) rfl rfl ?_
          refine t_icmp_ne (pc := 66) (tgt := 79) dX12_heard_66 (by decide) (by omega) (by omega) (fun c66 => ?_) (fun c66 => ?_)
          · refine r_iconst (pc := 79) (v := iv (-1)) dX12_heard_79 (by decide) ?_
            refine r_istore (pc := 80) (lv' := [(11, .int (iv (-1))), (10, .int (iv (60 * x1 + v9_9))), (0, .ref y), (1, .int (iv x1)), (2, .int (iv x2)), (3, .int (iv x3)), (4, .int (iv x4)), (5, .int (iv x5)), (6, .int (iv v9_6)), (7, .long w9_7), (9, .int (iv v9_9))]) dX12_heard_80 (by decide) rfl ?_
            refine r_iload (pc := 82) dX12_heard_82 rfl ?_
            refine t_if_lt (pc := 84) (tgt := 132) dX12_heard_84 (by decide) (by omega) (fun c84 => ?_) (fun c84 => ?_)
            · refine r_iinc (pc := 132) (v := iv (v9_9 + 1)) (lv' := [(9, .int (iv (v9_9 + 1))), (11, .int (iv (-1))), (10, .int (iv (60 * x1 + v9_9))), (0, .ref y), (1, .int (iv x1)), (2, .int (iv x2)), (3, .int (iv x3)), (4, .int (iv x4)), (5, .int (iv x5)), (6, .int (iv v9_6)), (7, .long w9_7)]) dX12_heard_132 rfl (iv_add _ _) (by decide) rfl ?_
              refine r_goto (pc := 135) (tgt := 9) dX12_heard_135 (by decide) ?_
              refine Rn.pick (lv' := [(0, .ref y), (1, .int (iv x1)), (2, .int (iv x2)), (3, .int (iv x3)), (4, .int (iv x4)), (5, .int (iv x5)), (6, .int (iv v9_6)), (7, .long w9_7), (9, .int (iv (v9_9 + 1)))]) [3, 4, 5, 6, 7, 8, 9, 10, 0] rfl ?_
              exact ih9 (Int.toNat (60 - (v9_9 + 1))) (by omega) _ ht6 v9_6 (v9_9 + 1) w9_7 ⟨by omega, by omega, by omega, by omega, by omega, by (first | exact Or.inl ⟨rfl, rfl⟩ | exact hd_up (by assumption) (by omega) (by rw [← sh_at fr (60 * x1) (v := v9_9) (by omega), ← sh_at tt (60 * x1) (v := v9_9) (by omega)]; rw [Int.toNat_of_nonneg (show 0 ≤ x2 by omega)]; first | exact Or.inl ⟨by omega, rfl⟩ | exact Or.inr ⟨by omega, ⟨by omega, by omega⟩, rfl⟩) (by rw [← sh_at wt (60 * x1) (v := v9_9) (by omega)]) ⟨fun h9 => by first | rfl | (exfalso; omega), fun h9 => by first | rfl | (exfalso; omega)⟩ | exact hd_no (by assumption) (by omega) (by rw [← sh_at tt (60 * x1) (v := v9_9) (by omega), Int.toNat_of_nonneg (show 0 ≤ x2 by omega)]; omega) (by rw [← sh_at fr (60 * x1) (v := v9_9) (by omega), Int.toNat_of_nonneg (show 0 ≤ x2 by omega)]; omega))⟩ (by omega)
            · exfalso
              omega
          · refine r_aload_n (pc := 69) dX12_heard_69 (i := 0) rfl rfl ?_
            refine t_getE (pc := 70) (.ref (y + 6)) ht6 (rd_of RX_y) fX12_26 dX12_heard_70 rfl ?_
            refine r_iload (pc := 73) dX12_heard_73 rfl ?_
            refine t_ialdX (pc := 75) (t0 := 0) ht6 (rd_of RX_to) dX12_heard_75 rfl (by decide) (by omega) (fun b11 => ?_)
            have rb11 := (show Rfx 7260 0 15 tt by assumption) (Int.toNat (60 * x1 + v9_9)) (by omega)
            refine r_goto (pc := 76) (tgt := 80) dX12_heard_76 (by decide) ?_
            refine r_istore (pc := 80) (lv' := [(11, .int (iv (tt (Int.toNat (60 * x1 + v9_9))))), (10, .int (iv (60 * x1 + v9_9))), (0, .ref y), (1, .int (iv x1)), (2, .int (iv x2)), (3, .int (iv x3)), (4, .int (iv x4)), (5, .int (iv x5)), (6, .int (iv v9_6)), (7, .long w9_7), (9, .int (iv v9_9))]) dX12_heard_80 (by decide) rfl ?_
            refine r_iload (pc := 82) dX12_heard_82 rfl ?_
            refine t_if_lt (pc := 84) (tgt := 132) dX12_heard_84 (by decide) (by omega) (fun c84 => ?_) (fun c84 => ?_)
            · exfalso
              omega
            · refine r_iload_n (pc := 87) dX12_heard_87 (i := 3) rfl rfl ?_
              refine r_aload_n (pc := 88) dX12_heard_88 (i := 0) rfl rfl ?_
              refine t_getE (pc := 89) (.ref (y + 21)) ht6 (rd_of RX_y) fX12_72 dX12_heard_89 rfl ?_
              refine r_iload (pc := 92) dX12_heard_92 rfl ?_
              refine t_laldX (pc := 94) (t0 := 1) ht6 (rd_of RX_column) dX12_heard_94 rfl (by decide) (by omega) ?_
              refine r_aload_n (pc := 95) dX12_heard_95 (i := 0) rfl rfl ?_
              refine t_getE (pc := 96) (.ref (y + 7)) ht6 (rd_of RX_y) fX12_29 dX12_heard_96 rfl ?_
              refine r_iload (pc := 99) dX12_heard_99 rfl ?_
              refine t_ialdX (pc := 101) (t0 := 0) ht6 (rd_of RX_weight) dX12_heard_101 rfl (by decide) (by omega) (fun b12 => ?_)
              have rb12 := (show Rfx 7260 (-1000) 1000 wt by assumption) (Int.toNat (60 * x1 + v9_9)) (by omega)
              refine r_i2l (pc := 102) (v := (iv (wt (Int.toNat (60 * x1 + v9_9)))).toInt64) dX12_heard_102 rfl ?_
              refine t_callSJ (pc := 103) (as := [.int (iv x3), .long (cl (Int.toNat (tt (Int.toNat (60 * x1 + v9_9))))), .long ((iv (wt (Int.toNat (60 * x1 + v9_9)))).toInt64)]) (st := []) kX12_244 dX12_heard_103 (t_X12_messagex (d := d - 1) (x1 := x3) (j2 := cl (Int.toNat (tt (Int.toNat (60 * x1 + v9_9))))) (j3 := (iv (wt (Int.toNat (60 * x1 + v9_9)))).toInt64) (by omega)  ht6 (by omega)) rfl (by omega) (Nat.le_of_ble_eq_true rfl) rfl (fun hp13 y15 ht14 by15 => ?_)
              skip
              have fy15 : y15 = mgV x3 (cl (Int.toNat (tt (Int.toNat (60 * x1 + v9_9))))) ((iv (wt (Int.toNat (60 * x1 + v9_9)))).toInt64) := by15
              subst fy15
              refine r_lstore (pc := 106) (lv' := [(12, .long (mgV x3 (cl (Int.toNat (tt (Int.toNat (60 * x1 + v9_9))))) ((iv (wt (Int.toNat (60 * x1 + v9_9)))).toInt64))), (11, .int (iv (tt (Int.toNat (60 * x1 + v9_9))))), (10, .int (iv (60 * x1 + v9_9))), (0, .ref y), (1, .int (iv x1)), (2, .int (iv x2)), (3, .int (iv x3)), (4, .int (iv x4)), (5, .int (iv x5)), (6, .int (iv v9_6)), (7, .long w9_7), (9, .int (iv v9_9))]) dX12_heard_106 (by decide) rfl ?_
              refine r_iload (pc := 108) dX12_heard_108 rfl ?_
              refine t_if_eq (pc := 110) (tgt := 125) dX12_heard_110 (by decide) (by omega) (fun c110 => ?_) (fun c110 => ?_)
              · refine r_lload (pc := 125) dX12_heard_125 rfl ?_
                refine r_lstore (pc := 127) (lv' := [(7, .long (mgV x3 (cl (Int.toNat (tt (Int.toNat (60 * x1 + v9_9))))) ((iv (wt (Int.toNat (60 * x1 + v9_9)))).toInt64))), (12, .long (mgV x3 (cl (Int.toNat (tt (Int.toNat (60 * x1 + v9_9))))) ((iv (wt (Int.toNat (60 * x1 + v9_9)))).toInt64))), (11, .int (iv (tt (Int.toNat (60 * x1 + v9_9))))), (10, .int (iv (60 * x1 + v9_9))), (0, .ref y), (1, .int (iv x1)), (2, .int (iv x2)), (3, .int (iv x3)), (4, .int (iv x4)), (5, .int (iv x5)), (6, .int (iv v9_6)), (9, .int (iv v9_9))]) dX12_heard_127 (by decide) rfl ?_
                refine r_iconst (pc := 129) (v := iv 1) dX12_heard_129 (by decide) ?_
                refine r_istore (pc := 130) (lv' := [(6, .int (iv 1)), (7, .long (mgV x3 (cl (Int.toNat (tt (Int.toNat (60 * x1 + v9_9))))) ((iv (wt (Int.toNat (60 * x1 + v9_9)))).toInt64))), (12, .long (mgV x3 (cl (Int.toNat (tt (Int.toNat (60 * x1 + v9_9))))) ((iv (wt (Int.toNat (60 * x1 + v9_9)))).toInt64))), (11, .int (iv (tt (Int.toNat (60 * x1 + v9_9))))), (10, .int (iv (60 * x1 + v9_9))), (0, .ref y), (1, .int (iv x1)), (2, .int (iv x2)), (3, .int (iv x3)), (4, .int (iv x4)), (5, .int (iv x5)), (9, .int (iv v9_9))]) dX12_heard_130 (by decide) rfl ?_
                refine r_iinc (pc := 132) (v := iv (v9_9 + 1)) (lv' := [(9, .int (iv (v9_9 + 1))), (6, .int (iv 1)), (7, .long (mgV x3 (cl (Int.toNat (tt (Int.toNat (60 * x1 + v9_9))))) ((iv (wt (Int.toNat (60 * x1 + v9_9)))).toInt64))), (12, .long (mgV x3 (cl (Int.toNat (tt (Int.toNat (60 * x1 + v9_9))))) ((iv (wt (Int.toNat (60 * x1 + v9_9)))).toInt64))), (11, .int (iv (tt (Int.toNat (60 * x1 + v9_9))))), (10, .int (iv (60 * x1 + v9_9))), (0, .ref y), (1, .int (iv x1)), (2, .int (iv x2)), (3, .int (iv x3)), (4, .int (iv x4)), (5, .int (iv x5))]) dX12_heard_132 rfl (iv_add _ _) (by decide) rfl ?_
                refine r_goto (pc := 135) (tgt := 9) dX12_heard_135 (by decide) ?_
                refine Rn.pick (lv' := [(0, .ref y), (1, .int (iv x1)), (2, .int (iv x2)), (3, .int (iv x3)), (4, .int (iv x4)), (5, .int (iv x5)), (6, .int (iv 1)), (7, .long (mgV x3 (cl (Int.toNat (tt (Int.toNat (60 * x1 + v9_9))))) ((iv (wt (Int.toNat (60 * x1 + v9_9)))).toInt64))), (9, .int (iv (v9_9 + 1)))]) [6, 7, 8, 9, 10, 11, 1, 2, 0] rfl ?_
                exact ih9 (Int.toNat (60 - (v9_9 + 1))) (by omega) _ ht14 1 (v9_9 + 1) (mgV x3 (cl (Int.toNat (tt (Int.toNat (60 * x1 + v9_9))))) ((iv (wt (Int.toNat (60 * x1 + v9_9)))).toInt64)) ⟨by omega, by omega, by omega, by omega, by omega, by (first | exact Or.inl ⟨rfl, rfl⟩ | exact hd_up (by assumption) (by omega) (by rw [← sh_at fr (60 * x1) (v := v9_9) (by omega), ← sh_at tt (60 * x1) (v := v9_9) (by omega)]; rw [Int.toNat_of_nonneg (show 0 ≤ x2 by omega)]; first | exact Or.inl ⟨by omega, rfl⟩ | exact Or.inr ⟨by omega, ⟨by omega, by omega⟩, rfl⟩) (by rw [← sh_at wt (60 * x1) (v := v9_9) (by omega)]) ⟨fun h9 => by first | rfl | (exfalso; omega), fun h9 => by first | rfl | (exfalso; omega)⟩ | exact hd_no (by assumption) (by omega) (by rw [← sh_at tt (60 * x1) (v := v9_9) (by omega), Int.toNat_of_nonneg (show 0 ≤ x2 by omega)]; omega) (by rw [← sh_at fr (60 * x1) (v := v9_9) (by omega), Int.toNat_of_nonneg (show 0 ≤ x2 by omega)]; omega))⟩ (by omega)
              · refine r_iload (pc := 113) dX12_heard_113 rfl ?_
                refine r_lload (pc := 115) dX12_heard_115 rfl ?_
                refine r_lload (pc := 117) dX12_heard_117 rfl ?_
                refine t_callSJ (pc := 119) (as := [.int (iv x4), .long w9_7, .long (mgV x3 (cl (Int.toNat (tt (Int.toNat (60 * x1 + v9_9))))) ((iv (wt (Int.toNat (60 * x1 + v9_9)))).toInt64))]) (st := []) kX12_248 dX12_heard_119 (t_X12_joinedx (d := d - 1) (x1 := x4) (j2 := w9_7) (j3 := mgV x3 (cl (Int.toNat (tt (Int.toNat (60 * x1 + v9_9))))) ((iv (wt (Int.toNat (60 * x1 + v9_9)))).toInt64)) (by omega)  ht14 (by omega)) rfl (by omega) (Nat.le_of_ble_eq_true rfl) rfl (fun hp16 y18 ht17 by18 => ?_)
                skip
                have fy18 : y18 = jnV x4 w9_7 (mgV x3 (cl (Int.toNat (tt (Int.toNat (60 * x1 + v9_9))))) ((iv (wt (Int.toNat (60 * x1 + v9_9)))).toInt64)) := by18
                subst fy18
                refine r_goto (pc := 122) (tgt := 127) dX12_heard_122 (by decide) ?_
                refine r_lstore (pc := 127) (lv' := [(7, .long (jnV x4 w9_7 (mgV x3 (cl (Int.toNat (tt (Int.toNat (60 * x1 + v9_9))))) ((iv (wt (Int.toNat (60 * x1 + v9_9)))).toInt64)))), (12, .long (mgV x3 (cl (Int.toNat (tt (Int.toNat (60 * x1 + v9_9))))) ((iv (wt (Int.toNat (60 * x1 + v9_9)))).toInt64))), (11, .int (iv (tt (Int.toNat (60 * x1 + v9_9))))), (10, .int (iv (60 * x1 + v9_9))), (0, .ref y), (1, .int (iv x1)), (2, .int (iv x2)), (3, .int (iv x3)), (4, .int (iv x4)), (5, .int (iv x5)), (6, .int (iv v9_6)), (9, .int (iv v9_9))]) dX12_heard_127 (by decide) rfl ?_
                refine r_iconst (pc := 129) (v := iv 1) dX12_heard_129 (by decide) ?_
                refine r_istore (pc := 130) (lv' := [(6, .int (iv 1)), (7, .long (jnV x4 w9_7 (mgV x3 (cl (Int.toNat (tt (Int.toNat (60 * x1 + v9_9))))) ((iv (wt (Int.toNat (60 * x1 + v9_9)))).toInt64)))), (12, .long (mgV x3 (cl (Int.toNat (tt (Int.toNat (60 * x1 + v9_9))))) ((iv (wt (Int.toNat (60 * x1 + v9_9)))).toInt64))), (11, .int (iv (tt (Int.toNat (60 * x1 + v9_9))))), (10, .int (iv (60 * x1 + v9_9))), (0, .ref y), (1, .int (iv x1)), (2, .int (iv x2)), (3, .int (iv x3)), (4, .int (iv x4)), (5, .int (iv x5)), (9, .int (iv v9_9))]) dX12_heard_130 (by decide) rfl ?_
                refine r_iinc (pc := 132) (v := iv (v9_9 + 1)) (lv' := [(9, .int (iv (v9_9 + 1))), (6, .int (iv 1)), (7, .long (jnV x4 w9_7 (mgV x3 (cl (Int.toNat (tt (Int.toNat (60 * x1 + v9_9))))) ((iv (wt (Int.toNat (60 * x1 + v9_9)))).toInt64)))), (12, .long (mgV x3 (cl (Int.toNat (tt (Int.toNat (60 * x1 + v9_9))))) ((iv (wt (Int.toNat (60 * x1 + v9_9)))).toInt64))), (11, .int (iv (tt (Int.toNat (60 * x1 + v9_9))))), (10, .int (iv (60 * x1 + v9_9))), (0, .ref y), (1, .int (iv x1)), (2, .int (iv x2)), (3, .int (iv x3)), (4, .int (iv x4)), (5, .int (iv x5))]) dX12_heard_132 rfl (iv_add _ _) (by decide) rfl ?_
                refine r_goto (pc := 135) (tgt := 9) dX12_heard_135 (by decide) ?_
                refine Rn.pick (lv' := [(0, .ref y), (1, .int (iv x1)), (2, .int (iv x2)), (3, .int (iv x3)), (4, .int (iv x4)), (5, .int (iv x5)), (6, .int (iv 1)), (7, .long (jnV x4 w9_7 (mgV x3 (cl (Int.toNat (tt (Int.toNat (60 * x1 + v9_9))))) ((iv (wt (Int.toNat (60 * x1 + v9_9)))).toInt64)))), (9, .int (iv (v9_9 + 1)))]) [6, 7, 8, 9, 10, 11, 1, 2, 0] rfl ?_
                exact ih9 (Int.toNat (60 - (v9_9 + 1))) (by omega) _ ht17 1 (v9_9 + 1) (jnV x4 w9_7 (mgV x3 (cl (Int.toNat (tt (Int.toNat (60 * x1 + v9_9))))) ((iv (wt (Int.toNat (60 * x1 + v9_9)))).toInt64))) ⟨by omega, by omega, by omega, by omega, by omega, by (first | exact Or.inl ⟨rfl, rfl⟩ | exact hd_up (by assumption) (by omega) (by rw [← sh_at fr (60 * x1) (v := v9_9) (by omega), ← sh_at tt (60 * x1) (v := v9_9) (by omega)]; rw [Int.toNat_of_nonneg (show 0 ≤ x2 by omega)]; first | exact Or.inl ⟨by omega, rfl⟩ | exact Or.inr ⟨by omega, ⟨by omega, by omega⟩, rfl⟩) (by rw [← sh_at wt (60 * x1) (v := v9_9) (by omega)]) ⟨fun h9 => by first | rfl | (exfalso; omega), fun h9 => by first | rfl | (exfalso; omega)⟩ | exact hd_no (by assumption) (by omega) (by rw [← sh_at tt (60 * x1) (v := v9_9) (by omega), Int.toNat_of_nonneg (show 0 ≤ x2 by omega)]; omega) (by rw [← sh_at fr (60 * x1) (v := v9_9) (by omega), Int.toNat_of_nonneg (show 0 ≤ x2 by omega)]; omega))⟩ (by omega)
      · refine r_aload_n (pc := 39) dX12_heard_39 (i := 0) rfl rfl ?_
        refine t_getE (pc := 40) (.ref (y + 5)) ht6 (rd_of RX_y) fX12_23 dX12_heard_40 rfl ?_
        refine r_iload (pc := 43) dX12_heard_43 rfl ?_
        refine t_ialdX (pc := 45) (t0 := 0) ht6 (rd_of RX_from) dX12_heard_45 rfl (by decide) (by omega) (fun b19 => ?_)
        have rb19 := (show Rfx 7260 0 15 fr by assumption) (Int.toNat (60 * x1 + v9_9)) (by omega)
        refine r_goto (pc := 46) (tgt := 80) dX12_heard_46 (by decide) ?_
        refine r_istore (pc := 80) (lv' := [(11, .int (iv (fr (Int.toNat (60 * x1 + v9_9))))), (10, .int (iv (60 * x1 + v9_9))), (0, .ref y), (1, .int (iv x1)), (2, .int (iv x2)), (3, .int (iv x3)), (4, .int (iv x4)), (5, .int (iv x5)), (6, .int (iv v9_6)), (7, .long w9_7), (9, .int (iv v9_9))]) dX12_heard_80 (by decide) rfl ?_
        refine r_iload (pc := 82) dX12_heard_82 rfl ?_
        refine t_if_lt (pc := 84) (tgt := 132) dX12_heard_84 (by decide) (by omega) (fun c84 => ?_) (fun c84 => ?_)
        · exfalso
          omega
        · refine r_iload_n (pc := 87) dX12_heard_87 (i := 3) rfl rfl ?_
          refine r_aload_n (pc := 88) dX12_heard_88 (i := 0) rfl rfl ?_
          refine t_getE (pc := 89) (.ref (y + 21)) ht6 (rd_of RX_y) fX12_72 dX12_heard_89 rfl ?_
          refine r_iload (pc := 92) dX12_heard_92 rfl ?_
          refine t_laldX (pc := 94) (t0 := 1) ht6 (rd_of RX_column) dX12_heard_94 rfl (by decide) (by omega) ?_
          refine r_aload_n (pc := 95) dX12_heard_95 (i := 0) rfl rfl ?_
          refine t_getE (pc := 96) (.ref (y + 7)) ht6 (rd_of RX_y) fX12_29 dX12_heard_96 rfl ?_
          refine r_iload (pc := 99) dX12_heard_99 rfl ?_
          refine t_ialdX (pc := 101) (t0 := 0) ht6 (rd_of RX_weight) dX12_heard_101 rfl (by decide) (by omega) (fun b20 => ?_)
          have rb20 := (show Rfx 7260 (-1000) 1000 wt by assumption) (Int.toNat (60 * x1 + v9_9)) (by omega)
          refine r_i2l (pc := 102) (v := (iv (wt (Int.toNat (60 * x1 + v9_9)))).toInt64) dX12_heard_102 rfl ?_
          refine t_callSJ (pc := 103) (as := [.int (iv x3), .long (cl (Int.toNat (fr (Int.toNat (60 * x1 + v9_9))))), .long ((iv (wt (Int.toNat (60 * x1 + v9_9)))).toInt64)]) (st := []) kX12_244 dX12_heard_103 (t_X12_messagex (d := d - 1) (x1 := x3) (j2 := cl (Int.toNat (fr (Int.toNat (60 * x1 + v9_9))))) (j3 := (iv (wt (Int.toNat (60 * x1 + v9_9)))).toInt64) (by omega)  ht6 (by omega)) rfl (by omega) (Nat.le_of_ble_eq_true rfl) rfl (fun hp21 y23 ht22 by23 => ?_)
          skip
          have fy23 : y23 = mgV x3 (cl (Int.toNat (fr (Int.toNat (60 * x1 + v9_9))))) ((iv (wt (Int.toNat (60 * x1 + v9_9)))).toInt64) := by23
          subst fy23
          refine r_lstore (pc := 106) (lv' := [(12, .long (mgV x3 (cl (Int.toNat (fr (Int.toNat (60 * x1 + v9_9))))) ((iv (wt (Int.toNat (60 * x1 + v9_9)))).toInt64))), (11, .int (iv (fr (Int.toNat (60 * x1 + v9_9))))), (10, .int (iv (60 * x1 + v9_9))), (0, .ref y), (1, .int (iv x1)), (2, .int (iv x2)), (3, .int (iv x3)), (4, .int (iv x4)), (5, .int (iv x5)), (6, .int (iv v9_6)), (7, .long w9_7), (9, .int (iv v9_9))]) dX12_heard_106 (by decide) rfl ?_
          refine r_iload (pc := 108) dX12_heard_108 rfl ?_
          refine t_if_eq (pc := 110) (tgt := 125) dX12_heard_110 (by decide) (by omega) (fun c110 => ?_) (fun c110 => ?_)
          · refine r_lload (pc := 125) dX12_heard_125 rfl ?_
            refine r_lstore (pc := 127) (lv' := [(7, .long (mgV x3 (cl (Int.toNat (fr (Int.toNat (60 * x1 + v9_9))))) ((iv (wt (Int.toNat (60 * x1 + v9_9)))).toInt64))), (12, .long (mgV x3 (cl (Int.toNat (fr (Int.toNat (60 * x1 + v9_9))))) ((iv (wt (Int.toNat (60 * x1 + v9_9)))).toInt64))), (11, .int (iv (fr (Int.toNat (60 * x1 + v9_9))))), (10, .int (iv (60 * x1 + v9_9))), (0, .ref y), (1, .int (iv x1)), (2, .int (iv x2)), (3, .int (iv x3)), (4, .int (iv x4)), (5, .int (iv x5)), (6, .int (iv v9_6)), (9, .int (iv v9_9))]) dX12_heard_127 (by decide) rfl ?_
            refine r_iconst (pc := 129) (v := iv 1) dX12_heard_129 (by decide) ?_
            refine r_istore (pc := 130) (lv' := [(6, .int (iv 1)), (7, .long (mgV x3 (cl (Int.toNat (fr (Int.toNat (60 * x1 + v9_9))))) ((iv (wt (Int.toNat (60 * x1 + v9_9)))).toInt64))), (12, .long (mgV x3 (cl (Int.toNat (fr (Int.toNat (60 * x1 + v9_9))))) ((iv (wt (Int.toNat (60 * x1 + v9_9)))).toInt64))), (11, .int (iv (fr (Int.toNat (60 * x1 + v9_9))))), (10, .int (iv (60 * x1 + v9_9))), (0, .ref y), (1, .int (iv x1)), (2, .int (iv x2)), (3, .int (iv x3)), (4, .int (iv x4)), (5, .int (iv x5)), (9, .int (iv v9_9))]) dX12_heard_130 (by decide) rfl ?_
            refine r_iinc (pc := 132) (v := iv (v9_9 + 1)) (lv' := [(9, .int (iv (v9_9 + 1))), (6, .int (iv 1)), (7, .long (mgV x3 (cl (Int.toNat (fr (Int.toNat (60 * x1 + v9_9))))) ((iv (wt (Int.toNat (60 * x1 + v9_9)))).toInt64))), (12, .long (mgV x3 (cl (Int.toNat (fr (Int.toNat (60 * x1 + v9_9))))) ((iv (wt (Int.toNat (60 * x1 + v9_9)))).toInt64))), (11, .int (iv (fr (Int.toNat (60 * x1 + v9_9))))), (10, .int (iv (60 * x1 + v9_9))), (0, .ref y), (1, .int (iv x1)), (2, .int (iv x2)), (3, .int (iv x3)), (4, .int (iv x4)), (5, .int (iv x5))]) dX12_heard_132 rfl (iv_add _ _) (by decide) rfl ?_
            refine r_goto (pc := 135) (tgt := 9) dX12_heard_135 (by decide) ?_
            refine Rn.pick (lv' := [(0, .ref y), (1, .int (iv x1)), (2, .int (iv x2)), (3, .int (iv x3)), (4, .int (iv x4)), (5, .int (iv x5)), (6, .int (iv 1)), (7, .long (mgV x3 (cl (Int.toNat (fr (Int.toNat (60 * x1 + v9_9))))) ((iv (wt (Int.toNat (60 * x1 + v9_9)))).toInt64))), (9, .int (iv (v9_9 + 1)))]) [6, 7, 8, 9, 10, 11, 1, 2, 0] rfl ?_
            exact ih9 (Int.toNat (60 - (v9_9 + 1))) (by omega) _ ht22 1 (v9_9 + 1) (mgV x3 (cl (Int.toNat (fr (Int.toNat (60 * x1 + v9_9))))) ((iv (wt (Int.toNat (60 * x1 + v9_9)))).toInt64)) ⟨by omega, by omega, by omega, by omega, by omega, by (first | exact Or.inl ⟨rfl, rfl⟩ | exact hd_up (by assumption) (by omega) (by rw [← sh_at fr (60 * x1) (v := v9_9) (by omega), ← sh_at tt (60 * x1) (v := v9_9) (by omega)]; rw [Int.toNat_of_nonneg (show 0 ≤ x2 by omega)]; first | exact Or.inl ⟨by omega, rfl⟩ | exact Or.inr ⟨by omega, ⟨by omega, by omega⟩, rfl⟩) (by rw [← sh_at wt (60 * x1) (v := v9_9) (by omega)]) ⟨fun h9 => by first | rfl | (exfalso; omega), fun h9 => by first | rfl | (exfalso; omega)⟩ | exact hd_no (by assumption) (by omega) (by rw [← sh_at tt (60 * x1) (v := v9_9) (by omega), Int.toNat_of_nonneg (show 0 ≤ x2 by omega)]; omega) (by rw [← sh_at fr (60 * x1) (v := v9_9) (by omega), Int.toNat_of_nonneg (show 0 ≤ x2 by omega)]; omega))⟩ (by omega)
          · refine r_iload (pc := 113) dX12_heard_113 rfl ?_
            refine r_lload (pc := 115) dX12_heard_115 rfl ?_
            refine r_lload (pc := 117) dX12_heard_117 rfl ?_
            refine t_callSJ (pc := 119) (as := [.int (iv x4), .long w9_7, .long (mgV x3 (cl (Int.toNat (fr (Int.toNat (60 * x1 + v9_9))))) ((iv (wt (Int.toNat (60 * x1 + v9_9)))).toInt64))]) (st := []) kX12_248 dX12_heard_119 (t_X12_joinedx (d := d - 1) (x1 := x4) (j2 := w9_7) (j3 := mgV x3 (cl (Int.toNat (fr (Int.toNat (60 * x1 + v9_9))))) ((iv (wt (Int.toNat (60 * x1 + v9_9)))).toInt64)) (by omega)  ht22 (by omega)) rfl (by omega) (Nat.le_of_ble_eq_true rfl) rfl (fun hp24 y26 ht25 by26 => ?_)
            skip
            have fy26 : y26 = jnV x4 w9_7 (mgV x3 (cl (Int.toNat (fr (Int.toNat (60 * x1 + v9_9))))) ((iv (wt (Int.toNat (60 * x1 + v9_9)))).toInt64)) := by26
            subst fy26
            refine r_goto (pc := 122) (tgt := 127) dX12_heard_122 (by decide) ?_
            refine r_lstore (pc := 127) (lv' := [(7, .long (jnV x4 w9_7 (mgV x3 (cl (Int.toNat (fr (Int.toNat (60 * x1 + v9_9))))) ((iv (wt (Int.toNat (60 * x1 + v9_9)))).toInt64)))), (12, .long (mgV x3 (cl (Int.toNat (fr (Int.toNat (60 * x1 + v9_9))))) ((iv (wt (Int.toNat (60 * x1 + v9_9)))).toInt64))), (11, .int (iv (fr (Int.toNat (60 * x1 + v9_9))))), (10, .int (iv (60 * x1 + v9_9))), (0, .ref y), (1, .int (iv x1)), (2, .int (iv x2)), (3, .int (iv x3)), (4, .int (iv x4)), (5, .int (iv x5)), (6, .int (iv v9_6)), (9, .int (iv v9_9))]) dX12_heard_127 (by decide) rfl ?_
            refine r_iconst (pc := 129) (v := iv 1) dX12_heard_129 (by decide) ?_
            refine r_istore (pc := 130) (lv' := [(6, .int (iv 1)), (7, .long (jnV x4 w9_7 (mgV x3 (cl (Int.toNat (fr (Int.toNat (60 * x1 + v9_9))))) ((iv (wt (Int.toNat (60 * x1 + v9_9)))).toInt64)))), (12, .long (mgV x3 (cl (Int.toNat (fr (Int.toNat (60 * x1 + v9_9))))) ((iv (wt (Int.toNat (60 * x1 + v9_9)))).toInt64))), (11, .int (iv (fr (Int.toNat (60 * x1 + v9_9))))), (10, .int (iv (60 * x1 + v9_9))), (0, .ref y), (1, .int (iv x1)), (2, .int (iv x2)), (3, .int (iv x3)), (4, .int (iv x4)), (5, .int (iv x5)), (9, .int (iv v9_9))]) dX12_heard_130 (by decide) rfl ?_
            refine r_iinc (pc := 132) (v := iv (v9_9 + 1)) (lv' := [(9, .int (iv (v9_9 + 1))), (6, .int (iv 1)), (7, .long (jnV x4 w9_7 (mgV x3 (cl (Int.toNat (fr (Int.toNat (60 * x1 + v9_9))))) ((iv (wt (Int.toNat (60 * x1 + v9_9)))).toInt64)))), (12, .long (mgV x3 (cl (Int.toNat (fr (Int.toNat (60 * x1 + v9_9))))) ((iv (wt (Int.toNat (60 * x1 + v9_9)))).toInt64))), (11, .int (iv (fr (Int.toNat (60 * x1 + v9_9))))), (10, .int (iv (60 * x1 + v9_9))), (0, .ref y), (1, .int (iv x1)), (2, .int (iv x2)), (3, .int (iv x3)), (4, .int (iv x4)), (5, .int (iv x5))]) dX12_heard_132 rfl (iv_add _ _) (by decide) rfl ?_
            refine r_goto (pc := 135) (tgt := 9) dX12_heard_135 (by decide) ?_
            refine Rn.pick (lv' := [(0, .ref y), (1, .int (iv x1)), (2, .int (iv x2)), (3, .int (iv x3)), (4, .int (iv x4)), (5, .int (iv x5)), (6, .int (iv 1)), (7, .long (jnV x4 w9_7 (mgV x3 (cl (Int.toNat (fr (Int.toNat (60 * x1 + v9_9))))) ((iv (wt (Int.toNat (60 * x1 + v9_9)))).toInt64)))), (9, .int (iv (v9_9 + 1)))]) [6, 7, 8, 9, 10, 11, 1, 2, 0] rfl ?_
            exact ih9 (Int.toNat (60 - (v9_9 + 1))) (by omega) _ ht25 1 (v9_9 + 1) (jnV x4 w9_7 (mgV x3 (cl (Int.toNat (fr (Int.toNat (60 * x1 + v9_9))))) ((iv (wt (Int.toNat (60 * x1 + v9_9)))).toInt64))) ⟨by omega, by omega, by omega, by omega, by omega, by (first | exact Or.inl ⟨rfl, rfl⟩ | exact hd_up (by assumption) (by omega) (by rw [← sh_at fr (60 * x1) (v := v9_9) (by omega), ← sh_at tt (60 * x1) (v := v9_9) (by omega)]; rw [Int.toNat_of_nonneg (show 0 ≤ x2 by omega)]; first | exact Or.inl ⟨by omega, rfl⟩ | exact Or.inr ⟨by omega, ⟨by omega, by omega⟩, rfl⟩) (by rw [← sh_at wt (60 * x1) (v := v9_9) (by omega)]) ⟨fun h9 => by first | rfl | (exfalso; omega), fun h9 => by first | rfl | (exfalso; omega)⟩ | exact hd_no (by assumption) (by omega) (by rw [← sh_at tt (60 * x1) (v := v9_9) (by omega), Int.toNat_of_nonneg (show 0 ≤ x2 by omega)]; omega) (by rw [← sh_at fr (60 * x1) (v := v9_9) (by omega), Int.toNat_of_nonneg (show 0 ≤ x2 by omega)]; omega))⟩ (by omega)
  refine Rn.pick (lv' := [(0, .ref y), (1, .int (iv x1)), (2, .int (iv x2)), (3, .int (iv x3)), (4, .int (iv x4)), (5, .int (iv x5)), (6, .int (iv 0)), (7, .long (0 : Int64)), (9, .int (iv 0))]) [3, 4, 5, 6, 7, 8, 2, 1, 0] rfl ?_
  exact B9 (Int.toNat (60 - 0)) _ ht 0 0 (0 : Int64) ⟨by omega, by omega, by omega, by omega, by omega, by (first | exact Or.inl ⟨rfl, rfl⟩ | exact hd_up (by assumption) (by omega) (by rw [← sh_at fr (60 * x1) (v := v9_9) (by omega), ← sh_at tt (60 * x1) (v := v9_9) (by omega)]; rw [Int.toNat_of_nonneg (show 0 ≤ x2 by omega)]; first | exact Or.inl ⟨by omega, rfl⟩ | exact Or.inr ⟨by omega, ⟨by omega, by omega⟩, rfl⟩) (by rw [← sh_at wt (60 * x1) (v := v9_9) (by omega)]) ⟨fun h9 => by first | rfl | (exfalso; omega), fun h9 => by first | rfl | (exfalso; omega)⟩ | exact hd_no (by assumption) (by omega) (by rw [← sh_at tt (60 * x1) (v := v9_9) (by omega), Int.toNat_of_nonneg (show 0 ≤ x2 by omega)]; omega) (by rw [← sh_at fr (60 * x1) (v := v9_9) (by omega), Int.toNat_of_nonneg (show 0 ≤ x2 by omega)]; omega))⟩ (by omega)
