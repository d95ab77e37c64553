/-- ends within a set, node by node -/
def inP (F T : Nat → Int) (set : Int) (n : Int) (ie : Nat → Int) (k : Nat) : Prop := ∀ u : Nat, (u : Int) < n → ie u = (enC F T set u k : Int)
theorem in_0 {F T : Nat → Int} {set n v : Int} {ie : Nat → Int} (h : ∀ u : Nat, (u : Int) < v → ie u = 0) (hv : n ≤ v) : inP F T set n ie 0 := fun u hu => h u (by omega)
theorem in_no {F T : Nat → Int} {set n : Int} {ie : Nat → Int} {k : Int} (h : inP F T set n ie k.toNat) (h0 : 0 ≤ k) (hn : ¬ (F k.toNat ≠ T k.toNat ∧ Me set (F k.toNat).toNat ∧ Me set (T k.toNat).toNat)) : inP F T set n ie (k + 1).toNat := by
  intro u hu
  rw [tn1 h0, h u hu]
  rw [enC_s, if_neg (show ¬ (F k.toNat ≠ T k.toNat ∧ set.toNat.testBit (F k.toNat).toNat = true ∧ set.toNat.testBit (T k.toNat).toNat = true) from hn)]; rfl
theorem in_bd {F T : Nat → Int} {set n : Int} {ie : Nat → Int} {k : Nat} (h : inP F T set n ie k) {u : Nat} (hu : (u : Int) < n) (hk : k ≤ 60) : 0 ≤ ie u ∧ ie u ≤ 120 := by
  have e := h u hu
  have b := enC_le (F := F) (T := T) (s := set) u k
  omega
theorem in_bd2 {F T : Nat → Int} {set n : Int} {ie : Nat → Int} {k : Nat} (h : inP F T set n ie k) {u w : Nat} {x : Int} (hu : (u : Int) < n) (hk : k ≤ 60) (hw : u ≠ w) : 0 ≤ fup ie w x u ∧ fup ie w x u ≤ 120 := by
  rw [fup_o _ _ hw]; exact in_bd h hu hk
theorem in_up {F T : Nat → Int} {set n : Int} {ie : Nat → Int} {k : Int} (h : inP F T set n ie k.toNat) (h0 : 0 ≤ k) (hF : 0 ≤ F k.toNat) (hT : 0 ≤ T k.toNat) (h1 : F k.toNat ≠ T k.toNat) (h2 : Me set (F k.toNat).toNat) (h3 : Me set (T k.toNat).toNat) : inP F T set n (fup (fup ie (F k.toNat).toNat (ie (F k.toNat).toNat + 1)) (T k.toNat).toNat (fup ie (F k.toNat).toNat (ie (F k.toNat).toNat + 1) (T k.toNat).toNat + 1)) (k + 1).toNat := by
  intro u hu
  rw [tn1 h0]
  have hc : F k.toNat ≠ T k.toNat ∧ set.toNat.testBit (F k.toNat).toNat = true ∧ set.toNat.testBit (T k.toNat).toNat = true := ⟨h1, h2, h3⟩
  rw [enC_s, if_pos hc]
  have hne : (T k.toNat).toNat ≠ (F k.toNat).toNat := by omega
  rw [fup_o _ _ hne]
  have e := h u hu
  by_cases eT : u = (T k.toNat).toNat
  · subst eT
    rw [fup_s, if_neg (by omega), if_pos (by omega)]
    have := h (T k.toNat).toNat hu
    omega
  · rw [fup_o _ _ eT]
    by_cases eF : u = (F k.toNat).toNat
    · subst eF
      rw [fup_s, if_pos (by omega), if_neg (by omega)]
      omega
    · rw [fup_o _ _ eF, if_neg (by omega), if_neg (by omega)]
      omega
def lsP (set : Int) (ie : Nat → Int) (v l : Int) : Prop := (∀ u : Nat, (u : Int) < v → Me set u → l ≤ ie u) ∧ (l = 1000 ∨ ∃ u : Nat, (u : Int) < v ∧ Me set u ∧ ie u = l)
theorem ls_0 (set : Int) (ie : Nat → Int) : lsP set ie 0 1000 := ⟨fun u hu => by omega, Or.inl rfl⟩
theorem ls_no {set : Int} {ie : Nat → Int} {v l : Int} (h : lsP set ie v l) (h0 : 0 ≤ v) (hn : ¬ Me set v.toNat ∨ l ≤ ie v.toNat) : lsP set ie (v + 1) l := by
  refine ⟨fun u hu hm => ?_, h.2.elim Or.inl (fun ⟨u, q1, q2⟩ => Or.inr ⟨u, by omega, q2⟩)⟩
  by_cases e : u = v.toNat
  · subst e
    exact hn.elim (fun q => absurd hm q) id
  · exact h.1 u (by omega) hm
theorem ls_up {set : Int} {ie : Nat → Int} {v l : Int} (h : lsP set ie v l) (h0 : 0 ≤ v) (hm : Me set v.toNat) (hl : ie v.toNat < l) : lsP set ie (v + 1) (ie v.toNat) := by
  refine ⟨fun u hu hm => ?_, Or.inr ⟨v.toNat, by omega, hm, rfl⟩⟩
  by_cases e : u = v.toNat
  · subst e; exact Int.le_refl _
  · have := h.1 u (by omega) hm
    omega
theorem ls_end {F T : Nat → Int} {set n : Int} {ie : Nat → Int} {v l : Int} {m N : Nat} (h : lsP set ie v l) (hi : inP F T set n ie m) (hv : n ≤ v) (hN : n = (N : Int)) (h0 : 0 < set) (h1 : set.toNat < 2 ^ N) (hm : m ≤ 60) : (∀ u, Me set u → l ≤ (enC F T set u m : Int)) ∧ (∃ u, Me set u ∧ (enC F T set u m : Int) = l) ∧ 0 ≤ l ∧ l ≤ 120 := by
  have bnd : ∀ u, Me set u → (u : Int) < n := by
    intro u hu
    rcases Nat.lt_or_ge u N with h3 | h3
    · omega
    · have h4 : set.toNat.testBit u = true := hu
      rw [Nat.testBit_lt_two_pow (Nat.lt_of_lt_of_le h1 (Nat.pow_le_pow_right (by omega) h3))] at h4
      cases h4
  have a1 : ∀ u, Me set u → l ≤ (enC F T set u m : Int) := fun u hu => by
    have := h.1 u (by have := bnd u hu; omega) hu
    rw [hi u (bnd u hu)] at this; exact this
  obtain ⟨w, hw⟩ := Me_ex h0
  have b1 := a1 w hw
  have b2 := enC_le (F := F) (T := T) (s := set) w m
  rcases h.2 with e | ⟨u, q1, q2, q3⟩
  · exfalso; omega
  · rw [hi u (bnd u q2)] at q3
    exact ⟨a1, ⟨u, q2, q3⟩, by omega, by omega⟩
/-- what a column of cores holds of a node, when sets below S were looked at -/
def cs1 (m : Nat) (F T : Nat → Int) (S : Int) (c : Int64) (u : Nat) : Prop := 0 ≤ c.toInt ∧ (c.toInt = 0 ∨ ∃ s, 0 < s ∧ s < S ∧ Me s u ∧ ∀ w, Me s w → c.toInt ≤ (enC F T s w m : Int)) ∧ ∀ s, 0 < s → s < S → Me s u → ∃ w, Me s w ∧ (enC F T s w m : Int) ≤ c.toInt
def cuP (m : Nat) (F T : Nat → Int) (n v S : Int) (cl : Nat → Int64) : Prop := ∀ u : Nat, (u : Int) < n → ((u : Int) < v → cs1 m F T (S + 1) (cl u) u) ∧ (v ≤ (u : Int) → cs1 m F T S (cl u) u)
def csP (m : Nat) (F T : Nat → Int) (n S : Int) (cl : Nat → Int64) : Prop := ∀ u : Nat, (u : Int) < n → cs1 m F T S (cl u) u
theorem cs_0 {m : Nat} {F T : Nat → Int} {n : Int} {cl : Nat → Int64} (h : eqB cl (fun _ => 0) n) : csP m F T n 1 cl := by
  intro u hu
  rw [h u hu]
  have e : (0 : Int64).toInt = 0 := by decide
  exact ⟨show (0 : Int) ≤ (0 : Int64).toInt by decide, Or.inl e, fun s h0 h1 => by omega⟩
theorem cu_0 {m : Nat} {F T : Nat → Int} {n S : Int} {cl : Nat → Int64} (h : csP m F T n S cl) : cuP m F T n 0 S cl := fun u hu => ⟨fun h9 => by omega, fun _ => h u hu⟩
theorem cu_end {m : Nat} {F T : Nat → Int} {n v S : Int} {cl : Nat → Int64} (h : cuP m F T n v S cl) (hv : n ≤ v) : csP m F T n (S + 1) cl := fun u hu => (h u hu).1 (by omega)
theorem cs1_mono {m : Nat} {F T : Nat → Int} {S : Int} {c : Int64} {u : Nat} (h : cs1 m F T S c u) (hS : ¬ Me S u ∨ ∃ w, Me S w ∧ (enC F T S w m : Int) ≤ c.toInt) : cs1 m F T (S + 1) c u := by
  refine ⟨h.1, h.2.1.elim Or.inl (fun ⟨s, a1, a2, a3⟩ => Or.inr ⟨s, a1, by omega, a3⟩), fun s h0 h1 h2 => ?_⟩
  by_cases e : s = S
  · subst e; exact hS.elim (fun q => absurd h2 q) id
  · exact h.2.2 s h0 (by omega) h2
theorem cu_no {m : Nat} {F T : Nat → Int} {n v S l : Int} {cl : Nat → Int64} (h : cuP m F T n v S cl) (h0 : 0 ≤ v) (hn : ¬ Me S v.toNat ∨ ((∃ u, Me S u ∧ (enC F T S u m : Int) = l) ∧ l ≤ (cl v.toNat).toInt)) : cuP m F T n (v + 1) S (fuj cl v.toNat (cl v.toNat)) := by
  intro u hu
  have e9 : fuj cl v.toNat (cl v.toNat) u = cl u := by
    by_cases e : u = v.toNat
    · subst e; rw [fuj_s]
    · rw [fuj_o _ _ e]
  rw [e9]
  refine ⟨fun h1 => ?_, fun h1 => (h u hu).2 (by omega)⟩
  by_cases e : u = v.toNat
  · subst e
    refine cs1_mono ((h _ hu).2 (by omega)) (hn.elim Or.inl (fun ⟨⟨w, q1, q2⟩, q3⟩ => Or.inr ⟨w, q1, by omega⟩))
  · exact (h u hu).1 (by omega)
theorem cu_up {m : Nat} {F T : Nat → Int} {n v S l : Int} {cl : Nat → Int64} {x : Int64} (h : cuP m F T n v S cl) (h0 : 0 ≤ v) (hS : 0 < S) (hx : x.toInt = l) (hm : Me S v.toNat) (hl : ¬ l ≤ (cl v.toNat).toInt) (ha : ∀ u, Me S u → l ≤ (enC F T S u m : Int)) (hb : ∃ u, Me S u ∧ (enC F T S u m : Int) = l) : cuP m F T n (v + 1) S (fuj cl v.toNat x) := by
  intro u hu
  by_cases e : u = v.toNat
  · subst e
    rw [fuj_s]
    refine ⟨fun _ => ?_, fun h1 => by omega⟩
    have q := (h _ hu).2 (by omega)
    refine ⟨by have := q.1; omega, Or.inr ⟨S, hS, by omega, hm, fun w hw => by rw [hx]; exact ha w hw⟩, fun s h1 h2 h3 => ?_⟩
    by_cases es : s = S
    · subst es
      obtain ⟨w, w1, w2⟩ := hb
      exact ⟨w, w1, by omega⟩
    · obtain ⟨w, w1, w2⟩ := q.2.2 s h1 (by omega) h3
      exact ⟨w, w1, by omega⟩
  · rw [fuj_o _ _ e]
    exact ⟨fun h1 => (h u hu).1 (by omega), fun h1 => (h u hu).2 (by omega)⟩
theorem cs_co {m : Nat} {F T : Nat → Int} {c : Int64} {n u : Nat} (h : cs1 m F T ((2 ^ n : Nat) : Int) c u) (hu : u < n) : coP m F T n u c.toInt := by
  refine ⟨?_, fun s h0 h1 h2 => ?_⟩
  · rcases h.2.1 with e | ⟨s, a1, a2, a3, a4⟩
    · refine ⟨((2 ^ u : Nat) : Int), Int.natCast_nonneg _, ?_, (Me_shl u u).mpr rfl, fun w _ => by omega⟩
      rw [Int.toNat_natCast]; exact Nat.pow_lt_pow_right (by omega) hu
    · exact ⟨s, by omega, by omega, a3, a4⟩
  · by_cases e : s = 0
    · subst e; exact absurd h2 (Me_0 u)
    · exact h.2.2 s (by omega) (by omega) h2
/-- neighbours below K of the arcs -/
def jbP (be : Nat → Int) (K : Nat) (F T : Nat → Int) (X : Nat → Prop) : Prop := ∀ v : Nat, v < 16 → ∀ j : Nat, Me (be v) j ↔ joX K F T X v j
theorem jb_0 {be : Nat → Int} {F T : Nat → Int} {X : Nat → Prop} (h : ∀ u : Nat, (u : Int) < 16 → be u = 0) : jbP be 0 F T X := by
  intro v hv j
  rw [h v (by omega)]
  exact ⟨fun q => absurd q (Me_0 j), fun ⟨k, q, _⟩ => absurd q (Nat.not_lt_zero k)⟩
theorem joX_up {K : Nat} {F T : Nat → Int} {X : Nat → Prop} (v j : Nat) : joX (K + 1) F T X v j ↔ joX K F T X v j ∨ (X K ∧ F K ≠ T K ∧ ((F K = (v : Int) ∧ T K = (j : Int)) ∨ (T K = (v : Int) ∧ F K = (j : Int)))) := by
  constructor
  · rintro ⟨k, q1, q2⟩
    by_cases e : k = K
    · subst e; exact Or.inr q2
    · exact Or.inl ⟨k, by omega, q2⟩
  · rintro (⟨k, q1, q2⟩ | q)
    · exact ⟨k, by omega, q2⟩
    · exact ⟨K, by omega, q⟩
theorem jb_no {be : Nat → Int} {F T : Nat → Int} {X : Nat → Prop} {k : Int} (h : jbP be k.toNat F T X) (h0 : 0 ≤ k) (hn : ¬ (X k.toNat ∧ F k.toNat ≠ T k.toNat)) : jbP be (k + 1).toNat F T X := by
  intro v hv j
  rw [tn1 h0, joX_up, h v hv j]
  exact ⟨Or.inl, fun q => q.elim id (fun q => absurd ⟨q.1, q.2.1⟩ hn)⟩
theorem jb_up {be : Nat → Int} {F T : Nat → Int} {X : Nat → Prop} {k a b z1 z2 ba bb : Int} (h : jbP be k.toNat F T X) (h0 : 0 ≤ k) (hF : a = F k.toNat) (hT : b = T k.toNat) (hab : a ≠ b) (ha : 0 ≤ a ∧ a ≤ 15) (hb : 0 ≤ b ∧ b ≤ 15) (hX : X k.toNat) (m1 : ∀ i, Me z1 i ↔ Me (be a.toNat) i ∨ Me ba i) (n1 : ∀ i, Me ba i ↔ i = b.toNat) (m2 : ∀ i, Me z2 i ↔ Me (fup be a.toNat z1 b.toNat) i ∨ Me bb i) (n2 : ∀ i, Me bb i ↔ i = a.toNat) : jbP (fup (fup be a.toNat z1) b.toNat z2) (k + 1).toNat F T X := by
  intro v hv j
  rw [tn1 h0, joX_up]
  have hne : b.toNat ≠ a.toNat := by omega
  rw [fup_o _ _ hne] at m2
  by_cases eb : v = b.toNat
  · subst eb
    rw [fup_s, m2 j, n2 j, h _ hv j, ← hF, ← hT]
    constructor
    · rintro (q | q)
      · exact Or.inl q
      · exact Or.inr ⟨hX, hab, Or.inr ⟨by omega, by omega⟩⟩
    · rintro (q | ⟨q1, q2, q3⟩)
      · exact Or.inl q
      · right
        rcases q3 with ⟨e1, e2⟩ | ⟨e1, e2⟩ <;> omega
  · rw [fup_o _ _ eb]
    by_cases ea : v = a.toNat
    · subst ea
      rw [fup_s, m1 j, n1 j, h _ hv j, ← hF, ← hT]
      constructor
      · rintro (q | q)
        · exact Or.inl q
        · exact Or.inr ⟨hX, hab, Or.inl ⟨by omega, by omega⟩⟩
      · rintro (q | ⟨q1, q2, q3⟩)
        · exact Or.inl q
        · right
          rcases q3 with ⟨e1, e2⟩ | ⟨e1, e2⟩ <;> omega
    · rw [fup_o _ _ ea, h v hv j, ← hF, ← hT]
      constructor
      · exact Or.inl
      · rintro (q | ⟨q1, q2, q3⟩)
        · exact q
        · rcases q3 with ⟨e1, e2⟩ | ⟨e1, e2⟩ <;> (exfalso; omega)
/-- steps over neighbours, within a set -/
def JB (be : Nat → Int) (i j : Nat) : Prop := i < 16 ∧ Me (be i) j
def tgR (be : Nat → Int) (set : Int) (i j : Nat) : Prop := JB be i j ∧ Me set j
/-- what hangs together with the lowest node of a set, within it -/
def tgP (be : Nat → Int) (set r : Int) : Prop := (set = 0 → r = 0) ∧ (0 < set → ∃ i, Me set i ∧ (∀ j, j < i → ¬ Me set j) ∧ ∀ j, Me r j ↔ RC (tgR be set) (fun x => x = i) j)
def tg1 (be : Nat → Int) (set z0 part : Int) : Prop := (∀ i, Me z0 i → Me part i) ∧ (∀ i, Me part i → RC (tgR be set) (fun x => Me z0 x) i)
theorem tg1_0 (be : Nat → Int) (set z0 : Int) : tg1 be set z0 z0 := ⟨fun _ h => h, fun _ h => RC_in h⟩
theorem tg1_up {be : Nat → Int} {set z0 part more z w v : Int} (h : tg1 be set z0 part) (hm : ∀ i, Me more i → Me part i) (hv : 0 ≤ v ∧ v ≤ 15) (hmv : Me more v.toNat) (hw : ∀ i, Me w i ↔ Me (be v.toNat) i ∧ Me set i) (hz : ∀ i, Me z i ↔ Me part i ∨ Me w i) : tg1 be set z0 z := by
  refine ⟨fun i hi => (hz i).mpr (Or.inl (h.1 i hi)), fun i hi => ?_⟩
  rcases (hz i).mp hi with q | q
  · exact h.2 i q
  · exact RC_st (h.2 _ (hm _ hmv)) ⟨⟨by omega, ((hw i).mp q).1⟩, ((hw i).mp q).2⟩
def tg2 (be : Nat → Int) (set more part v : Int) : Prop := (∀ i, Me more i → Me part i) ∧ ∀ i j : Nat, (i : Int) < v → Me more i → tgR be set i j → Me part j
theorem tg2_0 (be : Nat → Int) (set part : Int) : tg2 be set part part 0 := ⟨fun _ h => h, fun i j h => by omega⟩
theorem tg2_no {be : Nat → Int} {set more part v : Int} (h : tg2 be set more part v) (h0 : 0 ≤ v) (hn : ¬ Me more v.toNat) : tg2 be set more part (v + 1) := by
  refine ⟨h.1, fun i j hi hm hr => ?_⟩
  by_cases e : i = v.toNat
  · subst e; exact absurd hm hn
  · exact h.2 i j (by omega) hm hr
theorem tg2_up {be : Nat → Int} {set more part z w v : Int} (h : tg2 be set more part v) (h0 : 0 ≤ v) (hw : ∀ i, Me w i ↔ Me (be v.toNat) i ∧ Me set i) (hz : ∀ i, Me z i ↔ Me part i ∨ Me w i) : tg2 be set more z (v + 1) := by
  refine ⟨fun i hi => (hz i).mpr (Or.inl (h.1 i hi)), fun i j hi hm hr => ?_⟩
  by_cases e : i = v.toNat
  · subst e; exact (hz j).mpr (Or.inr ((hw j).mpr ⟨hr.1.2, hr.2⟩))
  · exact (hz j).mpr (Or.inl (h.2 i j (by omega) hm hr))
theorem tg_end {be : Nat → Int} {set z0 part v : Int} (hl : (set = 0 → z0 = 0) ∧ (0 < set → ∃ i : Nat, z0 = ((2 ^ i : Nat) : Int) ∧ Me set i ∧ ∀ j, j < i → ¬ Me set j)) (h1 : tg1 be set z0 part) (h2 : tg2 be set part part v) (hv : 16 ≤ v) (h0 : 0 ≤ part) : tgP be set part := by
  have cl : ∀ j, Me part j ↔ RC (tgR be set) (fun x => Me z0 x) j := fun j => ⟨h1.2 j, fun h => h (Me part) h1.1 (fun i k hi hr => h2.2 i k (by have := hr.1.1; omega) hi hr)⟩
  refine ⟨fun e => ?_, fun hs => ?_⟩
  · have ez := hl.1 e
    apply Me_ext h0 (by omega)
    intro i
    rw [cl i]
    constructor
    · intro h
      exact absurd (h (fun _ => False) (fun x hx => by rw [ez] at hx; exact absurd hx (Me_0 x)) (fun _ _ q _ => q)) (fun q => q)
    · intro h; exact absurd h (Me_0 i)
  · obtain ⟨i, e1, e2, e3⟩ := hl.2 hs
    refine ⟨i, e2, e3, fun j => ?_⟩
    rw [cl j]
    have eq : ∀ x, Me z0 x ↔ x = i := fun x => by rw [e1]; exact Me_shl i x
    exact ⟨RC_mono (fun _ _ q => q) (fun x q => (eq x).mp q), RC_mono (fun _ _ q => q) (fun x q => (eq x).mpr q)⟩
theorem fup_c {f : Nat → Int} {v c : Int} (h : ∀ u : Nat, (u : Int) < v → f u = c) (h0 : 0 ≤ v) : ∀ u : Nat, (u : Int) < v + 1 → fup f v.toNat c u = c := by
  intro u hu
  by_cases e : u = v.toNat
  · subst e; rw [fup_s]
  · rw [fup_o _ _ e]; exact h u (by omega)
theorem tg2_z (be : Nat → Int) (set part v : Int) : tg2 be set 0 part v := ⟨fun i h => absurd h (Me_0 i), fun i j _ h => absurd h (Me_0 i)⟩
/-- neighbours go both ways, between nodes below n -/
def SymJ (be : Nat → Int) (n : Nat) : Prop := ∀ i j, JB be i j → JB be j i ∧ i < n ∧ j < n
def EB (be : Nat → Int) (u v : Nat) : Prop := RC (JB be) (fun x => x = v) u
def lf0 (be : Nat → Int) (n : Nat) (left : Int) : Prop := (∀ i, Me left i → i < n) ∧ (∀ i j, Me left i → JB be i j → Me left j)
def lfP (be : Nat → Int) (n : Nat) (left c : Int) : Prop := lf0 be n left ∧ c = (cnP (fun u => fsP (EB be) u ∧ ¬ Me left u) n : Int)
theorem lf0_0 {be : Nat → Int} {n : Nat} (hJ : SymJ be n) : lf0 be n (((2 ^ n : Nat) : Int) - 1) := ⟨fun i h => (Me_all i).mp h, fun i j _ hr => (Me_all j).mpr (hJ i j hr).2.2⟩
theorem cnP_none {p : Nat → Prop} : ∀ {n : Nat}, (∀ i, i < n → ¬ p i) → cnP p n = 0 := by
  intro n
  induction n with
  | zero => intro _; rfl
  | succ n ih => intro h; rw [cnP_n (h n (by omega))]; exact ih (fun i hi => h i (by omega))
theorem lf_0 {be : Nat → Int} {n : Nat} (hJ : SymJ be n) : lfP be n (((2 ^ n : Nat) : Int) - 1) 0 := by
  refine ⟨lf0_0 hJ, ?_⟩
  rw [cnP_none (fun i hi h => h.2 ((Me_all i).mpr hi))]; rfl
theorem lf_part {be : Nat → Int} {n : Nat} {left r : Int} (h : lf0 be n left) (ht : tgP be left r) (h0 : 0 < left) : ∃ i, Me left i ∧ (∀ j, j < i → ¬ Me left j) ∧ ∀ j, Me r j ↔ RC (JB be) (fun x => x = i) j := by
  obtain ⟨i, q1, q2, q3⟩ := ht.2 h0
  refine ⟨i, q1, q2, fun j => ?_⟩
  rw [q3 j]
  constructor
  · exact RC_mono (fun _ _ q => q.1) (fun _ q => q)
  · intro hr
    exact (hr (fun x => Me left x ∧ RC (tgR be left) (fun y => y = i) x) (fun x hx => by rw [hx]; exact ⟨q1, RC_in rfl⟩) (fun x y hx hxy => ⟨h.2 x y hx.1 hxy, RC_st hx.2 ⟨hxy, h.2 x y hx.1 hxy⟩⟩)).2
theorem lf0_up {be : Nat → Int} {n : Nat} {left r z : Int} (h : lf0 be n left) (hJ : SymJ be n) (ht : tgP be left r) (h0 : 0 < left) (hz : ∀ i, Me z i ↔ Me left i ∧ ¬ Me r i) : lf0 be n z := by
  obtain ⟨i, q1, q2, q3⟩ := lf_part h ht h0
  refine ⟨fun j hj => h.1 j ((hz j).mp hj).1, fun a b ha hr => (hz b).mpr ⟨h.2 a b ((hz a).mp ha).1 hr, fun h9 => ((hz a).mp ha).2 ((q3 a).mpr (RC_st ((q3 b).mp h9) (hJ a b hr).1))⟩⟩
theorem lf_lt {be : Nat → Int} {n : Nat} {left r z : Int} (h : lf0 be n left) (ht : tgP be left r) (h0 : 0 < left) (hz0 : 0 ≤ z) (hz : ∀ i, Me z i ↔ Me left i ∧ ¬ Me r i) : z < left := by
  obtain ⟨i, q1, q2, q3⟩ := lf_part h ht h0
  have := tb_sub (s := z.toNat) (t := left.toNat) (fun j hj => ((hz j).mp hj).1) ⟨i, q1, fun h9 => ((hz i).mp h9).2 ((q3 i).mpr (RC_in rfl))⟩
  omega
theorem lf_up {be : Nat → Int} {n : Nat} {left r z c : Int} (h : lfP be n left c) (hJ : SymJ be n) (ht : tgP be left r) (h0 : 0 < left) (hz : ∀ i, Me z i ↔ Me left i ∧ ¬ Me r i) : lfP be n z (c + 1) := by
  refine ⟨lf0_up h.1 hJ ht h0 hz, ?_⟩
  obtain ⟨i, q1, q2, q3⟩ := lf_part h.1 ht h0
  have hin : i < n := h.1.1 i q1
  have stay : ∀ w, RC (JB be) (fun x => x = i) w → Me left w := fun w hw => hw (Me left) (fun x hx => by rw [hx]; exact q1) (fun x y hx hr => h.1.2 x y hx hr)
  have hfi : fsP (EB be) i := fun w hw he => q2 w hw (stay w he)
  have hsy : ∀ a b, JB be a b → JB be b a := fun a b q => (hJ a b q).1
  have hpi : fsP (EB be) i ∧ ¬ Me z i := ⟨hfi, fun h9 => ((hz i).mp h9).2 ((q3 i).mpr (RC_in rfl))⟩
  rw [cnP_rm (p := fun u => fsP (EB be) u ∧ ¬ Me z u) hin hpi, h.2]
  have e := cnP_eq (p := fun u => (fsP (EB be) u ∧ ¬ Me z u) ∧ u ≠ i) (q := fun u => fsP (EB be) u ∧ ¬ Me left u) (k := n) (fun u hu => by
    constructor
    · rintro ⟨⟨a1, a2⟩, a3⟩
      refine ⟨a1, fun h9 => ?_⟩
      have hr : Me r u := Classical.byContradiction (fun h8 => a2 ((hz u).mpr ⟨h9, h8⟩))
      have hlt : i < u := by
        rcases Nat.lt_or_ge i u with g | g
        · exact g
        · exact absurd h9 (q2 u (by omega))
      exact a1 i hlt (RC_sym hsy ((q3 u).mp hr))
    · rintro ⟨a1, a2⟩
      exact ⟨⟨a1, fun h9 => a2 ((hz u).mp h9).1⟩, fun h9 => a2 (h9 ▸ q1)⟩)
  rw [e]; omega
theorem lf_end {be : Nat → Int} {n : Nat} {c : Int} (h : lfP be n 0 c) : c = (cnP (fsP (EB be)) n : Int) := by
  rw [h.2, cnP_eq (p := fun u => fsP (EB be) u ∧ ¬ Me 0 u) (q := fsP (EB be)) (fun u _ => ⟨fun q => q.1, fun q => ⟨q, Me_0 u⟩⟩)]
theorem lf_c {be : Nat → Int} {n : Nat} {left c : Int} (h : lfP be n left c) (hn : n ≤ 16) : 0 ≤ c ∧ c ≤ 16 := by
  have := cnP_le (fun u => fsP (EB be) u ∧ ¬ Me left u) n
  have := h.2
  omega
/-- labels of what hangs together -/
def wlP (be : Nat → Int) (n : Nat) (left : Int) (lb : Nat → Int) : Prop := ∀ v, v < n → ¬ Me left v → ∀ j, Me (lb v) j ↔ RC (JB be) (fun x => x = v) j
theorem wl_0 {be : Nat → Int} {n : Nat} {lb : Nat → Int} : wlP be n (((2 ^ n : Nat) : Int) - 1) lb := fun v hv h => absurd ((Me_all v).mpr hv) h
/-- labels below v set where the part is -/
def laQ2 (part v : Int) (lb l0 : Nat → Int) : Prop := ∀ u : Nat, u < 16 → (((u : Int) < v ∧ Me part u) → lb u = part) ∧ (¬ ((u : Int) < v ∧ Me part u) → lb u = l0 u)
theorem la2_0 (part : Int) (lb : Nat → Int) : laQ2 part 0 lb lb := fun u hu => ⟨fun h => by omega, fun _ => rfl⟩
theorem la2_y {part v : Int} {lb l0 : Nat → Int} (h : laQ2 part v lb l0) (h0 : 0 ≤ v) (hm : Me part v.toNat) : laQ2 part (v + 1) (fup lb v.toNat part) l0 := by
  intro u hu
  by_cases e : u = v.toNat
  · subst e; rw [fup_s]; exact ⟨fun _ => rfl, fun h9 => absurd ⟨by omega, hm⟩ h9⟩
  · rw [fup_o _ _ e]
    exact ⟨fun h9 => (h u hu).1 ⟨by omega, h9.2⟩, fun h9 => (h u hu).2 (fun h8 => h9 ⟨by omega, h8.2⟩)⟩
theorem la2_n {part v : Int} {lb l0 : Nat → Int} (h : laQ2 part v lb l0) (h0 : 0 ≤ v) (hm : ¬ Me part v.toNat) : laQ2 part (v + 1) (fup lb v.toNat (lb v.toNat)) l0 := by
  intro u hu
  have e9 : fup lb v.toNat (lb v.toNat) u = lb u := by
    by_cases e : u = v.toNat
    · subst e; rw [fup_s]
    · rw [fup_o _ _ e]
  rw [e9]
  by_cases e : u = v.toNat
  · subst e; exact ⟨fun h9 => absurd h9.2 hm, fun _ => (h _ hu).2 (fun h8 => hm h8.2)⟩
  · exact ⟨fun h9 => (h u hu).1 ⟨by omega, h9.2⟩, fun h9 => (h u hu).2 (fun h8 => h9 ⟨by omega, h8.2⟩)⟩
theorem wl_up {be : Nat → Int} {n : Nat} {left r z v : Int} {lb l0 : Nat → Int} (h : wlP be n left l0) (hf : lf0 be n left) (hJ : SymJ be n) (ht : tgP be left r) (h0 : 0 < left) (hz : ∀ i, Me z i ↔ Me left i ∧ ¬ Me r i) (hl : laQ2 r v lb l0) (hv : (n : Int) ≤ v) (hn : n ≤ 16) : wlP be n z lb := by
  obtain ⟨i, q1, q2, q3⟩ := lf_part hf ht h0
  have hsy : ∀ a b, JB be a b → JB be b a := fun a b q => (hJ a b q).1
  intro u hu hnz j
  by_cases hr : Me r u
  · rw [(hl u (by omega)).1 ⟨by omega, hr⟩, q3 j]
    have iu := (q3 u).mp hr
    exact ⟨fun h9 => RC_tr (RC_sym hsy iu) h9, fun h9 => RC_tr iu h9⟩
  · rw [(hl u (by omega)).2 (fun h9 => hr h9.2)]
    exact h u hu (fun h9 => hnz ((hz u).mpr ⟨h9, hr⟩)) j
/-- neighbours of arcs: steps over them -/
theorem jb_rc {be : Nat → Int} {m : Nat} {F T : Nat → Int} {X : Nat → Prop} {n : Int} (h : jbP be m F T X) (hF : ∀ k, k < m → (0 ≤ F k ∧ F k < n) ∧ (0 ≤ T k ∧ T k < n)) (hn : n ≤ 16) (i j : Nat) : JB be i j ↔ joX m F T X i j := by
  constructor
  · intro q; exact (h i q.1 j).mp q.2
  · intro q
    have hi : i < 16 := by
      obtain ⟨k, q1, q2, q3, q4⟩ := q
      have := hF k q1
      rcases q4 with ⟨e1, e2⟩ | ⟨e1, e2⟩ <;> omega
    exact ⟨hi, (h i hi j).mpr q⟩
theorem jb_sym {be : Nat → Int} {m : Nat} {F T : Nat → Int} {X : Nat → Prop} {n : Int} (h : jbP be m F T X) (hF : ∀ k, k < m → (0 ≤ F k ∧ F k < n) ∧ (0 ≤ T k ∧ T k < n)) (hn : n ≤ 16) : SymJ be n.toNat := by
  intro i j q
  have q1 := (jb_rc h hF hn i j).mp q
  refine ⟨(jb_rc h hF hn j i).mpr (joX_sym _ _ q1), ?_⟩
  obtain ⟨k, r1, r2, r3, r4⟩ := q1
  have := hF k r1
  rcases r4 with ⟨e1, e2⟩ | ⟨e1, e2⟩ <;> omega
theorem jb_cnt {be : Nat → Int} {m : Nat} {F T : Nat → Int} {X Y : Nat → Prop} {n : Int} (h : jbP be m F T X) (hF : ∀ k, k < m → (0 ≤ F k ∧ F k < n) ∧ (0 ≤ T k ∧ T k < n)) (hn : n ≤ 16) (hXY : ∀ k, k < m → (X k ↔ Y k)) (N : Nat) : cnP (fsP (EB be)) N = cnP (fsP (fun u v => RC (joX m F T Y) (fun x => x = v) u)) N := by
  apply nu_cnt
  intro u v _ _
  apply RC_iff
  intro i j
  rw [jb_rc h hF hn i j]
  constructor
  · rintro ⟨k, q1, q2, q3⟩; exact ⟨k, q1, (hXY k q1).mp q2, q3⟩
  · rintro ⟨k, q1, q2, q3⟩; exact ⟨k, q1, (hXY k q1).mpr q2, q3⟩
def bgP (m : Nat) (F T : Nat → Int) (K : Int) (bg : Nat → Int) : Prop := ∀ j : Nat, (j : Int) < K → (bg j = 1 ∧ brX m F T (fun _ => True) j) ∨ (bg j = 0 ∧ ¬ brX m F T (fun _ => True) j)
theorem bg_up {m : Nat} {F T : Nat → Int} {K c w x : Int} {bg b0 b1 : Nat → Int} {n : Int} (h : bgP m F T K bg) (h0 : 0 ≤ K) (hm : K < (m : Int)) (hF : ∀ k, k < m → (0 ≤ F k ∧ F k < n) ∧ (0 ≤ T k ∧ T k < n)) (hn : n ≤ 16) (j0 : jbP b0 m F T (fun k => (k : Int) ≠ -1)) (j1 : jbP b1 m F T (fun k => (k : Int) ≠ K)) (hc : c = (cnP (fsP (EB b0)) n.toNat : Int)) (hw : w = (cnP (fsP (EB b1)) n.toNat : Int)) (hx : (x = 1 ∧ c < w) ∨ (x = 0 ∧ ¬ c < w)) : bgP m F T (K + 1) (fup bg K.toNat x) := by
  intro j hj
  by_cases e : j = K.toNat
  · subst e
    rw [fup_s]
    have hk := hF K.toNat (by omega)
    have e0 := jb_cnt (Y := fun _ => True) j0 hF hn (fun k _ => ⟨fun _ => trivial, fun _ => by show (k : Int) ≠ -1; omega⟩) n.toNat
    have e1 := jb_cnt (Y := fun k => True ∧ k ≠ K.toNat) j1 hF hn (fun k _ => ⟨fun q => ⟨trivial, fun e9 => q (by omega)⟩, fun q => (by show (k : Int) ≠ K; have := q.2; omega)⟩) n.toNat
    have b := br_cnt (m := m) (F := F) (T := T) (n := n.toNat) (k := K.toNat) (a := (F K.toNat).toNat) (b := (T K.toNat).toNat) (by omega) ⟨by omega, by omega⟩ ⟨by omega, by omega⟩
    rw [← e0, ← e1] at b
    rcases hx with ⟨x1, x2⟩ | ⟨x1, x2⟩
    · exact Or.inl ⟨x1, b.mp (by omega)⟩
    · exact Or.inr ⟨x1, fun h9 => x2 (by have := b.mpr h9; omega)⟩
  · rw [fup_o _ _ e]; exact h j (by omega)
/-- neighbours out, without loops -/
def sbP (os : Nat → Int) (K : Nat) (d : Int) (F T : Nat → Int) (n : Int) : Prop := ∀ v : Nat, (v : Int) < n → ∀ j : Nat, Me (os v) j ↔ ∃ k, k < K ∧ F k ≠ T k ∧ goP d F T k (v : Int) (j : Int)
theorem sb_0 {os : Nat → Int} {d : Int} {F T : Nat → Int} {n v : Int} (h : ∀ u : Nat, (u : Int) < v → os u = 0) (hv : n ≤ v) : sbP os 0 d F T n := by
  intro u hu j
  rw [h u (by omega)]
  exact ⟨fun q => absurd q (Me_0 j), fun ⟨k, q, _⟩ => absurd q (Nat.not_lt_zero k)⟩
theorem sb_ex {K : Nat} {d : Int} {F T : Nat → Int} (v j : Int) : (∃ k, k < K + 1 ∧ F k ≠ T k ∧ goP d F T k v j) ↔ (∃ k, k < K ∧ F k ≠ T k ∧ goP d F T k v j) ∨ (F K ≠ T K ∧ goP d F T K v j) := by
  constructor
  · rintro ⟨k, q1, q2⟩
    by_cases e : k = K
    · subst e; exact Or.inr q2
    · exact Or.inl ⟨k, by omega, q2⟩
  · rintro (⟨k, q1, q2⟩ | q)
    · exact ⟨k, by omega, q2⟩
    · exact ⟨K, by omega, q⟩
theorem sb_no {os : Nat → Int} {d : Int} {F T : Nat → Int} {n k : Int} (h : sbP os k.toNat d F T n) (h0 : 0 ≤ k) (hn : F k.toNat = T k.toNat) : sbP os (k + 1).toNat d F T n := by
  intro v hv j
  rw [tn1 h0, sb_ex, h v hv j]
  exact ⟨Or.inl, fun q => q.elim id (fun q => absurd hn q.1)⟩
theorem sb_up1 {os : Nat → Int} {d : Int} {F T : Nat → Int} {n k a b z bb : Int} (h : sbP os k.toNat d F T n) (h0 : 0 ≤ k) (hF : a = F k.toNat) (hT : b = T k.toNat) (hab : a ≠ b) (ha : 0 ≤ a) (hb : 0 ≤ b) (hd : d ≠ 0) (m1 : ∀ i, Me z i ↔ Me (os a.toNat) i ∨ Me bb i) (n1 : ∀ i, Me bb i ↔ i = b.toNat) : sbP (fup os a.toNat z) (k + 1).toNat d F T n := by
  intro v hv j
  rw [tn1 h0, sb_ex]
  by_cases ea : v = a.toNat
  · subst ea
    rw [fup_s, m1 j, n1 j, h _ hv j, ← hF, ← hT]
    constructor
    · rintro (q | q)
      · exact Or.inl q
      · exact Or.inr ⟨hab, Or.inl ⟨by omega, by omega⟩⟩
    · rintro (q | ⟨q1, q2⟩)
      · exact Or.inl q
      · right
        rcases q2 with ⟨e1, e2⟩ | ⟨e0, e1, e2⟩
        · omega
        · exact absurd e0 hd
  · rw [fup_o _ _ ea, h v hv j]
    constructor
    · exact Or.inl
    · rintro (q | ⟨q1, q2⟩)
      · exact q
      · exfalso
        rcases q2 with ⟨e1, e2⟩ | ⟨e0, e1, e2⟩
        · omega
        · exact hd e0
theorem sb_up2 {os : Nat → Int} {d : Int} {F T : Nat → Int} {n k a b z1 z2 ba bb : Int} (h : sbP os k.toNat d F T n) (h0 : 0 ≤ k) (hF : a = F k.toNat) (hT : b = T k.toNat) (hab : a ≠ b) (ha : 0 ≤ a) (hb : 0 ≤ b) (hd : d = 0) (m1 : ∀ i, Me z1 i ↔ Me (os a.toNat) i ∨ Me bb i) (n1 : ∀ i, Me bb i ↔ i = b.toNat) (m2 : ∀ i, Me z2 i ↔ Me (fup os a.toNat z1 b.toNat) i ∨ Me ba i) (n2 : ∀ i, Me ba i ↔ i = a.toNat) : sbP (fup (fup os a.toNat z1) b.toNat z2) (k + 1).toNat d F T n := by
  intro v hv j
  rw [tn1 h0, sb_ex]
  have hne : b.toNat ≠ a.toNat := by omega
  rw [fup_o _ _ hne] at m2
  by_cases eb : v = b.toNat
  · subst eb
    rw [fup_s, m2 j, n2 j, h _ hv j, ← hF, ← hT]
    constructor
    · rintro (q | q)
      · exact Or.inl q
      · exact Or.inr ⟨hab, Or.inr ⟨hd, by omega, by omega⟩⟩
    · rintro (q | ⟨q1, q2⟩)
      · exact Or.inl q
      · right
        rcases q2 with ⟨e1, e2⟩ | ⟨e0, e1, e2⟩ <;> omega
  · rw [fup_o _ _ eb]
    by_cases ea : v = a.toNat
    · subst ea
      rw [fup_s, m1 j, n1 j, h _ hv j, ← hF, ← hT]
      constructor
      · rintro (q | q)
        · exact Or.inl q
        · exact Or.inr ⟨hab, Or.inl ⟨by omega, by omega⟩⟩
      · rintro (q | ⟨q1, q2⟩)
        · exact Or.inl q
        · right
          rcases q2 with ⟨e1, e2⟩ | ⟨e0, e1, e2⟩ <;> omega
    · rw [fup_o _ _ ea, h v hv j, ← hF, ← hT]
      constructor
      · exact Or.inl
      · rintro (q | ⟨q1, q2⟩)
        · exact q
        · exfalso
          rcases q2 with ⟨e1, e2⟩ | ⟨e0, e1, e2⟩ <;> omega
/-- the label of a node is the first node of its class -/
def lqP (E : Nat → Nat → Prop) (lb : Nat → Int) (v : Int) : Prop := ∀ u : Nat, (u : Int) < v → ∃ c : Nat, lb u = (c : Int) ∧ c ≤ u ∧ E c u ∧ ∀ w, w < c → ¬ E w u
/-- in the midst of looking for it, from above: all above u were looked at -/
def lcP (E : Nat → Nat → Prop) (x : Int) (v u : Int) : Prop := u < x ∧ x ≤ v ∧ E x.toNat v.toNat ∧ ∀ w : Nat, u < (w : Int) → (w : Int) ≤ v → E w v.toNat → x ≤ (w : Int)
theorem lc_0 {E : Nat → Nat → Prop} {v : Int} (hE : E v.toNat v.toNat) (h0 : 0 ≤ v) : lcP E v v (v - 1) := ⟨by omega, by omega, hE, fun w h1 h2 _ => by omega⟩
theorem lc_y {E : Nat → Nat → Prop} {x v u : Int} (h : lcP E x v u) (h0 : 0 ≤ u) (hE : E u.toNat v.toNat) : lcP E u v (u - 1) := ⟨by omega, by have := h.1; have := h.2.1; omega, hE, fun w h1 h2 _ => by omega⟩
theorem lc_n {E : Nat → Nat → Prop} {x v u : Int} (h : lcP E x v u) (h0 : 0 ≤ u) (hE : ¬ E u.toNat v.toNat) : lcP E x v (u - 1) := by
  refine ⟨by have := h.1; omega, h.2.1, h.2.2.1, fun w h1 h2 h3 => ?_⟩
  by_cases e : w = u.toNat
  · subst e; exact absurd h3 hE
  · exact h.2.2.2 w (by omega) h2 h3
theorem lq_up {E : Nat → Nat → Prop} {lb l0 : Nat → Int} {v u : Int} (h : lqP E l0 v) (h0 : 0 ≤ v) (hu : u < 0) (hc : lcP E (lb v.toNat) v u) (hu0 : u = -1) (ho : exI lb l0 v.toNat) : lqP E lb (v + 1) := by
  intro w hw
  by_cases e : w = v.toNat
  · subst e
    obtain ⟨c1, c2, c3, c4⟩ := hc
    refine ⟨(lb v.toNat).toNat, by omega, by omega, c3, fun z hz h9 => ?_⟩
    have := c4 z (by omega) (by omega) h9
    omega
  · rw [ho w e]; exact h w (by omega)
theorem lq_eq {E : Nat → Nat → Prop} {lb : Nat → Int} {n : Nat} (h : lqP E lb (n : Int)) (hr : ∀ u, E u u) (hs : ∀ u v, E u v → E v u) (ht : ∀ u v w, E u v → E v w → E u w) {u v : Nat} (hu : u < n) (hv : v < n) : lb u = lb v ↔ E u v := by
  obtain ⟨c, a1, a2, a3, a4⟩ := h u (by omega)
  obtain ⟨e, b1, b2, b3, b4⟩ := h v (by omega)
  constructor
  · intro q
    have eq : c = e := by omega
    subst eq
    exact ht u c v (hs _ _ a3) b3
  · intro q
    have eq : c = e := by
      rcases Nat.lt_trichotomy c e with g | g | g
      · exact absurd (ht c u v a3 q) (b4 c g)
      · exact g
      · exact absurd (ht e v u b3 (hs _ _ q)) (a4 e g)
    rw [a1, b1, eq]
theorem bz_up {a K x : Int} {bg : Nat → Int} (h : a = 0 → ∀ j : Nat, (j : Int) < K → bg j = 0) (h0 : 0 ≤ K) (ha : a = 0) (hx : x = 0) : ∀ j : Nat, (j : Int) < K + 1 → fup bg K.toNat x j = 0 := by
  intro j hj
  by_cases e : j = K.toNat
  · subst e; rw [fup_s]; exact hx
  · rw [fup_o _ _ e]; exact h ha j (by omega)
set_option maxHeartbeats 4000000 in
set_option maxRecDepth 100000 in
theorem x_X12_cores {D : va_G} {cI cJ cZ cT : ClassId} {lo b L : Nat} {xs : Nat → Int32} {hp : MH} {n d : Nat} {Γ : TG} {y : Nat} {rf cn nm : Int} {so sz dr mn fr tt wt co : Nat → Int} {nu : Nat → Int64} {sa : Nat → Int} {wo : Nat → Int64} {ln : Nat → Int} {hw : Nat → Int64} {ro qi qc nf nt nw nc : Nat → Int} {cl nx : Nat → Int64} {ie be sd bl : Nat → Int} {bs wy ra rb : Nat → Int64} {lb bg os js ls : Nat → Int} {sp : Nat → Int64} {jw go : Nat → Int} {de : Nat → Int64} {yb ah im : Nat → Int} {x1 : Int} {Po9 : Option Value → MH → Nat → Prop} (hd0 : 1 ≤ d) (hR_many : Rfx 121 0 60 mn) (hR_sizes : Rfx 121 0 16 sz) (hR_from : Rfx 7260 0 15 fr) (hR_to : Rfx 7260 0 15 tt) (ht : Tw (RX Γ cI cJ cZ y rf cn nm so sz dr mn fr tt wt co nu sa wo ln hw ro qi qc nf nt nw nc cl nx ie be sd bl bs wy ra rb lb bg os js ls sp jw go de yb ah im) hp) (hx1 : 0 ≤ x1 ∧ x1 ≤ 120) (hEn : enP fr tt mn sz x1) (h0c : eqB cl (fun _ => 0) (sz (Int.toNat x1))) (hPo : ∀ r hp1 n1, (n1 = n ∧ ∃ (k1 : Nat → Int64) (i1 : Nat → Int), Tw (RX Γ cI cJ cZ y rf cn nm so sz dr mn fr tt wt co nu sa wo ln hw ro qi qc nf nt nw nc k1 nx i1 be sd bl bs wy ra rb lb bg os js ls sp jw go de yb ah im) hp1 ∧ r = none ∧ (csP (Int.toNat (mn (Int.toNat x1))) (sh fr (60 * x1)) (sh tt (60 * x1)) (sz (Int.toNat x1)) ((2 ^ Int.toNat (sz (Int.toNat x1)) : Nat) : Int) k1)) → Po9 r hp1 n1) : Mt (gG D cI cJ cZ cT lo b L xs) mX12_cores d 0 0 [.ref y, .int (iv x1)] hp n Po9 := by
  refine Mt.of rfl (Nat.le_of_ble_eq_true rfl) ?_
  refine Rn.pick (lv' := [(0, .ref y), (1, .int (iv x1))]) [0, 1] rfl ?_
  have rmn := hR_many (Int.toNat x1) (by omega)
  have rsz := hR_sizes (Int.toNat x1) (by omega)
  have hp2 : 1 ≤ 2 ^ Int.toNat (sz (Int.toNat x1)) := Nat.one_le_two_pow
  have hp3 : 2 ^ Int.toNat (sz (Int.toNat x1)) ≤ 2 ^ 16 := Nat.pow_le_pow_right (by omega) (by omega)
  refine r_aload_n (pc := 0) dX12_cores_0 (i := 0) rfl rfl ?_
  refine t_getE (pc := 1) (.ref (y + 2)) ht (rd_of RX_y) fX12_13 dX12_cores_1 rfl ?_
  refine r_iload_n (pc := 4) dX12_cores_4 (i := 1) rfl rfl ?_
  refine t_ialdX (pc := 5) (t0 := 0) ht (rd_of RX_sizes) dX12_cores_5 rfl (by decide) (by omega) (fun b1 => ?_)
  have rb1 := (show Rfx 121 0 16 sz by assumption) (Int.toNat x1) (by omega)
  refine r_istore_n (pc := 6) (lv' := [(2, .int (iv (sz (Int.toNat x1)))), (0, .ref y), (1, .int (iv x1))]) dX12_cores_6 (i := 2) rfl (by decide) rfl ?_
  refine r_iconst (pc := 7) (v := iv 1) dX12_cores_7 (by decide) ?_
  refine r_istore_n (pc := 8) (lv' := [(3, .int (iv 1)), (2, .int (iv (sz (Int.toNat x1)))), (0, .ref y), (1, .int (iv x1))]) dX12_cores_8 (i := 3) rfl (by decide) rfl ?_
  have B9 : ∀ k : Nat, ∀ cl9 : Nat → Int64, ∀ ie9 : Nat → Int, ∀ hp9 : MH, Tw (RX Γ cI cJ cZ y rf cn nm so sz dr mn fr tt wt co nu sa wo ln hw ro qi qc nf nt nw nc cl9 nx ie9 be sd bl bs wy ra rb lb bg os js ls sp jw go de yb ah im) hp9 → ∀  (v9_3 : Int), 1 ≤ v9_3 ∧ v9_3 ≤ 65536 ∧ (v9_3 ≤ ((2 ^ Int.toNat (sz (Int.toNat x1)) : Nat) : Int)) ∧ (csP (Int.toNat (mn (Int.toNat x1))) (sh fr (60 * x1)) (sh tt (60 * x1)) (sz (Int.toNat x1)) v9_3 cl9) → 65536 - v9_3 ≤ (k : Int) → Rn (gG D cI cJ cZ cT lo b L xs) mX12_cores d 9 [(0, .ref y), (1, .int (iv x1)), (2, .int (iv (sz (Int.toNat x1)))), (3, .int (iv v9_3))] [] hp9 n 0 0 Po9 := by
    refine lpS _ ?_
    intro k9 ih9 cl9 ie9 hp9 ht9 v9_3 hf9 hm9
    obtain ⟨hf9_0, hf9_1, hf9_2, ha9_3⟩ := hf9
    refine r_iload_n (pc := 9) dX12_cores_9 (i := 3) rfl rfl ?_
    refine r_iconst (pc := 10) (v := iv 1) dX12_cores_10 (by decide) ?_
    refine r_iload_n (pc := 11) dX12_cores_11 (i := 2) rfl rfl ?_
    refine r_ishl (pc := 12) (v := iv ((2 ^ Int.toNat (sz (Int.toNat x1)) : Nat) : Int)) dX12_cores_12 (shl_e (by omega)) ?_
    have mp12_2 : 1 ≤ 2 ^ Int.toNat (sz (Int.toNat x1)) := Nat.one_le_two_pow
    have mq12_3 : 2 ^ Int.toNat (sz (Int.toNat x1)) ≤ 2 ^ 16 := Nat.pow_le_pow_right (by omega) (by omega)
    have ms12 := Me_shl (Int.toNat (sz (Int.toNat x1)))
    refine t_icmp_ge (pc := 13) (tgt := 267) dX12_cores_13 (by decide) (by omega) (by omega) (fun c13 => ?_) (fun c13 => ?_)
    · exact r_vret (pc := 267) dX12_cores_267 rfl (hPo _ _ _ ⟨rfl, cl9, ie9, ht9, rfl, (by (rw [← show v9_3 = ((2 ^ Int.toNat (sz (Int.toNat x1)) : Nat) : Int) by omega]; assumption))⟩)
    · refine r_iconst (pc := 16) (v := iv 0) dX12_cores_16 (by decide) ?_
      refine r_istore (pc := 17) (lv' := [(4, .int (iv 0)), (0, .ref y), (1, .int (iv x1)), (2, .int (iv (sz (Int.toNat x1)))), (3, .int (iv v9_3))]) dX12_cores_17 (by decide) rfl ?_
      have B19 : ∀ k : Nat, ∀ ie19 : Nat → Int, ∀ hp19 : MH, Tw (RX Γ cI cJ cZ y rf cn nm so sz dr mn fr tt wt co nu sa wo ln hw ro qi qc nf nt nw nc cl9 nx ie19 be sd bl bs wy ra rb lb bg os js ls sp jw go de yb ah im) hp19 → ∀  (v19_4 : Int), 0 ≤ v19_4 ∧ v19_4 ≤ 16 ∧ (v19_4 ≤ (sz (Int.toNat x1))) ∧ (∀ u : Nat, (u : Int) < v19_4 → ie19 u = 0) → 16 - v19_4 ≤ (k : Int) → Rn (gG D cI cJ cZ cT lo b L xs) mX12_cores d 19 [(0, .ref y), (1, .int (iv x1)), (2, .int (iv (sz (Int.toNat x1)))), (3, .int (iv v9_3)), (4, .int (iv v19_4))] [] hp19 n 0 0 Po9 := by
        refine lpS _ ?_
        intro k19 ih19 ie19 hp19 ht19 v19_4 hf19 hm19
        obtain ⟨hf19_0, hf19_1, hf19_2, ha19_3⟩ := hf19
        refine r_iload (pc := 19) dX12_cores_19 rfl ?_
        refine r_iload_n (pc := 21) dX12_cores_21 (i := 2) rfl rfl ?_
        refine t_icmp_ge (pc := 22) (tgt := 39) dX12_cores_22 (by decide) (by omega) (by omega) (fun c22 => ?_) (fun c22 => ?_)
        · refine r_iconst (pc := 39) (v := iv 0) dX12_cores_39 (by decide) ?_
          refine r_istore (pc := 40) (lv' := [(4, .int (iv 0)), (0, .ref y), (1, .int (iv x1)), (2, .int (iv (sz (Int.toNat x1)))), (3, .int (iv v9_3))]) dX12_cores_40 (by decide) rfl ?_
          have B42 : ∀ k : Nat, ∀ ie42 : Nat → Int, ∀ hp42 : MH, Tw (RX Γ cI cJ cZ y rf cn nm so sz dr mn fr tt wt co nu sa wo ln hw ro qi qc nf nt nw nc cl9 nx ie42 be sd bl bs wy ra rb lb bg os js ls sp jw go de yb ah im) hp42 → ∀  (v42_4 : Int), 0 ≤ v42_4 ∧ v42_4 ≤ 60 ∧ (v42_4 ≤ (mn (Int.toNat x1))) ∧ (inP (sh fr (60 * x1)) (sh tt (60 * x1)) v9_3 (sz (Int.toNat x1)) ie42 (Int.toNat v42_4)) → 60 - v42_4 ≤ (k : Int) → Rn (gG D cI cJ cZ cT lo b L xs) mX12_cores d 42 [(0, .ref y), (1, .int (iv x1)), (2, .int (iv (sz (Int.toNat x1)))), (3, .int (iv v9_3)), (4, .int (iv v42_4))] [] hp42 n 0 0 Po9 := by
            refine lpS _ ?_
            intro k42 ih42 ie42 hp42 ht42 v42_4 hf42 hm42
            obtain ⟨hf42_0, hf42_1, hf42_2, ha42_3⟩ := hf42
            refine r_iload (pc := 42) dX12_cores_42 rfl ?_
            refine r_aload_n (pc := 44) dX12_cores_44 (i := 0) rfl rfl ?_
            refine t_getE (pc := 45) (.ref (y + 4)) ht42 (rd_of RX_y) fX12_20 dX12_cores_45 rfl ?_
            refine r_iload_n (pc := 48) dX12_cores_48 (i := 1) rfl rfl ?_
            refine t_ialdX (pc := 49) (t0 := 0) ht42 (rd_of RX_many) dX12_cores_49 rfl (by decide) (by omega) (fun b4 => ?_)
            have rb4 := (show Rfx 121 0 60 mn by assumption) (Int.toNat x1) (by omega)
            refine t_icmp_ge (pc := 50) (tgt := 146) dX12_cores_50 (by decide) (by omega) (by omega) (fun c50 => ?_) (fun c50 => ?_)
            · refine r_sipush (pc := 146) (v := iv 1000) dX12_cores_146 (by decide) ?_
              refine r_istore (pc := 149) (lv' := [(4, .int (iv 1000)), (0, .ref y), (1, .int (iv x1)), (2, .int (iv (sz (Int.toNat x1)))), (3, .int (iv v9_3))]) dX12_cores_149 (by decide) rfl ?_
              refine r_iconst (pc := 151) (v := iv 0) dX12_cores_151 (by decide) ?_
              refine r_istore (pc := 152) (lv' := [(5, .int (iv 0)), (4, .int (iv 1000)), (0, .ref y), (1, .int (iv x1)), (2, .int (iv (sz (Int.toNat x1)))), (3, .int (iv v9_3))]) dX12_cores_152 (by decide) rfl ?_
              have B154 : ∀ k : Nat, ∀ hp154 : MH, Tw (RX Γ cI cJ cZ y rf cn nm so sz dr mn fr tt wt co nu sa wo ln hw ro qi qc nf nt nw nc cl9 nx ie42 be sd bl bs wy ra rb lb bg os js ls sp jw go de yb ah im) hp154 → ∀  (v154_4 : Int) (v154_5 : Int), (-2147483648) ≤ v154_4 ∧ v154_4 ≤ 2147483647 ∧ 0 ≤ v154_5 ∧ v154_5 ≤ 16 ∧ (v154_5 ≤ (sz (Int.toNat x1))) ∧ (lsP v9_3 ie42 v154_5 v154_4) → 16 - v154_5 ≤ (k : Int) → Rn (gG D cI cJ cZ cT lo b L xs) mX12_cores d 154 [(0, .ref y), (1, .int (iv x1)), (2, .int (iv (sz (Int.toNat x1)))), (3, .int (iv v9_3)), (4, .int (iv v154_4)), (5, .int (iv v154_5))] [] hp154 n 0 0 Po9 := by
                refine lpS _ ?_
                intro k154 ih154 hp154 ht154 v154_4 v154_5 hf154 hm154
                obtain ⟨hf154_0, hf154_1, hf154_2, hf154_3, hf154_4, ha154_5⟩ := hf154
                refine r_iload (pc := 154) dX12_cores_154 rfl ?_
                refine r_iload_n (pc := 156) dX12_cores_156 (i := 2) rfl rfl ?_
                refine t_icmp_ge (pc := 157) (tgt := 202) dX12_cores_157 (by decide) (by omega) (by omega) (fun c157 => ?_) (fun c157 => ?_)
                · refine r_iconst (pc := 202) (v := iv 0) dX12_cores_202 (by decide) ?_
                  refine r_istore (pc := 203) (lv' := [(5, .int (iv 0)), (0, .ref y), (1, .int (iv x1)), (2, .int (iv (sz (Int.toNat x1)))), (3, .int (iv v9_3)), (4, .int (iv v154_4))]) dX12_cores_203 (by decide) rfl ?_
                  have hls := ls_end (F := (sh fr (60 * x1))) (T := (sh tt (60 * x1))) (m := (Int.toNat (mn (Int.toNat x1)))) (N := Int.toNat (sz (Int.toNat x1))) (by assumption : lsP v9_3 ie42 v154_5 v154_4) (by have h8 : inP (sh fr (60 * x1)) (sh tt (60 * x1)) v9_3 (sz (Int.toNat x1)) ie42 (Int.toNat v42_4) := (by assumption); rw [show v42_4 = (mn (Int.toNat x1)) by omega] at h8; exact h8) (by omega) (by omega) (by omega) (by omega) (by omega)
                  have hl9 := iv_long (x := v154_4) (by omega)
                  have B205 : ∀ k : Nat, ∀ cl205 : Nat → Int64, ∀ hp205 : MH, Tw (RX Γ cI cJ cZ y rf cn nm so sz dr mn fr tt wt co nu sa wo ln hw ro qi qc nf nt nw nc cl205 nx ie42 be sd bl bs wy ra rb lb bg os js ls sp jw go de yb ah im) hp205 → ∀  (v205_5 : Int), 0 ≤ v205_5 ∧ v205_5 ≤ 16 ∧ (v205_5 ≤ (sz (Int.toNat x1))) ∧ (cuP (Int.toNat (mn (Int.toNat x1))) (sh fr (60 * x1)) (sh tt (60 * x1)) (sz (Int.toNat x1)) v205_5 v9_3 cl205) → 16 - v205_5 ≤ (k : Int) → Rn (gG D cI cJ cZ cT lo b L xs) mX12_cores d 205 [(0, .ref y), (1, .int (iv x1)), (2, .int (iv (sz (Int.toNat x1)))), (3, .int (iv v9_3)), (4, .int (iv v154_4)), (5, .int (iv v205_5))] [] hp205 n 0 0 Po9 := by
                    refine lpS _ ?_
                    intro k205 ih205 cl205 hp205 ht205 v205_5 hf205 hm205
                    obtain ⟨hf205_0, hf205_1, hf205_2, ha205_3⟩ := hf205
                    refine r_iload (pc := 205) dX12_cores_205 rfl ?_
                    refine r_iload_n (pc := 207) dX12_cores_207 (i := 2) rfl rfl ?_
                    refine t_icmp_ge (pc := 208) (tgt := 261) dX12_cores_208 (by decide) (by omega) (by omega) (fun c208 => ?_) (fun c208 => ?_)
                    · refine r_iinc (pc := 261) (v := iv (v9_3 + 1)) (lv' := [(3, .int (iv (v9_3 + 1))), (0, .ref y), (1, .int (iv x1)), (2, .int (iv (sz (Int.toNat x1)))), (4, .int (iv v154_4)), (5, .int (iv v205_5))]) dX12_cores_261 rfl (iv_add _ _) (by decide) rfl ?_
                      refine r_goto (pc := 264) (tgt := 9) dX12_cores_264 (by decide) ?_
                      refine Rn.pick (lv' := [(0, .ref y), (1, .int (iv x1)), (2, .int (iv (sz (Int.toNat x1)))), (3, .int (iv (v9_3 + 1)))]) [1, 2, 3, 0] rfl ?_
                      exact ih9 (Int.toNat (65536 - (v9_3 + 1))) (by omega) cl205 ie42 _ ht205 (v9_3 + 1) ⟨by omega, by omega, by omega, by (first | assumption | exact cs_0 h0c | exact cu_end (by assumption) (by omega))⟩ (by omega)
                    · refine r_aload_n (pc := 211) dX12_cores_211 (i := 0) rfl rfl ?_
                      refine t_getE (pc := 212) (.ref (y + 21)) ht205 (rd_of RX_y) fX12_72 dX12_cores_212 rfl ?_
                      refine r_iload (pc := 215) dX12_cores_215 rfl ?_
                      refine r_iload_n (pc := 217) dX12_cores_217 (i := 3) rfl rfl ?_
                      refine r_iload (pc := 218) dX12_cores_218 rfl ?_
                      have hq220_5 := shr_le (Int.toNat v9_3) (Int.toNat v205_5)
                      refine r_ishr (pc := 220) (v := iv ((Int.toNat v9_3 >>> Int.toNat v205_5 : Nat) : Int)) dX12_cores_220 (shr_e (by omega) (by omega)) ?_
                      refine r_iconst (pc := 221) (v := iv 1) dX12_cores_221 (by decide) ?_
                      refine r_iand (pc := 222) (v := iv (((Int.toNat v9_3 >>> Int.toNat v205_5 : Nat) : Int) % 2)) dX12_cores_222 (and1_e _ (by omega)) ?_
                      have mb222 := @Me_bit v9_3 v205_5
                      refine r_iconst (pc := 223) (v := iv 1) dX12_cores_223 (by decide) ?_
                      refine t_icmp_ne (pc := 224) (tgt := 247) dX12_cores_224 (by decide) (by omega) (by omega) (fun c224 => ?_) (fun c224 => ?_)
                      · have nm224 : ¬ Me v9_3 (Int.toNat v205_5) := fun h9 => absurd (Me_bit.mpr h9) (by omega)
                        refine r_aload_n (pc := 247) dX12_cores_247 (i := 0) rfl rfl ?_
                        refine t_getE (pc := 248) (.ref (y + 21)) ht205 (rd_of RX_y) fX12_72 dX12_cores_248 rfl ?_
                        refine r_iload (pc := 251) dX12_cores_251 rfl ?_
                        refine t_laldX (pc := 253) (t0 := 1) ht205 (rd_of RX_column) dX12_cores_253 rfl (by decide) (by omega) ?_
                        refine t_lastX (pc := 254) (t0 := 1) ht205 RX_column dX12_cores_254 rfl (by decide) (by omega) (fun hp6 ht7 => ?_)
                        have ht8 := RXw_cl ht7
                        refine r_iinc (pc := 255) (v := iv (v205_5 + 1)) (lv' := [(5, .int (iv (v205_5 + 1))), (0, .ref y), (1, .int (iv x1)), (2, .int (iv (sz (Int.toNat x1)))), (3, .int (iv v9_3)), (4, .int (iv v154_4))]) dX12_cores_255 rfl (iv_add _ _) (by decide) rfl ?_
                        refine r_goto (pc := 258) (tgt := 205) dX12_cores_258 (by decide) ?_
                        refine Rn.pick (lv' := [(0, .ref y), (1, .int (iv x1)), (2, .int (iv (sz (Int.toNat x1)))), (3, .int (iv v9_3)), (4, .int (iv v154_4)), (5, .int (iv (v205_5 + 1)))]) [1, 2, 3, 4, 5, 0] rfl ?_
                        exact ih205 (Int.toNat (16 - (v205_5 + 1))) (by omega) (fuj cl205 (Int.toNat v205_5) (cl205 (Int.toNat v205_5))) _ ht8 (v205_5 + 1) ⟨by omega, by omega, by omega, by (first | exact cu_0 (by assumption) | exact cu_no (l := v154_4) (by assumption) (by omega) (Or.inl nm224) | exact cu_no (by assumption) (by omega) (Or.inr ⟨hls.2.1, by omega⟩) | exact cu_up (by assumption) (by omega) (by omega) hl9 pm224 (by omega) hls.1 hls.2.1)⟩ (by omega)
                      · have pm224 : Me v9_3 (Int.toNat v205_5) := Me_bit.mp (by omega)
                        refine r_iload (pc := 227) dX12_cores_227 rfl ?_
                        refine r_i2l (pc := 229) (v := (iv v154_4).toInt64) dX12_cores_229 rfl ?_
                        refine r_aload_n (pc := 230) dX12_cores_230 (i := 0) rfl rfl ?_
                        refine t_getE (pc := 231) (.ref (y + 21)) ht205 (rd_of RX_y) fX12_72 dX12_cores_231 rfl ?_
                        refine r_iload (pc := 234) dX12_cores_234 rfl ?_
                        refine t_laldX (pc := 236) (t0 := 1) ht205 (rd_of RX_column) dX12_cores_236 rfl (by decide) (by omega) ?_
                        refine r_lcmp (pc := 237) dX12_cores_237 ?_
                        refine t_lif_le (pc := 238) (tgt := 247) dX12_cores_238 (by decide) (fun c238 => ?_) (fun c238 => ?_)
                        · refine r_aload_n (pc := 247) dX12_cores_247 (i := 0) rfl rfl ?_
                          refine t_getE (pc := 248) (.ref (y + 21)) ht205 (rd_of RX_y) fX12_72 dX12_cores_248 rfl ?_
                          refine r_iload (pc := 251) dX12_cores_251 rfl ?_
                          refine t_laldX (pc := 253) (t0 := 1) ht205 (rd_of RX_column) dX12_cores_253 rfl (by decide) (by omega) ?_
                          refine t_lastX (pc := 254) (t0 := 1) ht205 RX_column dX12_cores_254 rfl (by decide) (by omega) (fun hp9 ht10 => ?_)
                          have ht11 := RXw_cl ht10
                          refine r_iinc (pc := 255) (v := iv (v205_5 + 1)) (lv' := [(5, .int (iv (v205_5 + 1))), (0, .ref y), (1, .int (iv x1)), (2, .int (iv (sz (Int.toNat x1)))), (3, .int (iv v9_3)), (4, .int (iv v154_4))]) dX12_cores_255 rfl (iv_add _ _) (by decide) rfl ?_
                          refine r_goto (pc := 258) (tgt := 205) dX12_cores_258 (by decide) ?_
                          refine Rn.pick (lv' := [(0, .ref y), (1, .int (iv x1)), (2, .int (iv (sz (Int.toNat x1)))), (3, .int (iv v9_3)), (4, .int (iv v154_4)), (5, .int (iv (v205_5 + 1)))]) [1, 2, 3, 4, 5, 0] rfl ?_
                          exact ih205 (Int.toNat (16 - (v205_5 + 1))) (by omega) (fuj cl205 (Int.toNat v205_5) (cl205 (Int.toNat v205_5))) _ ht11 (v205_5 + 1) ⟨by omega, by omega, by omega, by (first | exact cu_0 (by assumption) | exact cu_no (l := v154_4) (by assumption) (by omega) (Or.inl nm224) | exact cu_no (by assumption) (by omega) (Or.inr ⟨hls.2.1, by omega⟩) | exact cu_up (by assumption) (by omega) (by omega) hl9 pm224 (by omega) hls.1 hls.2.1)⟩ (by omega)
                        · refine r_iload (pc := 241) dX12_cores_241 rfl ?_
                          refine r_i2l (pc := 243) (v := (iv v154_4).toInt64) dX12_cores_243 rfl ?_
                          refine r_goto (pc := 244) (tgt := 254) dX12_cores_244 (by decide) ?_
                          refine t_lastX (pc := 254) (t0 := 1) ht205 RX_column dX12_cores_254 rfl (by decide) (by omega) (fun hp12 ht13 => ?_)
                          have ht14 := RXw_cl ht13
                          refine r_iinc (pc := 255) (v := iv (v205_5 + 1)) (lv' := [(5, .int (iv (v205_5 + 1))), (0, .ref y), (1, .int (iv x1)), (2, .int (iv (sz (Int.toNat x1)))), (3, .int (iv v9_3)), (4, .int (iv v154_4))]) dX12_cores_255 rfl (iv_add _ _) (by decide) rfl ?_
                          refine r_goto (pc := 258) (tgt := 205) dX12_cores_258 (by decide) ?_
                          refine Rn.pick (lv' := [(0, .ref y), (1, .int (iv x1)), (2, .int (iv (sz (Int.toNat x1)))), (3, .int (iv v9_3)), (4, .int (iv v154_4)), (5, .int (iv (v205_5 + 1)))]) [1, 2, 3, 4, 5, 0] rfl ?_
                          exact ih205 (Int.toNat (16 - (v205_5 + 1))) (by omega) (fuj cl205 (Int.toNat v205_5) ((iv v154_4).toInt64)) _ ht14 (v205_5 + 1) ⟨by omega, by omega, by omega, by (first | exact cu_0 (by assumption) | exact cu_no (l := v154_4) (by assumption) (by omega) (Or.inl nm224) | exact cu_no (by assumption) (by omega) (Or.inr ⟨hls.2.1, by omega⟩) | exact cu_up (by assumption) (by omega) (by omega) hl9 pm224 (by omega) hls.1 hls.2.1)⟩ (by omega)
                  refine Rn.pick (lv' := [(0, .ref y), (1, .int (iv x1)), (2, .int (iv (sz (Int.toNat x1)))), (3, .int (iv v9_3)), (4, .int (iv v154_4)), (5, .int (iv 0))]) [1, 2, 3, 4, 5, 0] rfl ?_
                  exact B205 (Int.toNat (16 - 0)) cl9 _ ht154 0 ⟨by omega, by omega, by omega, by (first | exact cu_0 (by assumption) | exact cu_no (l := v154_4) (by assumption) (by omega) (Or.inl nm224) | exact cu_no (by assumption) (by omega) (Or.inr ⟨hls.2.1, by omega⟩) | exact cu_up (by assumption) (by omega) (by omega) hl9 pm224 (by omega) hls.1 hls.2.1)⟩ (by omega)
                · refine r_iload_n (pc := 160) dX12_cores_160 (i := 3) rfl rfl ?_
                  refine r_iload (pc := 161) dX12_cores_161 rfl ?_
                  have hq163_15 := shr_le (Int.toNat v9_3) (Int.toNat v154_5)
                  refine r_ishr (pc := 163) (v := iv ((Int.toNat v9_3 >>> Int.toNat v154_5 : Nat) : Int)) dX12_cores_163 (shr_e (by omega) (by omega)) ?_
                  refine r_iconst (pc := 164) (v := iv 1) dX12_cores_164 (by decide) ?_
                  refine r_iand (pc := 165) (v := iv (((Int.toNat v9_3 >>> Int.toNat v154_5 : Nat) : Int) % 2)) dX12_cores_165 (and1_e _ (by omega)) ?_
                  have mb165 := @Me_bit v9_3 v154_5
                  refine r_iconst (pc := 166) (v := iv 1) dX12_cores_166 (by decide) ?_
                  refine t_icmp_ne (pc := 167) (tgt := 192) dX12_cores_167 (by decide) (by omega) (by omega) (fun c167 => ?_) (fun c167 => ?_)
                  · have nm167 : ¬ Me v9_3 (Int.toNat v154_5) := fun h9 => absurd (Me_bit.mpr h9) (by omega)
                    refine r_iload (pc := 192) dX12_cores_192 rfl ?_
                    refine r_istore (pc := 194) (lv' := [(4, .int (iv v154_4)), (0, .ref y), (1, .int (iv x1)), (2, .int (iv (sz (Int.toNat x1)))), (3, .int (iv v9_3)), (5, .int (iv v154_5))]) dX12_cores_194 (by decide) rfl ?_
                    refine r_iinc (pc := 196) (v := iv (v154_5 + 1)) (lv' := [(5, .int (iv (v154_5 + 1))), (4, .int (iv v154_4)), (0, .ref y), (1, .int (iv x1)), (2, .int (iv (sz (Int.toNat x1)))), (3, .int (iv v9_3))]) dX12_cores_196 rfl (iv_add _ _) (by decide) rfl ?_
                    refine r_goto (pc := 199) (tgt := 154) dX12_cores_199 (by decide) ?_
                    refine Rn.pick (lv' := [(0, .ref y), (1, .int (iv x1)), (2, .int (iv (sz (Int.toNat x1)))), (3, .int (iv v9_3)), (4, .int (iv v154_4)), (5, .int (iv (v154_5 + 1)))]) [2, 3, 4, 5, 1, 0] rfl ?_
                    exact ih154 (Int.toNat (16 - (v154_5 + 1))) (by omega) _ ht154 v154_4 (v154_5 + 1) ⟨by omega, by omega, by omega, by omega, by omega, by (first | exact ls_0 _ _ | exact ls_no (by assumption) (by omega) (Or.inl nm167) | exact ls_no (by assumption) (by omega) (Or.inr (by omega)) | exact ls_up (by assumption) (by omega) pm167 (by omega))⟩ (by omega)
                  · have pm167 : Me v9_3 (Int.toNat v154_5) := Me_bit.mp (by omega)
                    refine r_aload_n (pc := 170) dX12_cores_170 (i := 0) rfl rfl ?_
                    refine t_getE (pc := 171) (.ref (y + 23)) ht154 (rd_of RX_y) fX12_78 dX12_cores_171 rfl ?_
                    refine r_iload (pc := 174) dX12_cores_174 rfl ?_
                    refine t_ialdX (pc := 176) (t0 := 0) ht154 (rd_of RX_inside) dX12_cores_176 rfl (by decide) (by omega) (fun b16 => ?_)
                    refine r_iload (pc := 177) dX12_cores_177 rfl ?_
                    refine t_icmp_ge (pc := 179) (tgt := 192) dX12_cores_179 (by decide) (by omega) (by omega) (fun c179 => ?_) (fun c179 => ?_)
                    · refine r_iload (pc := 192) dX12_cores_192 rfl ?_
                      refine r_istore (pc := 194) (lv' := [(4, .int (iv v154_4)), (0, .ref y), (1, .int (iv x1)), (2, .int (iv (sz (Int.toNat x1)))), (3, .int (iv v9_3)), (5, .int (iv v154_5))]) dX12_cores_194 (by decide) rfl ?_
                      refine r_iinc (pc := 196) (v := iv (v154_5 + 1)) (lv' := [(5, .int (iv (v154_5 + 1))), (4, .int (iv v154_4)), (0, .ref y), (1, .int (iv x1)), (2, .int (iv (sz (Int.toNat x1)))), (3, .int (iv v9_3))]) dX12_cores_196 rfl (iv_add _ _) (by decide) rfl ?_
                      refine r_goto (pc := 199) (tgt := 154) dX12_cores_199 (by decide) ?_
                      refine Rn.pick (lv' := [(0, .ref y), (1, .int (iv x1)), (2, .int (iv (sz (Int.toNat x1)))), (3, .int (iv v9_3)), (4, .int (iv v154_4)), (5, .int (iv (v154_5 + 1)))]) [2, 3, 4, 5, 1, 0] rfl ?_
                      exact ih154 (Int.toNat (16 - (v154_5 + 1))) (by omega) _ ht154 v154_4 (v154_5 + 1) ⟨by omega, by omega, by omega, by omega, by omega, by (first | exact ls_0 _ _ | exact ls_no (by assumption) (by omega) (Or.inl nm167) | exact ls_no (by assumption) (by omega) (Or.inr (by omega)) | exact ls_up (by assumption) (by omega) pm167 (by omega))⟩ (by omega)
                    · refine r_aload_n (pc := 182) dX12_cores_182 (i := 0) rfl rfl ?_
                      refine t_getE (pc := 183) (.ref (y + 23)) ht154 (rd_of RX_y) fX12_78 dX12_cores_183 rfl ?_
                      refine r_iload (pc := 186) dX12_cores_186 rfl ?_
                      refine t_ialdX (pc := 188) (t0 := 0) ht154 (rd_of RX_inside) dX12_cores_188 rfl (by decide) (by omega) (fun b17 => ?_)
                      refine r_goto (pc := 189) (tgt := 194) dX12_cores_189 (by decide) ?_
                      refine r_istore (pc := 194) (lv' := [(4, .int (iv (ie42 (Int.toNat v154_5)))), (0, .ref y), (1, .int (iv x1)), (2, .int (iv (sz (Int.toNat x1)))), (3, .int (iv v9_3)), (5, .int (iv v154_5))]) dX12_cores_194 (by decide) rfl ?_
                      refine r_iinc (pc := 196) (v := iv (v154_5 + 1)) (lv' := [(5, .int (iv (v154_5 + 1))), (4, .int (iv (ie42 (Int.toNat v154_5)))), (0, .ref y), (1, .int (iv x1)), (2, .int (iv (sz (Int.toNat x1)))), (3, .int (iv v9_3))]) dX12_cores_196 rfl (iv_add _ _) (by decide) rfl ?_
                      refine r_goto (pc := 199) (tgt := 154) dX12_cores_199 (by decide) ?_
                      refine Rn.pick (lv' := [(0, .ref y), (1, .int (iv x1)), (2, .int (iv (sz (Int.toNat x1)))), (3, .int (iv v9_3)), (4, .int (iv (ie42 (Int.toNat v154_5)))), (5, .int (iv (v154_5 + 1)))]) [2, 3, 4, 5, 1, 0] rfl ?_
                      exact ih154 (Int.toNat (16 - (v154_5 + 1))) (by omega) _ ht154 (ie42 (Int.toNat v154_5)) (v154_5 + 1) ⟨by omega, by omega, by omega, by omega, by omega, by (first | exact ls_0 _ _ | exact ls_no (by assumption) (by omega) (Or.inl nm167) | exact ls_no (by assumption) (by omega) (Or.inr (by omega)) | exact ls_up (by assumption) (by omega) pm167 (by omega))⟩ (by omega)
              refine Rn.pick (lv' := [(0, .ref y), (1, .int (iv x1)), (2, .int (iv (sz (Int.toNat x1)))), (3, .int (iv v9_3)), (4, .int (iv 1000)), (5, .int (iv 0))]) [2, 3, 4, 5, 1, 0] rfl ?_
              exact B154 (Int.toNat (16 - 0)) _ ht42 1000 0 ⟨by omega, by omega, by omega, by omega, by omega, by (first | exact ls_0 _ _ | exact ls_no (by assumption) (by omega) (Or.inl nm167) | exact ls_no (by assumption) (by omega) (Or.inr (by omega)) | exact ls_up (by assumption) (by omega) pm167 (by omega))⟩ (by omega)
            · refine r_iload_n (pc := 53) dX12_cores_53 (i := 1) rfl rfl ?_
              refine r_iload (pc := 54) dX12_cores_54 rfl ?_
              refine t_callSI (pc := 56) (as := [.int (iv x1), .int (iv v42_4)]) (st := []) kX12_157 dX12_cores_56 (t_X12_at1x (d := d - 1) (x1 := x1) (x2 := v42_4) (by omega)  ht42 (by omega) (by omega)) rfl (by omega) (Nat.le_of_ble_eq_true rfl) rfl (fun hp18 y20 ht19 by20 => ?_)
              have ey20 : y20 = 60 * x1 + v42_4 := by20
              subst ey20
              refine r_istore (pc := 59) (lv' := [(5, .int (iv (60 * x1 + v42_4))), (0, .ref y), (1, .int (iv x1)), (2, .int (iv (sz (Int.toNat x1)))), (3, .int (iv v9_3)), (4, .int (iv v42_4))]) dX12_cores_59 (by decide) rfl ?_
              refine r_aload_n (pc := 61) dX12_cores_61 (i := 0) rfl rfl ?_
              refine t_getE (pc := 62) (.ref (y + 5)) ht19 (rd_of RX_y) fX12_23 dX12_cores_62 rfl ?_
              refine r_iload (pc := 65) dX12_cores_65 rfl ?_
              refine t_ialdX (pc := 67) (t0 := 0) ht19 (rd_of RX_from) dX12_cores_67 rfl (by decide) (by omega) (fun b21 => ?_)
              have rb21 := (show Rfx 7260 0 15 fr by assumption) (Int.toNat (60 * x1 + v42_4)) (by omega)
              refine r_aload_n (pc := 68) dX12_cores_68 (i := 0) rfl rfl ?_
              refine t_getE (pc := 69) (.ref (y + 6)) ht19 (rd_of RX_y) fX12_26 dX12_cores_69 rfl ?_
              refine r_iload (pc := 72) dX12_cores_72 rfl ?_
              refine t_ialdX (pc := 74) (t0 := 0) ht19 (rd_of RX_to) dX12_cores_74 rfl (by decide) (by omega) (fun b22 => ?_)
              have rb22 := (show Rfx 7260 0 15 tt by assumption) (Int.toNat (60 * x1 + v42_4)) (by omega)
              refine t_icmp_eq (pc := 75) (tgt := 140) dX12_cores_75 (by decide) (by omega) (by omega) (fun c75 => ?_) (fun c75 => ?_)
              · refine r_iinc (pc := 140) (v := iv (v42_4 + 1)) (lv' := [(4, .int (iv (v42_4 + 1))), (5, .int (iv (60 * x1 + v42_4))), (0, .ref y), (1, .int (iv x1)), (2, .int (iv (sz (Int.toNat x1)))), (3, .int (iv v9_3))]) dX12_cores_140 rfl (iv_add _ _) (by decide) rfl ?_
                refine r_goto (pc := 143) (tgt := 42) dX12_cores_143 (by decide) ?_
                refine Rn.pick (lv' := [(0, .ref y), (1, .int (iv x1)), (2, .int (iv (sz (Int.toNat x1)))), (3, .int (iv v9_3)), (4, .int (iv (v42_4 + 1)))]) [2, 3, 4, 5, 0] rfl ?_
                exact ih42 (Int.toNat (60 - (v42_4 + 1))) (by omega) ie42 _ ht19 (v42_4 + 1) ⟨by omega, by omega, by omega, by (first | exact in_0 (by assumption) (by omega) | assumption | exact in_no (by assumption) (by omega) (by rw [← sh_at fr (60 * x1) (v := v42_4) (by omega), ← sh_at tt (60 * x1) (v := v42_4) (by omega)]; intro h9; first | exact h9.1 (by omega) | exact nm90 h9.2.1 | exact nm105 h9.2.2))⟩ (by omega)
              · refine r_iload_n (pc := 78) dX12_cores_78 (i := 3) rfl rfl ?_
                refine r_aload_n (pc := 79) dX12_cores_79 (i := 0) rfl rfl ?_
                refine t_getE (pc := 80) (.ref (y + 5)) ht19 (rd_of RX_y) fX12_23 dX12_cores_80 rfl ?_
                refine r_iload (pc := 83) dX12_cores_83 rfl ?_
                refine t_ialdX (pc := 85) (t0 := 0) ht19 (rd_of RX_from) dX12_cores_85 rfl (by decide) (by omega) (fun b23 => ?_)
                have rb23 := (show Rfx 7260 0 15 fr by assumption) (Int.toNat (60 * x1 + v42_4)) (by omega)
                have hq86_24 := shr_le (Int.toNat v9_3) (Int.toNat (fr (Int.toNat (60 * x1 + v42_4))))
                refine r_ishr (pc := 86) (v := iv ((Int.toNat v9_3 >>> Int.toNat (fr (Int.toNat (60 * x1 + v42_4))) : Nat) : Int)) dX12_cores_86 (shr_e (by omega) (by omega)) ?_
                refine r_iconst (pc := 87) (v := iv 1) dX12_cores_87 (by decide) ?_
                refine r_iand (pc := 88) (v := iv (((Int.toNat v9_3 >>> Int.toNat (fr (Int.toNat (60 * x1 + v42_4))) : Nat) : Int) % 2)) dX12_cores_88 (and1_e _ (by omega)) ?_
                have mb88 := @Me_bit v9_3 (fr (Int.toNat (60 * x1 + v42_4)))
                refine r_iconst (pc := 89) (v := iv 1) dX12_cores_89 (by decide) ?_
                refine t_icmp_ne (pc := 90) (tgt := 140) dX12_cores_90 (by decide) (by omega) (by omega) (fun c90 => ?_) (fun c90 => ?_)
                · have nm90 : ¬ Me v9_3 (Int.toNat (fr (Int.toNat (60 * x1 + v42_4)))) := fun h9 => absurd (Me_bit.mpr h9) (by omega)
                  refine r_iinc (pc := 140) (v := iv (v42_4 + 1)) (lv' := [(4, .int (iv (v42_4 + 1))), (5, .int (iv (60 * x1 + v42_4))), (0, .ref y), (1, .int (iv x1)), (2, .int (iv (sz (Int.toNat x1)))), (3, .int (iv v9_3))]) dX12_cores_140 rfl (iv_add _ _) (by decide) rfl ?_
                  refine r_goto (pc := 143) (tgt := 42) dX12_cores_143 (by decide) ?_
                  refine Rn.pick (lv' := [(0, .ref y), (1, .int (iv x1)), (2, .int (iv (sz (Int.toNat x1)))), (3, .int (iv v9_3)), (4, .int (iv (v42_4 + 1)))]) [2, 3, 4, 5, 0] rfl ?_
                  exact ih42 (Int.toNat (60 - (v42_4 + 1))) (by omega) ie42 _ ht19 (v42_4 + 1) ⟨by omega, by omega, by omega, by (first | exact in_0 (by assumption) (by omega) | assumption | exact in_no (by assumption) (by omega) (by rw [← sh_at fr (60 * x1) (v := v42_4) (by omega), ← sh_at tt (60 * x1) (v := v42_4) (by omega)]; intro h9; first | exact h9.1 (by omega) | exact nm90 h9.2.1 | exact nm105 h9.2.2))⟩ (by omega)
                · have pm90 : Me v9_3 (Int.toNat (fr (Int.toNat (60 * x1 + v42_4)))) := Me_bit.mp (by omega)
                  refine r_iload_n (pc := 93) dX12_cores_93 (i := 3) rfl rfl ?_
                  refine r_aload_n (pc := 94) dX12_cores_94 (i := 0) rfl rfl ?_
                  refine t_getE (pc := 95) (.ref (y + 6)) ht19 (rd_of RX_y) fX12_26 dX12_cores_95 rfl ?_
                  refine r_iload (pc := 98) dX12_cores_98 rfl ?_
                  refine t_ialdX (pc := 100) (t0 := 0) ht19 (rd_of RX_to) dX12_cores_100 rfl (by decide) (by omega) (fun b25 => ?_)
                  have rb25 := (show Rfx 7260 0 15 tt by assumption) (Int.toNat (60 * x1 + v42_4)) (by omega)
                  have hq101_26 := shr_le (Int.toNat v9_3) (Int.toNat (tt (Int.toNat (60 * x1 + v42_4))))
                  refine r_ishr (pc := 101) (v := iv ((Int.toNat v9_3 >>> Int.toNat (tt (Int.toNat (60 * x1 + v42_4))) : Nat) : Int)) dX12_cores_101 (shr_e (by omega) (by omega)) ?_
                  refine r_iconst (pc := 102) (v := iv 1) dX12_cores_102 (by decide) ?_
                  refine r_iand (pc := 103) (v := iv (((Int.toNat v9_3 >>> Int.toNat (tt (Int.toNat (60 * x1 + v42_4))) : Nat) : Int) % 2)) dX12_cores_103 (and1_e _ (by omega)) ?_
                  have mb103 := @Me_bit v9_3 (tt (Int.toNat (60 * x1 + v42_4)))
                  refine r_iconst (pc := 104) (v := iv 1) dX12_cores_104 (by decide) ?_
                  refine t_icmp_ne (pc := 105) (tgt := 140) dX12_cores_105 (by decide) (by omega) (by omega) (fun c105 => ?_) (fun c105 => ?_)
                  · have nm105 : ¬ Me v9_3 (Int.toNat (tt (Int.toNat (60 * x1 + v42_4)))) := fun h9 => absurd (Me_bit.mpr h9) (by omega)
                    refine r_iinc (pc := 140) (v := iv (v42_4 + 1)) (lv' := [(4, .int (iv (v42_4 + 1))), (5, .int (iv (60 * x1 + v42_4))), (0, .ref y), (1, .int (iv x1)), (2, .int (iv (sz (Int.toNat x1)))), (3, .int (iv v9_3))]) dX12_cores_140 rfl (iv_add _ _) (by decide) rfl ?_
                    refine r_goto (pc := 143) (tgt := 42) dX12_cores_143 (by decide) ?_
                    refine Rn.pick (lv' := [(0, .ref y), (1, .int (iv x1)), (2, .int (iv (sz (Int.toNat x1)))), (3, .int (iv v9_3)), (4, .int (iv (v42_4 + 1)))]) [2, 3, 4, 5, 0] rfl ?_
                    exact ih42 (Int.toNat (60 - (v42_4 + 1))) (by omega) ie42 _ ht19 (v42_4 + 1) ⟨by omega, by omega, by omega, by (first | exact in_0 (by assumption) (by omega) | assumption | exact in_no (by assumption) (by omega) (by rw [← sh_at fr (60 * x1) (v := v42_4) (by omega), ← sh_at tt (60 * x1) (v := v42_4) (by omega)]; intro h9; first | exact h9.1 (by omega) | exact nm90 h9.2.1 | exact nm105 h9.2.2))⟩ (by omega)
                  · have pm105 : Me v9_3 (Int.toNat (tt (Int.toNat (60 * x1 + v42_4)))) := Me_bit.mp (by omega)
                    refine r_aload_n (pc := 108) dX12_cores_108 (i := 0) rfl rfl ?_
                    refine t_getE (pc := 109) (.ref (y + 23)) ht19 (rd_of RX_y) fX12_78 dX12_cores_109 rfl ?_
                    refine r_aload_n (pc := 112) dX12_cores_112 (i := 0) rfl rfl ?_
                    refine t_getE (pc := 113) (.ref (y + 5)) ht19 (rd_of RX_y) fX12_23 dX12_cores_113 rfl ?_
                    refine r_iload (pc := 116) dX12_cores_116 rfl ?_
                    refine t_ialdX (pc := 118) (t0 := 0) ht19 (rd_of RX_from) dX12_cores_118 rfl (by decide) (by omega) (fun b27 => ?_)
                    have rb27 := (show Rfx 7260 0 15 fr by assumption) (Int.toNat (60 * x1 + v42_4)) (by omega)
                    refine r_dup2_11 (pc := 119) dX12_cores_119 rfl rfl ?_
                    refine t_ialdX (pc := 120) (t0 := 0) ht19 (rd_of RX_inside) dX12_cores_120 rfl (by decide) (by omega) (fun b28 => ?_)
                    have hen42 := hEn v42_4 (by omega) (by omega)
                    have hbd120 := in_bd (by assumption : inP (sh fr (60 * x1)) (sh tt (60 * x1)) v9_3 (sz (Int.toNat x1)) ie42 (Int.toNat v42_4)) (u := Int.toNat (fr (Int.toNat (60 * x1 + v42_4)))) (by omega) (by omega)
                    refine r_iconst (pc := 121) (v := iv 1) dX12_cores_121 (by decide) ?_
                    refine r_iadd (pc := 122) (v := iv ((ie42 (Int.toNat (fr (Int.toNat (60 * x1 + v42_4))))) + 1)) dX12_cores_122 (iv_add _ _) ?_
                    refine t_iastX (pc := 123) (t0 := 0) ht19 RX_inside dX12_cores_123 rfl (by decide) (by omega) (by omega) (fun hp29 ht30 => ?_)
                    have ht31 := RXw_ie ht30
                    refine r_aload_n (pc := 124) dX12_cores_124 (i := 0) rfl rfl ?_
                    refine t_getE (pc := 125) (.ref (y + 23)) ht31 (rd_of RX_y) fX12_78 dX12_cores_125 rfl ?_
                    refine r_aload_n (pc := 128) dX12_cores_128 (i := 0) rfl rfl ?_
                    refine t_getE (pc := 129) (.ref (y + 6)) ht31 (rd_of RX_y) fX12_26 dX12_cores_129 rfl ?_
                    refine r_iload (pc := 132) dX12_cores_132 rfl ?_
                    refine t_ialdX (pc := 134) (t0 := 0) ht31 (rd_of RX_to) dX12_cores_134 rfl (by decide) (by omega) (fun b32 => ?_)
                    have rb32 := (show Rfx 7260 0 15 tt by assumption) (Int.toNat (60 * x1 + v42_4)) (by omega)
                    refine r_dup2_11 (pc := 135) dX12_cores_135 rfl rfl ?_
                    refine t_ialdX (pc := 136) (t0 := 0) ht31 (rd_of RX_inside) dX12_cores_136 rfl (by decide) (by omega) (fun b33 => ?_)
                    have hbd136 : 0 ≤ (fup ie42 (Int.toNat (fr (Int.toNat (60 * x1 + v42_4)))) ((ie42 (Int.toNat (fr (Int.toNat (60 * x1 + v42_4))))) + 1)) (Int.toNat (tt (Int.toNat (60 * x1 + v42_4)))) ∧ (fup ie42 (Int.toNat (fr (Int.toNat (60 * x1 + v42_4)))) ((ie42 (Int.toNat (fr (Int.toNat (60 * x1 + v42_4))))) + 1)) (Int.toNat (tt (Int.toNat (60 * x1 + v42_4)))) ≤ 120 := in_bd2 (by assumption : inP (sh fr (60 * x1)) (sh tt (60 * x1)) v9_3 (sz (Int.toNat x1)) ie42 (Int.toNat v42_4)) (by omega) (by omega) (by omega)
                    refine r_iconst (pc := 137) (v := iv 1) dX12_cores_137 (by decide) ?_
                    refine r_iadd (pc := 138) (v := iv (((fup ie42 (Int.toNat (fr (Int.toNat (60 * x1 + v42_4)))) ((ie42 (Int.toNat (fr (Int.toNat (60 * x1 + v42_4))))) + 1)) (Int.toNat (tt (Int.toNat (60 * x1 + v42_4))))) + 1)) dX12_cores_138 (iv_add _ _) ?_
                    refine t_iastX (pc := 139) (t0 := 0) ht31 RX_inside dX12_cores_139 rfl (by decide) (by omega) (by omega) (fun hp34 ht35 => ?_)
                    have ht36 := RXw_ie ht35
                    have hin139 : inP (sh fr (60 * x1)) (sh tt (60 * x1)) v9_3 (sz (Int.toNat x1)) (fup (fup ie42 (Int.toNat (fr (Int.toNat (60 * x1 + v42_4)))) ((ie42 (Int.toNat (fr (Int.toNat (60 * x1 + v42_4))))) + 1)) (Int.toNat (tt (Int.toNat (60 * x1 + v42_4)))) (((fup ie42 (Int.toNat (fr (Int.toNat (60 * x1 + v42_4)))) ((ie42 (Int.toNat (fr (Int.toNat (60 * x1 + v42_4))))) + 1)) (Int.toNat (tt (Int.toNat (60 * x1 + v42_4))))) + 1)) (Int.toNat (v42_4 + 1)) := by
                      have h8 := in_up (F := (sh fr (60 * x1))) (T := (sh tt (60 * x1))) (k := v42_4) (by assumption) (by omega) (by rw [← sh_at fr (60 * x1) (v := v42_4) (by omega)]; omega) (by rw [← sh_at tt (60 * x1) (v := v42_4) (by omega)]; omega) (by rw [← sh_at fr (60 * x1) (v := v42_4) (by omega), ← sh_at tt (60 * x1) (v := v42_4) (by omega)]; omega) (by rw [← sh_at fr (60 * x1) (v := v42_4) (by omega)]; exact pm90) (by rw [← sh_at tt (60 * x1) (v := v42_4) (by omega)]; exact pm105)
                      rw [← sh_at fr (60 * x1) (v := v42_4) (by omega), ← sh_at tt (60 * x1) (v := v42_4) (by omega)] at h8
                      exact h8
                    refine r_iinc (pc := 140) (v := iv (v42_4 + 1)) (lv' := [(4, .int (iv (v42_4 + 1))), (5, .int (iv (60 * x1 + v42_4))), (0, .ref y), (1, .int (iv x1)), (2, .int (iv (sz (Int.toNat x1)))), (3, .int (iv v9_3))]) dX12_cores_140 rfl (iv_add _ _) (by decide) rfl ?_
                    refine r_goto (pc := 143) (tgt := 42) dX12_cores_143 (by decide) ?_
                    refine Rn.pick (lv' := [(0, .ref y), (1, .int (iv x1)), (2, .int (iv (sz (Int.toNat x1)))), (3, .int (iv v9_3)), (4, .int (iv (v42_4 + 1)))]) [2, 3, 4, 5, 0] rfl ?_
                    exact ih42 (Int.toNat (60 - (v42_4 + 1))) (by omega) (fup (fup ie42 (Int.toNat (fr (Int.toNat (60 * x1 + v42_4)))) ((ie42 (Int.toNat (fr (Int.toNat (60 * x1 + v42_4))))) + 1)) (Int.toNat (tt (Int.toNat (60 * x1 + v42_4)))) (((fup ie42 (Int.toNat (fr (Int.toNat (60 * x1 + v42_4)))) ((ie42 (Int.toNat (fr (Int.toNat (60 * x1 + v42_4))))) + 1)) (Int.toNat (tt (Int.toNat (60 * x1 + v42_4))))) + 1)) _ ht36 (v42_4 + 1) ⟨by omega, by omega, by omega, by (first | exact in_0 (by assumption) (by omega) | assumption | exact in_no (by assumption) (by omega) (by rw [← sh_at fr (60 * x1) (v := v42_4) (by omega), ← sh_at tt (60 * x1) (v := v42_4) (by omega)]; intro h9; first | exact h9.1 (by omega) | exact nm90 h9.2.1 | exact nm105 h9.2.2))⟩ (by omega)
          refine Rn.pick (lv' := [(0, .ref y), (1, .int (iv x1)), (2, .int (iv (sz (Int.toNat x1)))), (3, .int (iv v9_3)), (4, .int (iv 0))]) [1, 2, 3, 4, 0] rfl ?_
          exact B42 (Int.toNat (60 - 0)) ie19 _ ht19 0 ⟨by omega, by omega, by omega, by (first | exact in_0 (by assumption) (by omega) | assumption | exact in_no (by assumption) (by omega) (by rw [← sh_at fr (60 * x1) (v := v42_4) (by omega), ← sh_at tt (60 * x1) (v := v42_4) (by omega)]; intro h9; first | exact h9.1 (by omega) | exact nm90 h9.2.1 | exact nm105 h9.2.2))⟩ (by omega)
        · refine r_aload_n (pc := 25) dX12_cores_25 (i := 0) rfl rfl ?_
          refine t_getE (pc := 26) (.ref (y + 23)) ht19 (rd_of RX_y) fX12_78 dX12_cores_26 rfl ?_
          refine r_iload (pc := 29) dX12_cores_29 rfl ?_
          refine r_iconst (pc := 31) (v := iv 0) dX12_cores_31 (by decide) ?_
          refine t_iastX (pc := 32) (t0 := 0) ht19 RX_inside dX12_cores_32 rfl (by decide) (by omega) (by omega) (fun hp37 ht38 => ?_)
          have ht39 := RXw_ie ht38
          refine r_iinc (pc := 33) (v := iv (v19_4 + 1)) (lv' := [(4, .int (iv (v19_4 + 1))), (0, .ref y), (1, .int (iv x1)), (2, .int (iv (sz (Int.toNat x1)))), (3, .int (iv v9_3))]) dX12_cores_33 rfl (iv_add _ _) (by decide) rfl ?_
          refine r_goto (pc := 36) (tgt := 19) dX12_cores_36 (by decide) ?_
          refine Rn.pick (lv' := [(0, .ref y), (1, .int (iv x1)), (2, .int (iv (sz (Int.toNat x1)))), (3, .int (iv v9_3)), (4, .int (iv (v19_4 + 1)))]) [1, 2, 3, 4, 0] rfl ?_
          exact ih19 (Int.toNat (16 - (v19_4 + 1))) (by omega) (fup ie19 (Int.toNat v19_4) 0) _ ht39 (v19_4 + 1) ⟨by omega, by omega, by omega, by (first | (intro u hu; omega) | exact fup_c (by assumption) (by omega))⟩ (by omega)
      refine Rn.pick (lv' := [(0, .ref y), (1, .int (iv x1)), (2, .int (iv (sz (Int.toNat x1)))), (3, .int (iv v9_3)), (4, .int (iv 0))]) [1, 2, 3, 4, 0] rfl ?_
      exact B19 (Int.toNat (16 - 0)) ie9 _ ht9 0 ⟨by omega, by omega, by omega, by (first | (intro u hu; omega) | exact fup_c (by assumption) (by omega))⟩ (by omega)
  refine Rn.pick (lv' := [(0, .ref y), (1, .int (iv x1)), (2, .int (iv (sz (Int.toNat x1)))), (3, .int (iv 1))]) [2, 3, 1, 0] rfl ?_
  exact B9 (Int.toNat (65536 - 1)) cl ie _ ht 1 ⟨by omega, by omega, by omega, by (first | assumption | exact cs_0 h0c | exact cu_end (by assumption) (by omega))⟩ (by omega)
set_option maxHeartbeats 4000000 in
set_option maxRecDepth 100000 in
theorem x_X12_joinsOf {D : va_G} {cI cJ cZ cT : ClassId} {lo b L : Nat} {xs : Nat → Int32} {hp : MH} {n d : Nat} {Γ : TG} {y : Nat} {rf cn nm : Int} {so sz dr mn fr tt wt co : Nat → Int} {nu : Nat → Int64} {sa : Nat → Int} {wo : Nat → Int64} {ln : Nat → Int} {hw : Nat → Int64} {ro qi qc nf nt nw nc : Nat → Int} {cl nx : Nat → Int64} {ie be sd bl : Nat → Int} {bs wy ra rb : Nat → Int64} {lb bg os js ls : Nat → Int} {sp : Nat → Int64} {jw go : Nat → Int} {de : Nat → Int64} {yb ah im : Nat → Int} {x1 x2 : Int} {Po9 : Option Value → MH → Nat → Prop} (hd0 : 1 ≤ d) (hR_many : Rfx 121 0 60 mn) (hR_sizes : Rfx 121 0 16 sz) (hR_from : Rfx 7260 0 15 fr) (hR_to : Rfx 7260 0 15 tt) (hR_beside : Rfx 16 0 65535 be) (ht : Tw (RX Γ cI cJ cZ y rf cn nm so sz dr mn fr tt wt co nu sa wo ln hw ro qi qc nf nt nw nc cl nx ie be sd bl bs wy ra rb lb bg os js ls sp jw go de yb ah im) hp) (hx1 : 0 ≤ x1 ∧ x1 ≤ 120) (hx2 : (-1) ≤ x2 ∧ x2 ≤ 59) (hEn : enP fr tt mn sz x1) (hPo : ∀ r hp1 n1, (n1 = n ∧ ∃ (b1 : Nat → Int), Tw (RX Γ cI cJ cZ y rf cn nm so sz dr mn fr tt wt co nu sa wo ln hw ro qi qc nf nt nw nc cl nx ie b1 sd bl bs wy ra rb lb bg os js ls sp jw go de yb ah im) hp1 ∧ r = none ∧ (Rfx 16 0 65535 b1) ∧ (jbP b1 (Int.toNat (mn (Int.toNat x1))) (sh fr (60 * x1)) (sh tt (60 * x1)) (fun k => (k : Int) ≠ x2))) → Po9 r hp1 n1) : Mt (gG D cI cJ cZ cT lo b L xs) mX12_joinsOf d 0 0 [.ref y, .int (iv x1), .int (iv x2)] hp n Po9 := by
  refine Mt.of rfl (Nat.le_of_ble_eq_true rfl) ?_
  refine Rn.pick (lv' := [(0, .ref y), (1, .int (iv x1)), (2, .int (iv x2))]) [0, 1, 2] rfl ?_
  have rmn := hR_many (Int.toNat x1) (by omega)
  have rsz := hR_sizes (Int.toNat x1) (by omega)
  have hFT := enF hEn (by assumption) (by assumption) (by omega) (by omega)
  refine r_iconst (pc := 0) (v := iv 0) dX12_joinsOf_0 (by decide) ?_
  refine r_istore_n (pc := 1) (lv' := [(3, .int (iv 0)), (0, .ref y), (1, .int (iv x1)), (2, .int (iv x2))]) dX12_joinsOf_1 (i := 3) rfl (by decide) rfl ?_
  have B2 : ∀ k : Nat, ∀ be2 : Nat → Int, ∀ hp2 : MH, Tw (RX Γ cI cJ cZ y rf cn nm so sz dr mn fr tt wt co nu sa wo ln hw ro qi qc nf nt nw nc cl nx ie be2 sd bl bs wy ra rb lb bg os js ls sp jw go de yb ah im) hp2 → ∀  (v2_3 : Int), 0 ≤ v2_3 ∧ v2_3 ≤ 16 ∧ (Rfx 16 0 65535 be2) ∧ (v2_3 ≤ 16) ∧ (∀ u : Nat, (u : Int) < v2_3 → be2 u = 0) → 16 - v2_3 ≤ (k : Int) → Rn (gG D cI cJ cZ cT lo b L xs) mX12_joinsOf d 2 [(0, .ref y), (1, .int (iv x1)), (2, .int (iv x2)), (3, .int (iv v2_3))] [] hp2 n 0 0 Po9 := by
    refine lpS _ ?_
    intro k2 ih2 be2 hp2 ht2 v2_3 hf2 hm2
    obtain ⟨hf2_0, hf2_1, ha2_2, hf2_3, ha2_4⟩ := hf2
    refine r_iload_n (pc := 2) dX12_joinsOf_2 (i := 3) rfl rfl ?_
    refine r_bipush (pc := 3) (v := iv 16) dX12_joinsOf_3 (by decide) ?_
    refine t_icmp_ge (pc := 5) (tgt := 21) dX12_joinsOf_5 (by decide) (by omega) (by omega) (fun c5 => ?_) (fun c5 => ?_)
    · refine r_iconst (pc := 21) (v := iv 0) dX12_joinsOf_21 (by decide) ?_
      refine r_istore_n (pc := 22) (lv' := [(3, .int (iv 0)), (0, .ref y), (1, .int (iv x1)), (2, .int (iv x2))]) dX12_joinsOf_22 (i := 3) rfl (by decide) rfl ?_
      have B23 : ∀ k : Nat, ∀ be23 : Nat → Int, ∀ hp23 : MH, Tw (RX Γ cI cJ cZ y rf cn nm so sz dr mn fr tt wt co nu sa wo ln hw ro qi qc nf nt nw nc cl nx ie be23 sd bl bs wy ra rb lb bg os js ls sp jw go de yb ah im) hp23 → ∀  (v23_3 : Int), 0 ≤ v23_3 ∧ v23_3 ≤ 60 ∧ (Rfx 16 0 65535 be23) ∧ (v23_3 ≤ (mn (Int.toNat x1))) ∧ (jbP be23 (Int.toNat v23_3) (sh fr (60 * x1)) (sh tt (60 * x1)) (fun k => (k : Int) ≠ x2)) → 60 - v23_3 ≤ (k : Int) → Rn (gG D cI cJ cZ cT lo b L xs) mX12_joinsOf d 23 [(0, .ref y), (1, .int (iv x1)), (2, .int (iv x2)), (3, .int (iv v23_3))] [] hp23 n 0 0 Po9 := by
        refine lpS _ ?_
        intro k23 ih23 be23 hp23 ht23 v23_3 hf23 hm23
        obtain ⟨hf23_0, hf23_1, ha23_2, hf23_3, ha23_4⟩ := hf23
        refine r_iload_n (pc := 23) dX12_joinsOf_23 (i := 3) rfl rfl ?_
        refine r_aload_n (pc := 24) dX12_joinsOf_24 (i := 0) rfl rfl ?_
        refine t_getE (pc := 25) (.ref (y + 4)) ht23 (rd_of RX_y) fX12_20 dX12_joinsOf_25 rfl ?_
        refine r_iload_n (pc := 28) dX12_joinsOf_28 (i := 1) rfl rfl ?_
        refine t_ialdX (pc := 29) (t0 := 0) ht23 (rd_of RX_many) dX12_joinsOf_29 rfl (by decide) (by omega) (fun b1 => ?_)
        have rb1 := (show Rfx 121 0 60 mn by assumption) (Int.toNat x1) (by omega)
        refine t_icmp_ge (pc := 30) (tgt := 116) dX12_joinsOf_30 (by decide) (by omega) (by omega) (fun c30 => ?_) (fun c30 => ?_)
        · exact r_vret (pc := 116) dX12_joinsOf_116 rfl (hPo _ _ _ ⟨rfl, be23, ht23, rfl, (by assumption), (by (rw [← show v23_3 = (mn (Int.toNat x1)) by omega]; assumption))⟩)
        · refine r_iload_n (pc := 33) dX12_joinsOf_33 (i := 1) rfl rfl ?_
          refine r_iload_n (pc := 34) dX12_joinsOf_34 (i := 3) rfl rfl ?_
          refine t_callSI (pc := 35) (as := [.int (iv x1), .int (iv v23_3)]) (st := []) kX12_157 dX12_joinsOf_35 (t_X12_at1x (d := d - 1) (x1 := x1) (x2 := v23_3) (by omega)  ht23 (by omega) (by omega)) rfl (by omega) (Nat.le_of_ble_eq_true rfl) rfl (fun hp2 y4 ht3 by4 => ?_)
          have ey4 : y4 = 60 * x1 + v23_3 := by4
          subst ey4
          refine r_istore (pc := 38) (lv' := [(4, .int (iv (60 * x1 + v23_3))), (0, .ref y), (1, .int (iv x1)), (2, .int (iv x2)), (3, .int (iv v23_3))]) dX12_joinsOf_38 (by decide) rfl ?_
          refine r_iload_n (pc := 40) dX12_joinsOf_40 (i := 3) rfl rfl ?_
          refine r_iload_n (pc := 41) dX12_joinsOf_41 (i := 2) rfl rfl ?_
          refine t_icmp_eq (pc := 42) (tgt := 110) dX12_joinsOf_42 (by decide) (by omega) (by omega) (fun c42 => ?_) (fun c42 => ?_)
          · refine r_iinc (pc := 110) (v := iv (v23_3 + 1)) (lv' := [(3, .int (iv (v23_3 + 1))), (4, .int (iv (60 * x1 + v23_3))), (0, .ref y), (1, .int (iv x1)), (2, .int (iv x2))]) dX12_joinsOf_110 rfl (iv_add _ _) (by decide) rfl ?_
            refine r_goto (pc := 113) (tgt := 23) dX12_joinsOf_113 (by decide) ?_
            refine Rn.pick (lv' := [(0, .ref y), (1, .int (iv x1)), (2, .int (iv x2)), (3, .int (iv (v23_3 + 1)))]) [2, 3, 4, 0] rfl ?_
            exact ih23 (Int.toNat (60 - (v23_3 + 1))) (by omega) be23 _ ht3 (v23_3 + 1) ⟨by omega, by omega, by assumption, by omega, by (first | exact jb_0 (fun u hu => (by assumption : ∀ u : Nat, (u : Int) < v2_3 → be2 u = 0) u (by omega)) | assumption | exact jb_no (by assumption) (by omega) (fun h9 => by first | exact h9.1 (by omega) | (have h8 := h9.2; rw [← sh_at fr (60 * x1) (v := v23_3) (by omega), ← sh_at tt (60 * x1) (v := v23_3) (by omega)] at h8; omega)))⟩ (by omega)
          · refine r_aload_n (pc := 45) dX12_joinsOf_45 (i := 0) rfl rfl ?_
            refine t_getE (pc := 46) (.ref (y + 5)) ht3 (rd_of RX_y) fX12_23 dX12_joinsOf_46 rfl ?_
            refine r_iload (pc := 49) dX12_joinsOf_49 rfl ?_
            refine t_ialdX (pc := 51) (t0 := 0) ht3 (rd_of RX_from) dX12_joinsOf_51 rfl (by decide) (by omega) (fun b5 => ?_)
            have rb5 := (show Rfx 7260 0 15 fr by assumption) (Int.toNat (60 * x1 + v23_3)) (by omega)
            refine r_aload_n (pc := 52) dX12_joinsOf_52 (i := 0) rfl rfl ?_
            refine t_getE (pc := 53) (.ref (y + 6)) ht3 (rd_of RX_y) fX12_26 dX12_joinsOf_53 rfl ?_
            refine r_iload (pc := 56) dX12_joinsOf_56 rfl ?_
            refine t_ialdX (pc := 58) (t0 := 0) ht3 (rd_of RX_to) dX12_joinsOf_58 rfl (by decide) (by omega) (fun b6 => ?_)
            have rb6 := (show Rfx 7260 0 15 tt by assumption) (Int.toNat (60 * x1 + v23_3)) (by omega)
            refine t_icmp_eq (pc := 59) (tgt := 110) dX12_joinsOf_59 (by decide) (by omega) (by omega) (fun c59 => ?_) (fun c59 => ?_)
            · refine r_iinc (pc := 110) (v := iv (v23_3 + 1)) (lv' := [(3, .int (iv (v23_3 + 1))), (4, .int (iv (60 * x1 + v23_3))), (0, .ref y), (1, .int (iv x1)), (2, .int (iv x2))]) dX12_joinsOf_110 rfl (iv_add _ _) (by decide) rfl ?_
              refine r_goto (pc := 113) (tgt := 23) dX12_joinsOf_113 (by decide) ?_
              refine Rn.pick (lv' := [(0, .ref y), (1, .int (iv x1)), (2, .int (iv x2)), (3, .int (iv (v23_3 + 1)))]) [2, 3, 4, 0] rfl ?_
              exact ih23 (Int.toNat (60 - (v23_3 + 1))) (by omega) be23 _ ht3 (v23_3 + 1) ⟨by omega, by omega, by assumption, by omega, by (first | exact jb_0 (fun u hu => (by assumption : ∀ u : Nat, (u : Int) < v2_3 → be2 u = 0) u (by omega)) | assumption | exact jb_no (by assumption) (by omega) (fun h9 => by first | exact h9.1 (by omega) | (have h8 := h9.2; rw [← sh_at fr (60 * x1) (v := v23_3) (by omega), ← sh_at tt (60 * x1) (v := v23_3) (by omega)] at h8; omega)))⟩ (by omega)
            · refine r_aload_n (pc := 62) dX12_joinsOf_62 (i := 0) rfl rfl ?_
              refine t_getE (pc := 63) (.ref (y + 24)) ht3 (rd_of RX_y) fX12_81 dX12_joinsOf_63 rfl ?_
              refine r_aload_n (pc := 66) dX12_joinsOf_66 (i := 0) rfl rfl ?_
              refine t_getE (pc := 67) (.ref (y + 5)) ht3 (rd_of RX_y) fX12_23 dX12_joinsOf_67 rfl ?_
              refine r_iload (pc := 70) dX12_joinsOf_70 rfl ?_
              refine t_ialdX (pc := 72) (t0 := 0) ht3 (rd_of RX_from) dX12_joinsOf_72 rfl (by decide) (by omega) (fun b7 => ?_)
              have rb7 := (show Rfx 7260 0 15 fr by assumption) (Int.toNat (60 * x1 + v23_3)) (by omega)
              refine r_dup2_11 (pc := 73) dX12_joinsOf_73 rfl rfl ?_
              refine t_ialdX (pc := 74) (t0 := 0) ht3 (rd_of RX_beside) dX12_joinsOf_74 rfl (by decide) (by omega) (fun b8 => ?_)
              have rb8 := (show Rfx 16 0 65535 be23 by assumption) (Int.toNat (fr (Int.toNat (60 * x1 + v23_3)))) (by omega)
              refine r_iconst (pc := 75) (v := iv 1) dX12_joinsOf_75 (by decide) ?_
              refine r_aload_n (pc := 76) dX12_joinsOf_76 (i := 0) rfl rfl ?_
              refine t_getE (pc := 77) (.ref (y + 6)) ht3 (rd_of RX_y) fX12_26 dX12_joinsOf_77 rfl ?_
              refine r_iload (pc := 80) dX12_joinsOf_80 rfl ?_
              refine t_ialdX (pc := 82) (t0 := 0) ht3 (rd_of RX_to) dX12_joinsOf_82 rfl (by decide) (by omega) (fun b9 => ?_)
              have rb9 := (show Rfx 7260 0 15 tt by assumption) (Int.toNat (60 * x1 + v23_3)) (by omega)
              refine r_ishl (pc := 83) (v := iv ((2 ^ Int.toNat (tt (Int.toNat (60 * x1 + v23_3))) : Nat) : Int)) dX12_joinsOf_83 (shl_e (by omega)) ?_
              have mp83_10 : 1 ≤ 2 ^ Int.toNat (tt (Int.toNat (60 * x1 + v23_3))) := Nat.one_le_two_pow
              have mq83_11 : 2 ^ Int.toNat (tt (Int.toNat (60 * x1 + v23_3))) ≤ 2 ^ 15 := Nat.pow_le_pow_right (by omega) (by omega)
              have ms83 := Me_shl (Int.toNat (tt (Int.toNat (60 * x1 + v23_3))))
              obtain ⟨z12, hz12, bz12⟩ := or_2 16 (be23 (Int.toNat (fr (Int.toNat (60 * x1 + v23_3))))) ((2 ^ Int.toNat (tt (Int.toNat (60 * x1 + v23_3))) : Nat) : Int) (by omega) (by omega) (by decide)
              refine r_ior (pc := 84) (v := iv z12) dX12_joinsOf_84 hz12 ?_
              have mez12 := Me_or hz12 (by omega) (by omega) (by omega)
              refine t_iastX (pc := 85) (t0 := 0) ht3 RX_beside dX12_joinsOf_85 rfl (by decide) (by omega) (by omega) (fun hp13 ht14 => ?_)
              have ht15 := RXw_be ht14
              have hqht15 : Rfx 16 0 65535 (fup be23 (Int.toNat (fr (Int.toNat (60 * x1 + v23_3)))) z12) := Rfx_up (by assumption) (by omega)
              refine r_aload_n (pc := 86) dX12_joinsOf_86 (i := 0) rfl rfl ?_
              refine t_getE (pc := 87) (.ref (y + 24)) ht15 (rd_of RX_y) fX12_81 dX12_joinsOf_87 rfl ?_
              refine r_aload_n (pc := 90) dX12_joinsOf_90 (i := 0) rfl rfl ?_
              refine t_getE (pc := 91) (.ref (y + 6)) ht15 (rd_of RX_y) fX12_26 dX12_joinsOf_91 rfl ?_
              refine r_iload (pc := 94) dX12_joinsOf_94 rfl ?_
              refine t_ialdX (pc := 96) (t0 := 0) ht15 (rd_of RX_to) dX12_joinsOf_96 rfl (by decide) (by omega) (fun b16 => ?_)
              have rb16 := (show Rfx 7260 0 15 tt by assumption) (Int.toNat (60 * x1 + v23_3)) (by omega)
              refine r_dup2_11 (pc := 97) dX12_joinsOf_97 rfl rfl ?_
              refine t_ialdX (pc := 98) (t0 := 0) ht15 (rd_of RX_beside) dX12_joinsOf_98 rfl (by decide) (by omega) (fun b17 => ?_)
              have rb17 := (show Rfx 16 0 65535 (fup be23 (Int.toNat (fr (Int.toNat (60 * x1 + v23_3)))) z12) by assumption) (Int.toNat (tt (Int.toNat (60 * x1 + v23_3)))) (by omega)
              refine r_iconst (pc := 99) (v := iv 1) dX12_joinsOf_99 (by decide) ?_
              refine r_aload_n (pc := 100) dX12_joinsOf_100 (i := 0) rfl rfl ?_
              refine t_getE (pc := 101) (.ref (y + 5)) ht15 (rd_of RX_y) fX12_23 dX12_joinsOf_101 rfl ?_
              refine r_iload (pc := 104) dX12_joinsOf_104 rfl ?_
              refine t_ialdX (pc := 106) (t0 := 0) ht15 (rd_of RX_from) dX12_joinsOf_106 rfl (by decide) (by omega) (fun b18 => ?_)
              have rb18 := (show Rfx 7260 0 15 fr by assumption) (Int.toNat (60 * x1 + v23_3)) (by omega)
              refine r_ishl (pc := 107) (v := iv ((2 ^ Int.toNat (fr (Int.toNat (60 * x1 + v23_3))) : Nat) : Int)) dX12_joinsOf_107 (shl_e (by omega)) ?_
              have mp107_19 : 1 ≤ 2 ^ Int.toNat (fr (Int.toNat (60 * x1 + v23_3))) := Nat.one_le_two_pow
              have mq107_20 : 2 ^ Int.toNat (fr (Int.toNat (60 * x1 + v23_3))) ≤ 2 ^ 15 := Nat.pow_le_pow_right (by omega) (by omega)
              have ms107 := Me_shl (Int.toNat (fr (Int.toNat (60 * x1 + v23_3))))
              obtain ⟨z21, hz21, bz21⟩ := or_2 16 ((fup be23 (Int.toNat (fr (Int.toNat (60 * x1 + v23_3)))) z12) (Int.toNat (tt (Int.toNat (60 * x1 + v23_3))))) ((2 ^ Int.toNat (fr (Int.toNat (60 * x1 + v23_3))) : Nat) : Int) (by omega) (by omega) (by decide)
              refine r_ior (pc := 108) (v := iv z21) dX12_joinsOf_108 hz21 ?_
              have mez21 := Me_or hz21 (by omega) (by omega) (by omega)
              refine t_iastX (pc := 109) (t0 := 0) ht15 RX_beside dX12_joinsOf_109 rfl (by decide) (by omega) (by omega) (fun hp22 ht23 => ?_)
              have ht24 := RXw_be ht23
              have hqht24 : Rfx 16 0 65535 (fup (fup be23 (Int.toNat (fr (Int.toNat (60 * x1 + v23_3)))) z12) (Int.toNat (tt (Int.toNat (60 * x1 + v23_3)))) z21) := Rfx_up (by assumption) (by omega)
              have hjb109 : jbP (fup (fup be23 (Int.toNat (fr (Int.toNat (60 * x1 + v23_3)))) z12) (Int.toNat (tt (Int.toNat (60 * x1 + v23_3)))) z21) (Int.toNat (v23_3 + 1)) (sh fr (60 * x1)) (sh tt (60 * x1)) (fun k => (k : Int) ≠ x2) := jb_up (k := v23_3) (a := (fr (Int.toNat (60 * x1 + v23_3)))) (b := (tt (Int.toNat (60 * x1 + v23_3)))) (by assumption) (by omega) (sh_at fr (60 * x1) (v := v23_3) (by omega)) (sh_at tt (60 * x1) (v := v23_3) (by omega)) (by omega) (by omega) (by omega) (show ((Int.toNat v23_3 : Nat) : Int) ≠ x2 by omega) mez12 ms83 mez21 ms107
              refine r_iinc (pc := 110) (v := iv (v23_3 + 1)) (lv' := [(3, .int (iv (v23_3 + 1))), (4, .int (iv (60 * x1 + v23_3))), (0, .ref y), (1, .int (iv x1)), (2, .int (iv x2))]) dX12_joinsOf_110 rfl (iv_add _ _) (by decide) rfl ?_
              refine r_goto (pc := 113) (tgt := 23) dX12_joinsOf_113 (by decide) ?_
              refine Rn.pick (lv' := [(0, .ref y), (1, .int (iv x1)), (2, .int (iv x2)), (3, .int (iv (v23_3 + 1)))]) [2, 3, 4, 0] rfl ?_
              exact ih23 (Int.toNat (60 - (v23_3 + 1))) (by omega) (fup (fup be23 (Int.toNat (fr (Int.toNat (60 * x1 + v23_3)))) z12) (Int.toNat (tt (Int.toNat (60 * x1 + v23_3)))) z21) _ ht24 (v23_3 + 1) ⟨by omega, by omega, by assumption, by omega, by (first | exact jb_0 (fun u hu => (by assumption : ∀ u : Nat, (u : Int) < v2_3 → be2 u = 0) u (by omega)) | assumption | exact jb_no (by assumption) (by omega) (fun h9 => by first | exact h9.1 (by omega) | (have h8 := h9.2; rw [← sh_at fr (60 * x1) (v := v23_3) (by omega), ← sh_at tt (60 * x1) (v := v23_3) (by omega)] at h8; omega)))⟩ (by omega)
      refine Rn.pick (lv' := [(0, .ref y), (1, .int (iv x1)), (2, .int (iv x2)), (3, .int (iv 0))]) [1, 2, 3, 0] rfl ?_
      exact B23 (Int.toNat (60 - 0)) be2 _ ht2 0 ⟨by omega, by omega, by assumption, by omega, by (first | exact jb_0 (fun u hu => (by assumption : ∀ u : Nat, (u : Int) < v2_3 → be2 u = 0) u (by omega)) | assumption | exact jb_no (by assumption) (by omega) (fun h9 => by first | exact h9.1 (by omega) | (have h8 := h9.2; rw [← sh_at fr (60 * x1) (v := v23_3) (by omega), ← sh_at tt (60 * x1) (v := v23_3) (by omega)] at h8; omega)))⟩ (by omega)
    · refine r_aload_n (pc := 8) dX12_joinsOf_8 (i := 0) rfl rfl ?_
      refine t_getE (pc := 9) (.ref (y + 24)) ht2 (rd_of RX_y) fX12_81 dX12_joinsOf_9 rfl ?_
      refine r_iload_n (pc := 12) dX12_joinsOf_12 (i := 3) rfl rfl ?_
      refine r_iconst (pc := 13) (v := iv 0) dX12_joinsOf_13 (by decide) ?_
      refine t_iastX (pc := 14) (t0 := 0) ht2 RX_beside dX12_joinsOf_14 rfl (by decide) (by omega) (by omega) (fun hp25 ht26 => ?_)
      have ht27 := RXw_be ht26
      have hqht27 : Rfx 16 0 65535 (fup be2 (Int.toNat v2_3) 0) := Rfx_up (by assumption) (by omega)
      refine r_iinc (pc := 15) (v := iv (v2_3 + 1)) (lv' := [(3, .int (iv (v2_3 + 1))), (0, .ref y), (1, .int (iv x1)), (2, .int (iv x2))]) dX12_joinsOf_15 rfl (iv_add _ _) (by decide) rfl ?_
      refine r_goto (pc := 18) (tgt := 2) dX12_joinsOf_18 (by decide) ?_
      refine Rn.pick (lv' := [(0, .ref y), (1, .int (iv x1)), (2, .int (iv x2)), (3, .int (iv (v2_3 + 1)))]) [1, 2, 3, 0] rfl ?_
      exact ih2 (Int.toNat (16 - (v2_3 + 1))) (by omega) (fup be2 (Int.toNat v2_3) 0) _ ht27 (v2_3 + 1) ⟨by omega, by omega, by assumption, by omega, by (first | (intro u hu; omega) | exact fup_c (by assumption) (by omega))⟩ (by omega)
  refine Rn.pick (lv' := [(0, .ref y), (1, .int (iv x1)), (2, .int (iv x2)), (3, .int (iv 0))]) [1, 2, 3, 0] rfl ?_
  exact B2 (Int.toNat (16 - 0)) be _ ht 0 ⟨by omega, by omega, by assumption, by omega, by (first | (intro u hu; omega) | exact fup_c (by assumption) (by omega))⟩ (by omega)
set_option maxHeartbeats 4000000 in
set_option maxRecDepth 100000 in
theorem x_X12_withoutBridges {D : va_G} {cI cJ cZ cT : ClassId} {lo b L : Nat} {xs : Nat → Int32} {hp : MH} {n d : Nat} {Γ : TG} {y : Nat} {rf cn nm : Int} {so sz dr mn fr tt wt co : Nat → Int} {nu : Nat → Int64} {sa : Nat → Int} {wo : Nat → Int64} {ln : Nat → Int} {hw : Nat → Int64} {ro qi qc nf nt nw nc : Nat → Int} {cl nx : Nat → Int64} {ie be sd bl : Nat → Int} {bs wy ra rb : Nat → Int64} {lb bg os js ls : Nat → Int} {sp : Nat → Int64} {jw go : Nat → Int} {de : Nat → Int64} {yb ah im : Nat → Int} {x1 : Int} {Po9 : Option Value → MH → Nat → Prop} (hd0 : 1 ≤ d) (hR_many : Rfx 121 0 60 mn) (hR_sizes : Rfx 121 0 16 sz) (hR_from : Rfx 7260 0 15 fr) (hR_to : Rfx 7260 0 15 tt) (hR_beside : Rfx 16 0 65535 be) (hR_bridge : Rfx 60 0 1 bg) (ht : Tw (RX Γ cI cJ cZ y rf cn nm so sz dr mn fr tt wt co nu sa wo ln hw ro qi qc nf nt nw nc cl nx ie be sd bl bs wy ra rb lb bg os js ls sp jw go de yb ah im) hp) (hx1 : 0 ≤ x1 ∧ x1 ≤ 120) (hEn : enP fr tt mn sz x1) (hPo : ∀ r hp1 n1, (n1 = n ∧ ∃ (b1 : Nat → Int), Tw (RX Γ cI cJ cZ y rf cn nm so sz dr mn fr tt wt co nu sa wo ln hw ro qi qc nf nt nw nc cl nx ie b1 sd bl bs wy ra rb lb bg os js ls sp jw go de yb ah im) hp1 ∧ r = none ∧ (Rfx 16 0 65535 b1) ∧ (jbP b1 (Int.toNat (mn (Int.toNat x1))) (sh fr (60 * x1)) (sh tt (60 * x1)) (fun k => bg k = 0))) → Po9 r hp1 n1) : Mt (gG D cI cJ cZ cT lo b L xs) mX12_withoutBridges d 0 0 [.ref y, .int (iv x1)] hp n Po9 := by
  refine Mt.of rfl (Nat.le_of_ble_eq_true rfl) ?_
  refine Rn.pick (lv' := [(0, .ref y), (1, .int (iv x1))]) [0, 1] rfl ?_
  have rmn := hR_many (Int.toNat x1) (by omega)
  have rsz := hR_sizes (Int.toNat x1) (by omega)
  have hFT := enF hEn (by assumption) (by assumption) (by omega) (by omega)
  refine r_iconst (pc := 0) (v := iv 0) dX12_withoutBridges_0 (by decide) ?_
  refine r_istore_n (pc := 1) (lv' := [(2, .int (iv 0)), (0, .ref y), (1, .int (iv x1))]) dX12_withoutBridges_1 (i := 2) rfl (by decide) rfl ?_
  have B2 : ∀ k : Nat, ∀ be2 : Nat → Int, ∀ hp2 : MH, Tw (RX Γ cI cJ cZ y rf cn nm so sz dr mn fr tt wt co nu sa wo ln hw ro qi qc nf nt nw nc cl nx ie be2 sd bl bs wy ra rb lb bg os js ls sp jw go de yb ah im) hp2 → ∀  (v2_2 : Int), 0 ≤ v2_2 ∧ v2_2 ≤ 16 ∧ (Rfx 16 0 65535 be2) ∧ (v2_2 ≤ 16) ∧ (∀ u : Nat, (u : Int) < v2_2 → be2 u = 0) → 16 - v2_2 ≤ (k : Int) → Rn (gG D cI cJ cZ cT lo b L xs) mX12_withoutBridges d 2 [(0, .ref y), (1, .int (iv x1)), (2, .int (iv v2_2))] [] hp2 n 0 0 Po9 := by
    refine lpS _ ?_
    intro k2 ih2 be2 hp2 ht2 v2_2 hf2 hm2
    obtain ⟨hf2_0, hf2_1, ha2_2, hf2_3, ha2_4⟩ := hf2
    refine r_iload_n (pc := 2) dX12_withoutBridges_2 (i := 2) rfl rfl ?_
    refine r_bipush (pc := 3) (v := iv 16) dX12_withoutBridges_3 (by decide) ?_
    refine t_icmp_ge (pc := 5) (tgt := 21) dX12_withoutBridges_5 (by decide) (by omega) (by omega) (fun c5 => ?_) (fun c5 => ?_)
    · refine r_iconst (pc := 21) (v := iv 0) dX12_withoutBridges_21 (by decide) ?_
      refine r_istore_n (pc := 22) (lv' := [(2, .int (iv 0)), (0, .ref y), (1, .int (iv x1))]) dX12_withoutBridges_22 (i := 2) rfl (by decide) rfl ?_
      have B23 : ∀ k : Nat, ∀ be23 : Nat → Int, ∀ hp23 : MH, Tw (RX Γ cI cJ cZ y rf cn nm so sz dr mn fr tt wt co nu sa wo ln hw ro qi qc nf nt nw nc cl nx ie be23 sd bl bs wy ra rb lb bg os js ls sp jw go de yb ah im) hp23 → ∀  (v23_2 : Int), 0 ≤ v23_2 ∧ v23_2 ≤ 60 ∧ (Rfx 16 0 65535 be23) ∧ (v23_2 ≤ (mn (Int.toNat x1))) ∧ (jbP be23 (Int.toNat v23_2) (sh fr (60 * x1)) (sh tt (60 * x1)) (fun k => bg k = 0)) → 60 - v23_2 ≤ (k : Int) → Rn (gG D cI cJ cZ cT lo b L xs) mX12_withoutBridges d 23 [(0, .ref y), (1, .int (iv x1)), (2, .int (iv v23_2))] [] hp23 n 0 0 Po9 := by
        refine lpS _ ?_
        intro k23 ih23 be23 hp23 ht23 v23_2 hf23 hm23
        obtain ⟨hf23_0, hf23_1, ha23_2, hf23_3, ha23_4⟩ := hf23
        refine r_iload_n (pc := 23) dX12_withoutBridges_23 (i := 2) rfl rfl ?_
        refine r_aload_n (pc := 24) dX12_withoutBridges_24 (i := 0) rfl rfl ?_
        refine t_getE (pc := 25) (.ref (y + 4)) ht23 (rd_of RX_y) fX12_20 dX12_withoutBridges_25 rfl ?_
        refine r_iload_n (pc := 28) dX12_withoutBridges_28 (i := 1) rfl rfl ?_
        refine t_ialdX (pc := 29) (t0 := 0) ht23 (rd_of RX_many) dX12_withoutBridges_29 rfl (by decide) (by omega) (fun b1 => ?_)
        have rb1 := (show Rfx 121 0 60 mn by assumption) (Int.toNat x1) (by omega)
        refine t_icmp_ge (pc := 30) (tgt := 113) dX12_withoutBridges_30 (by decide) (by omega) (by omega) (fun c30 => ?_) (fun c30 => ?_)
        · exact r_vret (pc := 113) dX12_withoutBridges_113 rfl (hPo _ _ _ ⟨rfl, be23, ht23, rfl, (by assumption), (by (rw [← show v23_2 = (mn (Int.toNat x1)) by omega]; assumption))⟩)
        · refine r_iload_n (pc := 33) dX12_withoutBridges_33 (i := 1) rfl rfl ?_
          refine r_iload_n (pc := 34) dX12_withoutBridges_34 (i := 2) rfl rfl ?_
          refine t_callSI (pc := 35) (as := [.int (iv x1), .int (iv v23_2)]) (st := []) kX12_157 dX12_withoutBridges_35 (t_X12_at1x (d := d - 1) (x1 := x1) (x2 := v23_2) (by omega)  ht23 (by omega) (by omega)) rfl (by omega) (Nat.le_of_ble_eq_true rfl) rfl (fun hp2 y4 ht3 by4 => ?_)
          have ey4 : y4 = 60 * x1 + v23_2 := by4
          subst ey4
          refine r_istore_n (pc := 38) (lv' := [(3, .int (iv (60 * x1 + v23_2))), (0, .ref y), (1, .int (iv x1)), (2, .int (iv v23_2))]) dX12_withoutBridges_38 (i := 3) rfl (by decide) rfl ?_
          refine r_aload_n (pc := 39) dX12_withoutBridges_39 (i := 0) rfl rfl ?_
          refine t_getE (pc := 40) (.ref (y + 32)) ht3 (rd_of RX_y) fX12_106 dX12_withoutBridges_40 rfl ?_
          refine r_iload_n (pc := 43) dX12_withoutBridges_43 (i := 2) rfl rfl ?_
          refine t_zaldX (pc := 44) (t0 := 2) ht3 (rd_of RX_bridge) dX12_withoutBridges_44 rfl (by decide) (by omega) (fun b5 => ?_)
          have rb5 := (show Rfx 60 0 1 bg by assumption) (Int.toNat v23_2) (by omega)
          refine t_if_ne (pc := 45) (tgt := 107) dX12_withoutBridges_45 (by decide) (by omega) (fun c45 => ?_) (fun c45 => ?_)
          · refine r_iinc (pc := 107) (v := iv (v23_2 + 1)) (lv' := [(2, .int (iv (v23_2 + 1))), (3, .int (iv (60 * x1 + v23_2))), (0, .ref y), (1, .int (iv x1))]) dX12_withoutBridges_107 rfl (iv_add _ _) (by decide) rfl ?_
            refine r_goto (pc := 110) (tgt := 23) dX12_withoutBridges_110 (by decide) ?_
            refine Rn.pick (lv' := [(0, .ref y), (1, .int (iv x1)), (2, .int (iv (v23_2 + 1)))]) [2, 3, 0] rfl ?_
            exact ih23 (Int.toNat (60 - (v23_2 + 1))) (by omega) be23 _ ht3 (v23_2 + 1) ⟨by omega, by omega, by assumption, by omega, by (first | exact jb_0 (fun u hu => (by assumption : ∀ u : Nat, (u : Int) < v2_2 → be2 u = 0) u (by omega)) | assumption | exact jb_no (by assumption) (by omega) (fun h9 => by first | exact absurd h9.1 (by show ¬ bg (Int.toNat v23_2) = 0; omega) | (have h8 := h9.2; rw [← sh_at fr (60 * x1) (v := v23_2) (by omega), ← sh_at tt (60 * x1) (v := v23_2) (by omega)] at h8; omega)))⟩ (by omega)
          · refine r_aload_n (pc := 48) dX12_withoutBridges_48 (i := 0) rfl rfl ?_
            refine t_getE (pc := 49) (.ref (y + 5)) ht3 (rd_of RX_y) fX12_23 dX12_withoutBridges_49 rfl ?_
            refine r_iload_n (pc := 52) dX12_withoutBridges_52 (i := 3) rfl rfl ?_
            refine t_ialdX (pc := 53) (t0 := 0) ht3 (rd_of RX_from) dX12_withoutBridges_53 rfl (by decide) (by omega) (fun b6 => ?_)
            have rb6 := (show Rfx 7260 0 15 fr by assumption) (Int.toNat (60 * x1 + v23_2)) (by omega)
            refine r_aload_n (pc := 54) dX12_withoutBridges_54 (i := 0) rfl rfl ?_
            refine t_getE (pc := 55) (.ref (y + 6)) ht3 (rd_of RX_y) fX12_26 dX12_withoutBridges_55 rfl ?_
            refine r_iload_n (pc := 58) dX12_withoutBridges_58 (i := 3) rfl rfl ?_
            refine t_ialdX (pc := 59) (t0 := 0) ht3 (rd_of RX_to) dX12_withoutBridges_59 rfl (by decide) (by omega) (fun b7 => ?_)
            have rb7 := (show Rfx 7260 0 15 tt by assumption) (Int.toNat (60 * x1 + v23_2)) (by omega)
            refine t_icmp_eq (pc := 60) (tgt := 107) dX12_withoutBridges_60 (by decide) (by omega) (by omega) (fun c60 => ?_) (fun c60 => ?_)
            · refine r_iinc (pc := 107) (v := iv (v23_2 + 1)) (lv' := [(2, .int (iv (v23_2 + 1))), (3, .int (iv (60 * x1 + v23_2))), (0, .ref y), (1, .int (iv x1))]) dX12_withoutBridges_107 rfl (iv_add _ _) (by decide) rfl ?_
              refine r_goto (pc := 110) (tgt := 23) dX12_withoutBridges_110 (by decide) ?_
              refine Rn.pick (lv' := [(0, .ref y), (1, .int (iv x1)), (2, .int (iv (v23_2 + 1)))]) [2, 3, 0] rfl ?_
              exact ih23 (Int.toNat (60 - (v23_2 + 1))) (by omega) be23 _ ht3 (v23_2 + 1) ⟨by omega, by omega, by assumption, by omega, by (first | exact jb_0 (fun u hu => (by assumption : ∀ u : Nat, (u : Int) < v2_2 → be2 u = 0) u (by omega)) | assumption | exact jb_no (by assumption) (by omega) (fun h9 => by first | exact absurd h9.1 (by show ¬ bg (Int.toNat v23_2) = 0; omega) | (have h8 := h9.2; rw [← sh_at fr (60 * x1) (v := v23_2) (by omega), ← sh_at tt (60 * x1) (v := v23_2) (by omega)] at h8; omega)))⟩ (by omega)
            · refine r_aload_n (pc := 63) dX12_withoutBridges_63 (i := 0) rfl rfl ?_
              refine t_getE (pc := 64) (.ref (y + 24)) ht3 (rd_of RX_y) fX12_81 dX12_withoutBridges_64 rfl ?_
              refine r_aload_n (pc := 67) dX12_withoutBridges_67 (i := 0) rfl rfl ?_
              refine t_getE (pc := 68) (.ref (y + 5)) ht3 (rd_of RX_y) fX12_23 dX12_withoutBridges_68 rfl ?_
              refine r_iload_n (pc := 71) dX12_withoutBridges_71 (i := 3) rfl rfl ?_
              refine t_ialdX (pc := 72) (t0 := 0) ht3 (rd_of RX_from) dX12_withoutBridges_72 rfl (by decide) (by omega) (fun b8 => ?_)
              have rb8 := (show Rfx 7260 0 15 fr by assumption) (Int.toNat (60 * x1 + v23_2)) (by omega)
              refine r_dup2_11 (pc := 73) dX12_withoutBridges_73 rfl rfl ?_
              refine t_ialdX (pc := 74) (t0 := 0) ht3 (rd_of RX_beside) dX12_withoutBridges_74 rfl (by decide) (by omega) (fun b9 => ?_)
              have rb9 := (show Rfx 16 0 65535 be23 by assumption) (Int.toNat (fr (Int.toNat (60 * x1 + v23_2)))) (by omega)
              refine r_iconst (pc := 75) (v := iv 1) dX12_withoutBridges_75 (by decide) ?_
              refine r_aload_n (pc := 76) dX12_withoutBridges_76 (i := 0) rfl rfl ?_
              refine t_getE (pc := 77) (.ref (y + 6)) ht3 (rd_of RX_y) fX12_26 dX12_withoutBridges_77 rfl ?_
              refine r_iload_n (pc := 80) dX12_withoutBridges_80 (i := 3) rfl rfl ?_
              refine t_ialdX (pc := 81) (t0 := 0) ht3 (rd_of RX_to) dX12_withoutBridges_81 rfl (by decide) (by omega) (fun b10 => ?_)
              have rb10 := (show Rfx 7260 0 15 tt by assumption) (Int.toNat (60 * x1 + v23_2)) (by omega)
              refine r_ishl (pc := 82) (v := iv ((2 ^ Int.toNat (tt (Int.toNat (60 * x1 + v23_2))) : Nat) : Int)) dX12_withoutBridges_82 (shl_e (by omega)) ?_
              have mp82_11 : 1 ≤ 2 ^ Int.toNat (tt (Int.toNat (60 * x1 + v23_2))) := Nat.one_le_two_pow
              have mq82_12 : 2 ^ Int.toNat (tt (Int.toNat (60 * x1 + v23_2))) ≤ 2 ^ 15 := Nat.pow_le_pow_right (by omega) (by omega)
              have ms82 := Me_shl (Int.toNat (tt (Int.toNat (60 * x1 + v23_2))))
              obtain ⟨z13, hz13, bz13⟩ := or_2 16 (be23 (Int.toNat (fr (Int.toNat (60 * x1 + v23_2))))) ((2 ^ Int.toNat (tt (Int.toNat (60 * x1 + v23_2))) : Nat) : Int) (by omega) (by omega) (by decide)
              refine r_ior (pc := 83) (v := iv z13) dX12_withoutBridges_83 hz13 ?_
              have mez13 := Me_or hz13 (by omega) (by omega) (by omega)
              refine t_iastX (pc := 84) (t0 := 0) ht3 RX_beside dX12_withoutBridges_84 rfl (by decide) (by omega) (by omega) (fun hp14 ht15 => ?_)
              have ht16 := RXw_be ht15
              have hqht16 : Rfx 16 0 65535 (fup be23 (Int.toNat (fr (Int.toNat (60 * x1 + v23_2)))) z13) := Rfx_up (by assumption) (by omega)
              refine r_aload_n (pc := 85) dX12_withoutBridges_85 (i := 0) rfl rfl ?_
              refine t_getE (pc := 86) (.ref (y + 24)) ht16 (rd_of RX_y) fX12_81 dX12_withoutBridges_86 rfl ?_
              refine r_aload_n (pc := 89) dX12_withoutBridges_89 (i := 0) rfl rfl ?_
              refine t_getE (pc := 90) (.ref (y + 6)) ht16 (rd_of RX_y) fX12_26 dX12_withoutBridges_90 rfl ?_
              refine r_iload_n (pc := 93) dX12_withoutBridges_93 (i := 3) rfl rfl ?_
              refine t_ialdX (pc := 94) (t0 := 0) ht16 (rd_of RX_to) dX12_withoutBridges_94 rfl (by decide) (by omega) (fun b17 => ?_)
              have rb17 := (show Rfx 7260 0 15 tt by assumption) (Int.toNat (60 * x1 + v23_2)) (by omega)
              refine r_dup2_11 (pc := 95) dX12_withoutBridges_95 rfl rfl ?_
              refine t_ialdX (pc := 96) (t0 := 0) ht16 (rd_of RX_beside) dX12_withoutBridges_96 rfl (by decide) (by omega) (fun b18 => ?_)
              have rb18 := (show Rfx 16 0 65535 (fup be23 (Int.toNat (fr (Int.toNat (60 * x1 + v23_2)))) z13) by assumption) (Int.toNat (tt (Int.toNat (60 * x1 + v23_2)))) (by omega)
              refine r_iconst (pc := 97) (v := iv 1) dX12_withoutBridges_97 (by decide) ?_
              refine r_aload_n (pc := 98) dX12_withoutBridges_98 (i := 0) rfl rfl ?_
              refine t_getE (pc := 99) (.ref (y + 5)) ht16 (rd_of RX_y) fX12_23 dX12_withoutBridges_99 rfl ?_
              refine r_iload_n (pc := 102) dX12_withoutBridges_102 (i := 3) rfl rfl ?_
              refine t_ialdX (pc := 103) (t0 := 0) ht16 (rd_of RX_from) dX12_withoutBridges_103 rfl (by decide) (by omega) (fun b19 => ?_)
              have rb19 := (show Rfx 7260 0 15 fr by assumption) (Int.toNat (60 * x1 + v23_2)) (by omega)
              refine r_ishl (pc := 104) (v := iv ((2 ^ Int.toNat (fr (Int.toNat (60 * x1 + v23_2))) : Nat) : Int)) dX12_withoutBridges_104 (shl_e (by omega)) ?_
              have mp104_20 : 1 ≤ 2 ^ Int.toNat (fr (Int.toNat (60 * x1 + v23_2))) := Nat.one_le_two_pow
              have mq104_21 : 2 ^ Int.toNat (fr (Int.toNat (60 * x1 + v23_2))) ≤ 2 ^ 15 := Nat.pow_le_pow_right (by omega) (by omega)
              have ms104 := Me_shl (Int.toNat (fr (Int.toNat (60 * x1 + v23_2))))
              obtain ⟨z22, hz22, bz22⟩ := or_2 16 ((fup be23 (Int.toNat (fr (Int.toNat (60 * x1 + v23_2)))) z13) (Int.toNat (tt (Int.toNat (60 * x1 + v23_2))))) ((2 ^ Int.toNat (fr (Int.toNat (60 * x1 + v23_2))) : Nat) : Int) (by omega) (by omega) (by decide)
              refine r_ior (pc := 105) (v := iv z22) dX12_withoutBridges_105 hz22 ?_
              have mez22 := Me_or hz22 (by omega) (by omega) (by omega)
              refine t_iastX (pc := 106) (t0 := 0) ht16 RX_beside dX12_withoutBridges_106 rfl (by decide) (by omega) (by omega) (fun hp23 ht24 => ?_)
              have ht25 := RXw_be ht24
              have hqht25 : Rfx 16 0 65535 (fup (fup be23 (Int.toNat (fr (Int.toNat (60 * x1 + v23_2)))) z13) (Int.toNat (tt (Int.toNat (60 * x1 + v23_2)))) z22) := Rfx_up (by assumption) (by omega)
              have hjb106 : jbP (fup (fup be23 (Int.toNat (fr (Int.toNat (60 * x1 + v23_2)))) z13) (Int.toNat (tt (Int.toNat (60 * x1 + v23_2)))) z22) (Int.toNat (v23_2 + 1)) (sh fr (60 * x1)) (sh tt (60 * x1)) (fun k => bg k = 0) := jb_up (k := v23_2) (a := (fr (Int.toNat (60 * x1 + v23_2)))) (b := (tt (Int.toNat (60 * x1 + v23_2)))) (by assumption) (by omega) (sh_at fr (60 * x1) (v := v23_2) (by omega)) (sh_at tt (60 * x1) (v := v23_2) (by omega)) (by omega) (by omega) (by omega) (show bg (Int.toNat v23_2) = 0 by omega) mez13 ms82 mez22 ms104
              refine r_iinc (pc := 107) (v := iv (v23_2 + 1)) (lv' := [(2, .int (iv (v23_2 + 1))), (3, .int (iv (60 * x1 + v23_2))), (0, .ref y), (1, .int (iv x1))]) dX12_withoutBridges_107 rfl (iv_add _ _) (by decide) rfl ?_
              refine r_goto (pc := 110) (tgt := 23) dX12_withoutBridges_110 (by decide) ?_
              refine Rn.pick (lv' := [(0, .ref y), (1, .int (iv x1)), (2, .int (iv (v23_2 + 1)))]) [2, 3, 0] rfl ?_
              exact ih23 (Int.toNat (60 - (v23_2 + 1))) (by omega) (fup (fup be23 (Int.toNat (fr (Int.toNat (60 * x1 + v23_2)))) z13) (Int.toNat (tt (Int.toNat (60 * x1 + v23_2)))) z22) _ ht25 (v23_2 + 1) ⟨by omega, by omega, by assumption, by omega, by (first | exact jb_0 (fun u hu => (by assumption : ∀ u : Nat, (u : Int) < v2_2 → be2 u = 0) u (by omega)) | assumption | exact jb_no (by assumption) (by omega) (fun h9 => by first | exact absurd h9.1 (by show ¬ bg (Int.toNat v23_2) = 0; omega) | (have h8 := h9.2; rw [← sh_at fr (60 * x1) (v := v23_2) (by omega), ← sh_at tt (60 * x1) (v := v23_2) (by omega)] at h8; omega)))⟩ (by omega)
      refine Rn.pick (lv' := [(0, .ref y), (1, .int (iv x1)), (2, .int (iv 0))]) [1, 2, 0] rfl ?_
      exact B23 (Int.toNat (60 - 0)) be2 _ ht2 0 ⟨by omega, by omega, by assumption, by omega, by (first | exact jb_0 (fun u hu => (by assumption : ∀ u : Nat, (u : Int) < v2_2 → be2 u = 0) u (by omega)) | assumption | exact jb_no (by assumption) (by omega) (fun h9 => by first | exact absurd h9.1 (by show ¬ bg (Int.toNat v23_2) = 0; omega) | (have h8 := h9.2; rw [← sh_at fr (60 * x1) (v := v23_2) (by omega), ← sh_at tt (60 * x1) (v := v23_2) (by omega)] at h8; omega)))⟩ (by omega)
    · refine r_aload_n (pc := 8) dX12_withoutBridges_8 (i := 0) rfl rfl ?_
      refine t_getE (pc := 9) (.ref (y + 24)) ht2 (rd_of RX_y) fX12_81 dX12_withoutBridges_9 rfl ?_
      refine r_iload_n (pc := 12) dX12_withoutBridges_12 (i := 2) rfl rfl ?_
      refine r_iconst (pc := 13) (v := iv 0) dX12_withoutBridges_13 (by decide) ?_
      refine t_iastX (pc := 14) (t0 := 0) ht2 RX_beside dX12_withoutBridges_14 rfl (by decide) (by omega) (by omega) (fun hp26 ht27 => ?_)
      have ht28 := RXw_be ht27
      have hqht28 : Rfx 16 0 65535 (fup be2 (Int.toNat v2_2) 0) := Rfx_up (by assumption) (by omega)
      refine r_iinc (pc := 15) (v := iv (v2_2 + 1)) (lv' := [(2, .int (iv (v2_2 + 1))), (0, .ref y), (1, .int (iv x1))]) dX12_withoutBridges_15 rfl (iv_add _ _) (by decide) rfl ?_
      refine r_goto (pc := 18) (tgt := 2) dX12_withoutBridges_18 (by decide) ?_
      refine Rn.pick (lv' := [(0, .ref y), (1, .int (iv x1)), (2, .int (iv (v2_2 + 1)))]) [1, 2, 0] rfl ?_
      exact ih2 (Int.toNat (16 - (v2_2 + 1))) (by omega) (fup be2 (Int.toNat v2_2) 0) _ ht28 (v2_2 + 1) ⟨by omega, by omega, by assumption, by omega, by (first | (intro u hu; omega) | exact fup_c (by assumption) (by omega))⟩ (by omega)
  refine Rn.pick (lv' := [(0, .ref y), (1, .int (iv x1)), (2, .int (iv 0))]) [1, 2, 0] rfl ?_
  exact B2 (Int.toNat (16 - 0)) be _ ht 0 ⟨by omega, by omega, by assumption, by omega, by (first | (intro u hu; omega) | exact fup_c (by assumption) (by omega))⟩ (by omega)
set_option maxHeartbeats 4000000 in
set_option maxRecDepth 100000 in
theorem x_X12_together {D : va_G} {cI cJ cZ cT : ClassId} {lo b L : Nat} {xs : Nat → Int32} {hp : MH} {n d : Nat} {Γ : TG} {y : Nat} {rf cn nm : Int} {so sz dr mn fr tt wt co : Nat → Int} {nu : Nat → Int64} {sa : Nat → Int} {wo : Nat → Int64} {ln : Nat → Int} {hw : Nat → Int64} {ro qi qc nf nt nw nc : Nat → Int} {cl nx : Nat → Int64} {ie be sd bl : Nat → Int} {bs wy ra rb : Nat → Int64} {lb bg os js ls : Nat → Int} {sp : Nat → Int64} {jw go : Nat → Int} {de : Nat → Int64} {yb ah im : Nat → Int} {x1 : Int} {Po9 : Option Value → MH → Nat → Prop} (hd0 : 0 ≤ d) (hR_beside : Rfx 16 0 65535 be) (ht : Tw (RX Γ cI cJ cZ y rf cn nm so sz dr mn fr tt wt co nu sa wo ln hw ro qi qc nf nt nw nc cl nx ie be sd bl bs wy ra rb lb bg os js ls sp jw go de yb ah im) hp) (hx1 : 0 ≤ x1 ∧ x1 ≤ 65535) (hPo : ∀ r hp1 n1, (n1 = n ∧ ∃ (r9 : Int), Tw (RX Γ cI cJ cZ y rf cn nm so sz dr mn fr tt wt co nu sa wo ln hw ro qi qc nf nt nw nc cl nx ie be sd bl bs wy ra rb lb bg os js ls sp jw go de yb ah im) hp1 ∧ r = some (.int (iv r9)) ∧ (0 ≤ r9 ∧ r9 ≤ 65535) ∧ (tgP be x1 r9)) → Po9 r hp1 n1) : Mt (gG D cI cJ cZ cT lo b L xs) mX12_together d 0 0 [.ref y, .int (iv x1)] hp n Po9 := by
  refine Mt.of rfl (Nat.le_of_ble_eq_true rfl) ?_
  refine Rn.pick (lv' := [(0, .ref y), (1, .int (iv x1))]) [0, 1] rfl ?_
  refine r_iload_n (pc := 0) dX12_together_0 (i := 1) rfl rfl ?_
  refine r_iload_n (pc := 1) dX12_together_1 (i := 1) rfl rfl ?_
  refine r_ineg (pc := 2) (v := iv (-x1)) dX12_together_2 (iv_neg _) ?_
  obtain ⟨z0, hz0, bz0⟩ := and_l x1 (-x1) (by omega) (by omega)
  refine r_iand (pc := 3) (v := iv z0) dX12_together_3 hz0 ?_
  have hlow := Me_low hz0 (by omega) (by omega)
  refine r_istore_n (pc := 4) (lv' := [(2, .int (iv z0)), (0, .ref y), (1, .int (iv x1))]) dX12_together_4 (i := 2) rfl (by decide) rfl ?_
  refine r_iconst (pc := 5) (v := iv 0) dX12_together_5 (by decide) ?_
  refine r_istore_n (pc := 6) (lv' := [(3, .int (iv 0)), (2, .int (iv z0)), (0, .ref y), (1, .int (iv x1))]) dX12_together_6 (i := 3) rfl (by decide) rfl ?_
  have B7 : ∀ k : Nat, ∀ hp7 : MH, Tw (RX Γ cI cJ cZ y rf cn nm so sz dr mn fr tt wt co nu sa wo ln hw ro qi qc nf nt nw nc cl nx ie be sd bl bs wy ra rb lb bg os js ls sp jw go de yb ah im) hp7 → ∀  (v7_2 : Int) (v7_3 : Int), 0 ≤ v7_2 ∧ v7_2 ≤ 65535 ∧ z0 ≤ v7_2 ∧ 0 ≤ v7_3 ∧ v7_3 ≤ 65535 ∧ (v7_3 ≤ v7_2) ∧ (tg1 be x1 z0 v7_2) ∧ (tg2 be x1 v7_3 v7_2 16) → 65536 - v7_3 ≤ (k : Int) → Rn (gG D cI cJ cZ cT lo b L xs) mX12_together d 7 [(0, .ref y), (1, .int (iv x1)), (2, .int (iv v7_2)), (3, .int (iv v7_3))] [] hp7 n 0 0 Po9 := by
    refine lpS _ ?_
    intro k7 ih7 hp7 ht7 v7_2 v7_3 hf7 hm7
    obtain ⟨hf7_0, hf7_1, hf7_2, hf7_3, hf7_4, hf7_5, ha7_6, ha7_7⟩ := hf7
    refine r_iload_n (pc := 7) dX12_together_7 (i := 3) rfl rfl ?_
    refine r_iload_n (pc := 8) dX12_together_8 (i := 2) rfl rfl ?_
    refine t_icmp_eq (pc := 9) (tgt := 55) dX12_together_9 (by decide) (by omega) (by omega) (fun c9 => ?_) (fun c9 => ?_)
    · refine r_iload_n (pc := 55) dX12_together_55 (i := 2) rfl rfl ?_
      exact r_iret (pc := 56) dX12_together_56 rfl (hPo _ _ _ ⟨rfl, v7_2, ht7, rfl, (by omega), (by (have h8 : tg2 be x1 v7_3 v7_2 16 := (by assumption); rw [show v7_3 = v7_2 by omega] at h8; exact tg_end hlow (by assumption) h8 (by omega) (by omega)))⟩)
    · refine r_iload_n (pc := 12) dX12_together_12 (i := 2) rfl rfl ?_
      refine r_istore_n (pc := 13) (lv' := [(3, .int (iv v7_2)), (0, .ref y), (1, .int (iv x1)), (2, .int (iv v7_2))]) dX12_together_13 (i := 3) rfl (by decide) rfl ?_
      refine r_iconst (pc := 14) (v := iv 0) dX12_together_14 (by decide) ?_
      refine r_istore (pc := 15) (lv' := [(4, .int (iv 0)), (3, .int (iv v7_2)), (0, .ref y), (1, .int (iv x1)), (2, .int (iv v7_2))]) dX12_together_15 (by decide) rfl ?_
      have B17 : ∀ k : Nat, ∀ hp17 : MH, Tw (RX Γ cI cJ cZ y rf cn nm so sz dr mn fr tt wt co nu sa wo ln hw ro qi qc nf nt nw nc cl nx ie be sd bl bs wy ra rb lb bg os js ls sp jw go de yb ah im) hp17 → ∀  (v17_2 : Int) (v17_4 : Int), 0 ≤ v17_2 ∧ v17_2 ≤ 65535 ∧ v7_2 ≤ v17_2 ∧ 0 ≤ v17_4 ∧ v17_4 ≤ 16 ∧ (tg1 be x1 z0 v17_2) ∧ (tg2 be x1 v7_2 v17_2 v17_4) → 16 - v17_4 ≤ (k : Int) → Rn (gG D cI cJ cZ cT lo b L xs) mX12_together d 17 [(0, .ref y), (1, .int (iv x1)), (2, .int (iv v17_2)), (3, .int (iv v7_2)), (4, .int (iv v17_4))] [] hp17 n 0 0 Po9 := by
        refine lpS _ ?_
        intro k17 ih17 hp17 ht17 v17_2 v17_4 hf17 hm17
        obtain ⟨hf17_0, hf17_1, hf17_2, hf17_3, hf17_4, ha17_5, ha17_6⟩ := hf17
        refine r_iload (pc := 17) dX12_together_17 rfl ?_
        refine r_bipush (pc := 19) (v := iv 16) dX12_together_19 (by decide) ?_
        refine t_icmp_ge (pc := 21) (tgt := 52) dX12_together_21 (by decide) (by omega) (by omega) (fun c21 => ?_) (fun c21 => ?_)
        · refine r_goto (pc := 52) (tgt := 7) dX12_together_52 (by decide) ?_
          refine Rn.pick (lv' := [(0, .ref y), (1, .int (iv x1)), (2, .int (iv v17_2)), (3, .int (iv v7_2))]) [0, 1, 2, 3] rfl ?_
          exact ih7 (Int.toNat (65536 - v7_2)) (by omega) _ ht17 v17_2 v7_2 ⟨by omega, by omega, by omega, by omega, by omega, by omega, by (first | assumption | exact tg1_0 _ _ _), by (first | exact tg2_z _ _ _ _ | (have h8 : tg2 be x1 v7_2 v17_2 v17_4 := (by assumption); rw [show v17_4 = 16 by omega] at h8; exact h8))⟩ (by omega)
        · refine r_iload_n (pc := 24) dX12_together_24 (i := 3) rfl rfl ?_
          refine r_iload (pc := 25) dX12_together_25 rfl ?_
          have hq27_1 := shr_le (Int.toNat v7_2) (Int.toNat v17_4)
          refine r_ishr (pc := 27) (v := iv ((Int.toNat v7_2 >>> Int.toNat v17_4 : Nat) : Int)) dX12_together_27 (shr_e (by omega) (by omega)) ?_
          refine r_iconst (pc := 28) (v := iv 1) dX12_together_28 (by decide) ?_
          refine r_iand (pc := 29) (v := iv (((Int.toNat v7_2 >>> Int.toNat v17_4 : Nat) : Int) % 2)) dX12_together_29 (and1_e _ (by omega)) ?_
          have mb29 := @Me_bit v7_2 v17_4
          refine r_iconst (pc := 30) (v := iv 1) dX12_together_30 (by decide) ?_
          refine t_icmp_ne (pc := 31) (tgt := 46) dX12_together_31 (by decide) (by omega) (by omega) (fun c31 => ?_) (fun c31 => ?_)
          · have nm31 : ¬ Me v7_2 (Int.toNat v17_4) := fun h9 => absurd (Me_bit.mpr h9) (by omega)
            refine r_iinc (pc := 46) (v := iv (v17_4 + 1)) (lv' := [(4, .int (iv (v17_4 + 1))), (0, .ref y), (1, .int (iv x1)), (2, .int (iv v17_2)), (3, .int (iv v7_2))]) dX12_together_46 rfl (iv_add _ _) (by decide) rfl ?_
            refine r_goto (pc := 49) (tgt := 17) dX12_together_49 (by decide) ?_
            refine Rn.pick (lv' := [(0, .ref y), (1, .int (iv x1)), (2, .int (iv v17_2)), (3, .int (iv v7_2)), (4, .int (iv (v17_4 + 1)))]) [1, 2, 3, 4, 0] rfl ?_
            exact ih17 (Int.toNat (16 - (v17_4 + 1))) (by omega) _ ht17 v17_2 (v17_4 + 1) ⟨by omega, by omega, by omega, by omega, by omega, by assumption, by (first | assumption | exact tg2_0 _ _ _ | exact tg2_no (by assumption) (by omega) nm31)⟩ (by omega)
          · have pm31 : Me v7_2 (Int.toNat v17_4) := Me_bit.mp (by omega)
            refine r_iload_n (pc := 34) dX12_together_34 (i := 2) rfl rfl ?_
            refine r_aload_n (pc := 35) dX12_together_35 (i := 0) rfl rfl ?_
            refine t_getE (pc := 36) (.ref (y + 24)) ht17 (rd_of RX_y) fX12_81 dX12_together_36 rfl ?_
            refine r_iload (pc := 39) dX12_together_39 rfl ?_
            refine t_ialdX (pc := 41) (t0 := 0) ht17 (rd_of RX_beside) dX12_together_41 rfl (by decide) (by omega) (fun b2 => ?_)
            have rb2 := (show Rfx 16 0 65535 be by assumption) (Int.toNat v17_4) (by omega)
            refine r_iload_n (pc := 42) dX12_together_42 (i := 1) rfl rfl ?_
            obtain ⟨z3, hz3, bz3⟩ := and_2 (be (Int.toNat v17_4)) x1 (by omega) (by omega)
            refine r_iand (pc := 43) (v := iv z3) dX12_together_43 hz3 ?_
            have mez3 := Me_and hz3 (by omega) (by omega) (by omega)
            obtain ⟨z4, hz4, bz4⟩ := or_2 16 v17_2 z3 (by omega) (by omega) (by decide)
            refine r_ior (pc := 44) (v := iv z4) dX12_together_44 hz4 ?_
            have mez4 := Me_or hz4 (by omega) (by omega) (by omega)
            have hg1z4 : tg1 be x1 z0 z4 := tg1_up (v := v17_4) (by assumption) (show tg2 be x1 _ _ _ by assumption).1 (by omega) pm31 mez3 mez4
            have hg2z4 : tg2 be x1 v7_2 z4 (v17_4 + 1) := tg2_up (by assumption) (by omega) mez3 mez4
            refine r_istore_n (pc := 45) (lv' := [(2, .int (iv z4)), (0, .ref y), (1, .int (iv x1)), (3, .int (iv v7_2)), (4, .int (iv v17_4))]) dX12_together_45 (i := 2) rfl (by decide) rfl ?_
            refine r_iinc (pc := 46) (v := iv (v17_4 + 1)) (lv' := [(4, .int (iv (v17_4 + 1))), (2, .int (iv z4)), (0, .ref y), (1, .int (iv x1)), (3, .int (iv v7_2))]) dX12_together_46 rfl (iv_add _ _) (by decide) rfl ?_
            refine r_goto (pc := 49) (tgt := 17) dX12_together_49 (by decide) ?_
            refine Rn.pick (lv' := [(0, .ref y), (1, .int (iv x1)), (2, .int (iv z4)), (3, .int (iv v7_2)), (4, .int (iv (v17_4 + 1)))]) [2, 3, 1, 4, 0] rfl ?_
            exact ih17 (Int.toNat (16 - (v17_4 + 1))) (by omega) _ ht17 z4 (v17_4 + 1) ⟨by omega, by omega, by omega, by omega, by omega, by assumption, by (first | assumption | exact tg2_0 _ _ _ | exact tg2_no (by assumption) (by omega) nm31)⟩ (by omega)
      refine Rn.pick (lv' := [(0, .ref y), (1, .int (iv x1)), (2, .int (iv v7_2)), (3, .int (iv v7_2)), (4, .int (iv 0))]) [2, 3, 4, 1, 0] rfl ?_
      exact B17 (Int.toNat (16 - 0)) _ ht7 v7_2 0 ⟨by omega, by omega, by omega, by omega, by omega, by assumption, by (first | assumption | exact tg2_0 _ _ _ | exact tg2_no (by assumption) (by omega) nm31)⟩ (by omega)
  refine Rn.pick (lv' := [(0, .ref y), (1, .int (iv x1)), (2, .int (iv z0)), (3, .int (iv 0))]) [2, 3, 1, 0] rfl ?_
  exact B7 (Int.toNat (65536 - 0)) _ ht z0 0 ⟨by omega, by omega, by omega, by omega, by omega, by omega, by (first | assumption | exact tg1_0 _ _ _), by (first | exact tg2_z _ _ _ _ | (have h8 : tg2 be x1 0 v17_2 v17_4 := (by assumption); rw [show v17_4 = 16 by omega] at h8; exact h8))⟩ (by omega)
set_option maxHeartbeats 4000000 in
set_option maxRecDepth 100000 in
theorem x_X12_weakCount {D : va_G} {cI cJ cZ cT : ClassId} {lo b L : Nat} {xs : Nat → Int32} {hp : MH} {n d : Nat} {Γ : TG} {y : Nat} {rf cn nm : Int} {so sz dr mn fr tt wt co : Nat → Int} {nu : Nat → Int64} {sa : Nat → Int} {wo : Nat → Int64} {ln : Nat → Int} {hw : Nat → Int64} {ro qi qc nf nt nw nc : Nat → Int} {cl nx : Nat → Int64} {ie be sd bl : Nat → Int} {bs wy ra rb : Nat → Int64} {lb bg os js ls : Nat → Int} {sp : Nat → Int64} {jw go : Nat → Int} {de : Nat → Int64} {yb ah im : Nat → Int} {x1 : Int} {Po9 : Option Value → MH → Nat → Prop} (hd0 : 1 ≤ d) (hR_beside : Rfx 16 0 65535 be) (ht : Tw (RX Γ cI cJ cZ y rf cn nm so sz dr mn fr tt wt co nu sa wo ln hw ro qi qc nf nt nw nc cl nx ie be sd bl bs wy ra rb lb bg os js ls sp jw go de yb ah im) hp) (hx1 : 0 ≤ x1 ∧ x1 ≤ 16) (hJ : SymJ be (Int.toNat x1)) (hPo : ∀ r hp1 n1, (n1 = n ∧ ∃ (r9 : Int), Tw (RX Γ cI cJ cZ y rf cn nm so sz dr mn fr tt wt co nu sa wo ln hw ro qi qc nf nt nw nc cl nx ie be sd bl bs wy ra rb lb bg os js ls sp jw go de yb ah im) hp1 ∧ r = some (.int (iv r9)) ∧ (0 ≤ r9 ∧ r9 ≤ 16) ∧ (r9 = (cnP (fsP (EB be)) (Int.toNat x1) : Int))) → Po9 r hp1 n1) : Mt (gG D cI cJ cZ cT lo b L xs) mX12_weakCount d 0 0 [.ref y, .int (iv x1)] hp n Po9 := by
  refine Mt.of rfl (Nat.le_of_ble_eq_true rfl) ?_
  refine Rn.pick (lv' := [(0, .ref y), (1, .int (iv x1))]) [0, 1] rfl ?_
  refine r_iconst (pc := 0) (v := iv 1) dX12_weakCount_0 (by decide) ?_
  refine r_iload_n (pc := 1) dX12_weakCount_1 (i := 1) rfl rfl ?_
  refine r_ishl (pc := 2) (v := iv ((2 ^ Int.toNat x1 : Nat) : Int)) dX12_weakCount_2 (shl_e (by omega)) ?_
  have mp2_1 : 1 ≤ 2 ^ Int.toNat x1 := Nat.one_le_two_pow
  have mq2_2 : 2 ^ Int.toNat x1 ≤ 2 ^ 16 := Nat.pow_le_pow_right (by omega) (by omega)
  have ms2 := Me_shl (Int.toNat x1)
  refine r_iconst (pc := 3) (v := iv 1) dX12_weakCount_3 (by decide) ?_
  refine r_isub (pc := 4) (v := iv (((2 ^ Int.toNat x1 : Nat) : Int) - 1)) dX12_weakCount_4 (iv_sub _ _) ?_
  refine r_istore_n (pc := 5) (lv' := [(2, .int (iv (((2 ^ Int.toNat x1 : Nat) : Int) - 1))), (0, .ref y), (1, .int (iv x1))]) dX12_weakCount_5 (i := 2) rfl (by decide) rfl ?_
  refine r_iconst (pc := 6) (v := iv 0) dX12_weakCount_6 (by decide) ?_
  refine r_istore_n (pc := 7) (lv' := [(3, .int (iv 0)), (2, .int (iv (((2 ^ Int.toNat x1 : Nat) : Int) - 1))), (0, .ref y), (1, .int (iv x1))]) dX12_weakCount_7 (i := 3) rfl (by decide) rfl ?_
  have B8 : ∀ k : Nat, ∀ hp8 : MH, Tw (RX Γ cI cJ cZ y rf cn nm so sz dr mn fr tt wt co nu sa wo ln hw ro qi qc nf nt nw nc cl nx ie be sd bl bs wy ra rb lb bg os js ls sp jw go de yb ah im) hp8 → ∀  (v8_2 : Int) (v8_3 : Int), 0 ≤ v8_2 ∧ v8_2 ≤ 65535 ∧ v8_2 ≤ ((2 ^ Int.toNat x1 : Nat) : Int) - 1 ∧ 0 ≤ v8_3 ∧ v8_3 ≤ 16 ∧ (lfP be (Int.toNat x1) v8_2 v8_3) → v8_2 ≤ (k : Int) → Rn (gG D cI cJ cZ cT lo b L xs) mX12_weakCount d 8 [(0, .ref y), (2, .int (iv v8_2)), (3, .int (iv v8_3))] [] hp8 n 0 0 Po9 := by
    refine lpS _ ?_
    intro k8 ih8 hp8 ht8 v8_2 v8_3 hf8 hm8
    obtain ⟨hf8_0, hf8_1, hf8_2, hf8_3, hf8_4, ha8_5⟩ := hf8
    refine r_iload_n (pc := 8) dX12_weakCount_8 (i := 2) rfl rfl ?_
    refine t_if_eq (pc := 9) (tgt := 28) dX12_weakCount_9 (by decide) (by omega) (fun c9 => ?_) (fun c9 => ?_)
    · refine r_iload_n (pc := 28) dX12_weakCount_28 (i := 3) rfl rfl ?_
      exact r_iret (pc := 29) dX12_weakCount_29 rfl (hPo _ _ _ ⟨rfl, v8_3, ht8, rfl, (by omega), (by (have h8 : lfP be (Int.toNat x1) v8_2 v8_3 := (by assumption); rw [show v8_2 = 0 by omega] at h8; exact lf_end h8))⟩)
    · refine r_iload_n (pc := 12) dX12_weakCount_12 (i := 2) rfl rfl ?_
      refine r_aload_n (pc := 13) dX12_weakCount_13 (i := 0) rfl rfl ?_
      refine r_iload_n (pc := 14) dX12_weakCount_14 (i := 2) rfl rfl ?_
      obtain ⟨fs7, hfs7⟩ := t_obj ht8 (rd_of RX_y)
      refine r_callV (pc := 15) (as := [.int (iv v8_2)]) (st := [.int (iv v8_2)]) kX12_237 rfl dX12_weakCount_15 hfs7 (x_X12_together (d := d - 1) (x1 := v8_2) (by omega) (by assumption) ht8 (by omega) (fun _ _ _ h => h)) rfl (by omega) (Nat.le_of_ble_eq_true rfl) (Nat.zero_le _) (Nat.zero_le _) rfl (fun r4 hp3 n5 hq6 => ?_)
      obtain ⟨hnn5, r9_9, ht8, hrr4, hhq60, hhq61⟩ := hq6
      subst n5 r4
      have hhq60 : 0 ≤ r9_9 ∧ r9_9 ≤ 65535 := hhq60
      have hhq61 : tgP be v8_2 r9_9 := hhq61
      change Rn _ _ _ 18 _ [.int (iv r9_9), .int (iv v8_2)] _ _ _ _ _
      refine r_iconst (pc := 18) (v := iv (-1)) dX12_weakCount_18 (by decide) ?_
      refine r_ixor (pc := 19) (v := iv (-r9_9 - 1)) dX12_weakCount_19 (iv_not _) ?_
      obtain ⟨z10, hz10, bz10⟩ := and_l v8_2 (-r9_9 - 1) (by omega) (by omega)
      refine r_iand (pc := 20) (v := iv z10) dX12_weakCount_20 hz10 ?_
      have mez10 := Me_not (y := r9_9) hz10 (by omega) (by omega) (by omega)
      have hltz10 : z10 < v8_2 := lf_lt (show lfP be _ _ _ by assumption).1 hhq61 (by omega) (by omega) mez10
      have hlfz10 : lfP be (Int.toNat x1) z10 (v8_3 + 1) := lf_up (by assumption) hJ hhq61 (by omega) mez10
      have hlcz10 := lf_c hlfz10 (by omega)
      refine r_istore_n (pc := 21) (lv' := [(2, .int (iv z10)), (0, .ref y), (3, .int (iv v8_3))]) dX12_weakCount_21 (i := 2) rfl (by decide) rfl ?_
      refine r_iinc (pc := 22) (v := iv (v8_3 + 1)) (lv' := [(3, .int (iv (v8_3 + 1))), (2, .int (iv z10)), (0, .ref y)]) dX12_weakCount_22 rfl (iv_add _ _) (by decide) rfl ?_
      refine r_goto (pc := 25) (tgt := 8) dX12_weakCount_25 (by decide) ?_
      refine Rn.pick (lv' := [(0, .ref y), (2, .int (iv z10)), (3, .int (iv (v8_3 + 1)))]) [2, 1, 0] rfl ?_
      exact ih8 (Int.toNat (z10)) (by omega) _ ht8 z10 (v8_3 + 1) ⟨by omega, by omega, by omega, by omega, by omega, by (first | assumption | exact lf_0 hJ)⟩ (by omega)
  refine Rn.pick (lv' := [(0, .ref y), (2, .int (iv (((2 ^ Int.toNat x1 : Nat) : Int) - 1))), (3, .int (iv 0))]) [2, 1, 0] rfl ?_
  exact B8 (Int.toNat ((((2 ^ Int.toNat x1 : Nat) : Int) - 1))) _ ht (((2 ^ Int.toNat x1 : Nat) : Int) - 1) 0 ⟨by omega, by omega, by omega, by omega, by omega, by (first | assumption | exact lf_0 hJ)⟩ (by omega)
set_option maxHeartbeats 4000000 in
set_option maxRecDepth 100000 in
theorem x_X12_weakLabels {D : va_G} {cI cJ cZ cT : ClassId} {lo b L : Nat} {xs : Nat → Int32} {hp : MH} {n d : Nat} {Γ : TG} {y : Nat} {rf cn nm : Int} {so sz dr mn fr tt wt co : Nat → Int} {nu : Nat → Int64} {sa : Nat → Int} {wo : Nat → Int64} {ln : Nat → Int} {hw : Nat → Int64} {ro qi qc nf nt nw nc : Nat → Int} {cl nx : Nat → Int64} {ie be sd bl : Nat → Int} {bs wy ra rb : Nat → Int64} {lb bg os js ls : Nat → Int} {sp : Nat → Int64} {jw go : Nat → Int} {de : Nat → Int64} {yb ah im : Nat → Int} {x1 : Int} {Po9 : Option Value → MH → Nat → Prop} (hd0 : 1 ≤ d) (hR_beside : Rfx 16 0 65535 be) (hR_label : Rfx 16 0 65535 lb) (ht : Tw (RX Γ cI cJ cZ y rf cn nm so sz dr mn fr tt wt co nu sa wo ln hw ro qi qc nf nt nw nc cl nx ie be sd bl bs wy ra rb lb bg os js ls sp jw go de yb ah im) hp) (hx1 : 0 ≤ x1 ∧ x1 ≤ 16) (hJ : SymJ be (Int.toNat x1)) (hPo : ∀ r hp1 n1, (n1 = n ∧ ∃ (l1 : Nat → Int), Tw (RX Γ cI cJ cZ y rf cn nm so sz dr mn fr tt wt co nu sa wo ln hw ro qi qc nf nt nw nc cl nx ie be sd bl bs wy ra rb l1 bg os js ls sp jw go de yb ah im) hp1 ∧ r = none ∧ (Rfx 16 0 65535 l1) ∧ (∀ v : Nat, (v : Int) < x1 → ∀ j, Me (l1 v) j ↔ RC (JB be) (fun x => x = v) j)) → Po9 r hp1 n1) : Mt (gG D cI cJ cZ cT lo b L xs) mX12_weakLabels d 0 0 [.ref y, .int (iv x1)] hp n Po9 := by
  refine Mt.of rfl (Nat.le_of_ble_eq_true rfl) ?_
  refine Rn.pick (lv' := [(0, .ref y), (1, .int (iv x1))]) [0, 1] rfl ?_
  refine r_iconst (pc := 0) (v := iv 1) dX12_weakLabels_0 (by decide) ?_
  refine r_iload_n (pc := 1) dX12_weakLabels_1 (i := 1) rfl rfl ?_
  refine r_ishl (pc := 2) (v := iv ((2 ^ Int.toNat x1 : Nat) : Int)) dX12_weakLabels_2 (shl_e (by omega)) ?_
  have mp2_1 : 1 ≤ 2 ^ Int.toNat x1 := Nat.one_le_two_pow
  have mq2_2 : 2 ^ Int.toNat x1 ≤ 2 ^ 16 := Nat.pow_le_pow_right (by omega) (by omega)
  have ms2 := Me_shl (Int.toNat x1)
  refine r_iconst (pc := 3) (v := iv 1) dX12_weakLabels_3 (by decide) ?_
  refine r_isub (pc := 4) (v := iv (((2 ^ Int.toNat x1 : Nat) : Int) - 1)) dX12_weakLabels_4 (iv_sub _ _) ?_
  refine r_istore_n (pc := 5) (lv' := [(2, .int (iv (((2 ^ Int.toNat x1 : Nat) : Int) - 1))), (0, .ref y), (1, .int (iv x1))]) dX12_weakLabels_5 (i := 2) rfl (by decide) rfl ?_
  have B6 : ∀ k : Nat, ∀ lb6 : Nat → Int, ∀ hp6 : MH, Tw (RX Γ cI cJ cZ y rf cn nm so sz dr mn fr tt wt co nu sa wo ln hw ro qi qc nf nt nw nc cl nx ie be sd bl bs wy ra rb lb6 bg os js ls sp jw go de yb ah im) hp6 → ∀  (v6_2 : Int), 0 ≤ v6_2 ∧ v6_2 ≤ 65535 ∧ v6_2 ≤ ((2 ^ Int.toNat x1 : Nat) : Int) - 1 ∧ (Rfx 16 0 65535 lb6) ∧ (lf0 be (Int.toNat x1) v6_2) ∧ (wlP be (Int.toNat x1) v6_2 lb6) → v6_2 ≤ (k : Int) → Rn (gG D cI cJ cZ cT lo b L xs) mX12_weakLabels d 6 [(0, .ref y), (1, .int (iv x1)), (2, .int (iv v6_2))] [] hp6 n 0 0 Po9 := by
    refine lpS _ ?_
    intro k6 ih6 lb6 hp6 ht6 v6_2 hf6 hm6
    obtain ⟨hf6_0, hf6_1, hf6_2, ha6_3, ha6_4, ha6_5⟩ := hf6
    refine r_iload_n (pc := 6) dX12_weakLabels_6 (i := 2) rfl rfl ?_
    refine t_if_eq (pc := 7) (tgt := 68) dX12_weakLabels_7 (by decide) (by omega) (fun c7 => ?_) (fun c7 => ?_)
    · exact r_vret (pc := 68) dX12_weakLabels_68 rfl (hPo _ _ _ ⟨rfl, lb6, ht6, rfl, (by assumption), (by (have h8 : wlP be (Int.toNat x1) v6_2 _ := (by assumption); rw [show v6_2 = 0 by omega] at h8; intro v hv; exact h8 v (by omega) (Me_0 v)))⟩)
    · refine r_aload_n (pc := 10) dX12_weakLabels_10 (i := 0) rfl rfl ?_
      refine r_iload_n (pc := 11) dX12_weakLabels_11 (i := 2) rfl rfl ?_
      obtain ⟨fs7, hfs7⟩ := t_obj ht6 (rd_of RX_y)
      refine r_callV (pc := 12) (as := [.int (iv v6_2)]) (st := []) kX12_237 rfl dX12_weakLabels_12 hfs7 (x_X12_together (d := d - 1) (x1 := v6_2) (by omega) (by assumption) ht6 (by omega) (fun _ _ _ h => h)) rfl (by omega) (Nat.le_of_ble_eq_true rfl) (Nat.zero_le _) (Nat.zero_le _) rfl (fun r4 hp3 n5 hq6 => ?_)
      obtain ⟨hnn5, r9_9, ht8, hrr4, hhq60, hhq61⟩ := hq6
      subst n5 r4
      have hhq60 : 0 ≤ r9_9 ∧ r9_9 ≤ 65535 := hhq60
      have hhq61 : tgP be v6_2 r9_9 := hhq61
      change Rn _ _ _ 15 _ [.int (iv r9_9)] _ _ _ _ _
      refine r_istore_n (pc := 15) (lv' := [(3, .int (iv r9_9)), (0, .ref y), (1, .int (iv x1)), (2, .int (iv v6_2))]) dX12_weakLabels_15 (i := 3) rfl (by decide) rfl ?_
      refine r_iconst (pc := 16) (v := iv 0) dX12_weakLabels_16 (by decide) ?_
      refine r_istore (pc := 17) (lv' := [(4, .int (iv 0)), (3, .int (iv r9_9)), (0, .ref y), (1, .int (iv x1)), (2, .int (iv v6_2))]) dX12_weakLabels_17 (by decide) rfl ?_
      have B19 : ∀ k : Nat, ∀ lb19 : Nat → Int, ∀ hp19 : MH, Tw (RX Γ cI cJ cZ y rf cn nm so sz dr mn fr tt wt co nu sa wo ln hw ro qi qc nf nt nw nc cl nx ie be sd bl bs wy ra rb lb19 bg os js ls sp jw go de yb ah im) hp19 → ∀  (v19_4 : Int), 0 ≤ v19_4 ∧ v19_4 ≤ 16 ∧ (Rfx 16 0 65535 lb19) ∧ (v19_4 ≤ x1) ∧ (laQ2 r9_9 v19_4 lb19 lb6) → 16 - v19_4 ≤ (k : Int) → Rn (gG D cI cJ cZ cT lo b L xs) mX12_weakLabels d 19 [(0, .ref y), (1, .int (iv x1)), (2, .int (iv v6_2)), (3, .int (iv r9_9)), (4, .int (iv v19_4))] [] hp19 n 0 0 Po9 := by
        refine lpS _ ?_
        intro k19 ih19 lb19 hp19 ht19 v19_4 hf19 hm19
        obtain ⟨hf19_0, hf19_1, ha19_2, hf19_3, ha19_4⟩ := hf19
        refine r_iload (pc := 19) dX12_weakLabels_19 rfl ?_
        refine r_iload_n (pc := 21) dX12_weakLabels_21 (i := 1) rfl rfl ?_
        refine t_icmp_ge (pc := 22) (tgt := 59) dX12_weakLabels_22 (by decide) (by omega) (by omega) (fun c22 => ?_) (fun c22 => ?_)
        · refine r_iload_n (pc := 59) dX12_weakLabels_59 (i := 2) rfl rfl ?_
          refine r_iload_n (pc := 60) dX12_weakLabels_60 (i := 3) rfl rfl ?_
          refine r_iconst (pc := 61) (v := iv (-1)) dX12_weakLabels_61 (by decide) ?_
          refine r_ixor (pc := 62) (v := iv (-r9_9 - 1)) dX12_weakLabels_62 (iv_not _) ?_
          obtain ⟨z10, hz10, bz10⟩ := and_l v6_2 (-r9_9 - 1) (by omega) (by omega)
          refine r_iand (pc := 63) (v := iv z10) dX12_weakLabels_63 hz10 ?_
          have mez10 := Me_not (y := r9_9) hz10 (by omega) (by omega) (by omega)
          have hltz10 : z10 < v6_2 := lf_lt (show lf0 be _ _ by assumption) hhq61 (by omega) (by omega) mez10
          have hlfz10 : lf0 be (Int.toNat x1) z10 := lf0_up (by assumption) hJ hhq61 (by omega) mez10
          have hwlz10 : wlP be (Int.toNat x1) z10 lb19 := wl_up (v := v19_4) (by assumption) (by assumption) hJ hhq61 (by omega) mez10 (by assumption) (by omega) (by omega)
          refine r_istore_n (pc := 64) (lv' := [(2, .int (iv z10)), (0, .ref y), (1, .int (iv x1)), (3, .int (iv r9_9)), (4, .int (iv v19_4))]) dX12_weakLabels_64 (i := 2) rfl (by decide) rfl ?_
          refine r_goto (pc := 65) (tgt := 6) dX12_weakLabels_65 (by decide) ?_
          refine Rn.pick (lv' := [(0, .ref y), (1, .int (iv x1)), (2, .int (iv z10))]) [1, 2, 0] rfl ?_
          exact ih6 (Int.toNat (z10)) (by omega) lb19 _ ht19 z10 ⟨by omega, by omega, by omega, by assumption, by (first | assumption | exact lf0_0 hJ), by (first | assumption | exact wl_0)⟩ (by omega)
        · refine r_aload_n (pc := 25) dX12_weakLabels_25 (i := 0) rfl rfl ?_
          refine t_getE (pc := 26) (.ref (y + 31)) ht19 (rd_of RX_y) fX12_103 dX12_weakLabels_26 rfl ?_
          refine r_iload (pc := 29) dX12_weakLabels_29 rfl ?_
          refine r_iload_n (pc := 31) dX12_weakLabels_31 (i := 3) rfl rfl ?_
          refine r_iload (pc := 32) dX12_weakLabels_32 rfl ?_
          have hq34_11 := shr_le (Int.toNat r9_9) (Int.toNat v19_4)
          refine r_ishr (pc := 34) (v := iv ((Int.toNat r9_9 >>> Int.toNat v19_4 : Nat) : Int)) dX12_weakLabels_34 (shr_e (by omega) (by omega)) ?_
          refine r_iconst (pc := 35) (v := iv 1) dX12_weakLabels_35 (by decide) ?_
          refine r_iand (pc := 36) (v := iv (((Int.toNat r9_9 >>> Int.toNat v19_4 : Nat) : Int) % 2)) dX12_weakLabels_36 (and1_e _ (by omega)) ?_
          have mb36 := @Me_bit r9_9 v19_4
          refine r_iconst (pc := 37) (v := iv 1) dX12_weakLabels_37 (by decide) ?_
          refine t_icmp_ne (pc := 38) (tgt := 45) dX12_weakLabels_38 (by decide) (by omega) (by omega) (fun c38 => ?_) (fun c38 => ?_)
          · have nm38 : ¬ Me r9_9 (Int.toNat v19_4) := fun h9 => absurd (Me_bit.mpr h9) (by omega)
            refine r_aload_n (pc := 45) dX12_weakLabels_45 (i := 0) rfl rfl ?_
            refine t_getE (pc := 46) (.ref (y + 31)) ht19 (rd_of RX_y) fX12_103 dX12_weakLabels_46 rfl ?_
            refine r_iload (pc := 49) dX12_weakLabels_49 rfl ?_
            refine t_ialdX (pc := 51) (t0 := 0) ht19 (rd_of RX_label) dX12_weakLabels_51 rfl (by decide) (by omega) (fun b12 => ?_)
            have rb12 := (show Rfx 16 0 65535 lb19 by assumption) (Int.toNat v19_4) (by omega)
            refine t_iastX (pc := 52) (t0 := 0) ht19 RX_label dX12_weakLabels_52 rfl (by decide) (by omega) (by omega) (fun hp13 ht14 => ?_)
            have ht15 := RXw_lb ht14
            have hqht15 : Rfx 16 0 65535 (fup lb19 (Int.toNat v19_4) (lb19 (Int.toNat v19_4))) := Rfx_up (by assumption) (by omega)
            refine r_iinc (pc := 53) (v := iv (v19_4 + 1)) (lv' := [(4, .int (iv (v19_4 + 1))), (0, .ref y), (1, .int (iv x1)), (2, .int (iv v6_2)), (3, .int (iv r9_9))]) dX12_weakLabels_53 rfl (iv_add _ _) (by decide) rfl ?_
            refine r_goto (pc := 56) (tgt := 19) dX12_weakLabels_56 (by decide) ?_
            refine Rn.pick (lv' := [(0, .ref y), (1, .int (iv x1)), (2, .int (iv v6_2)), (3, .int (iv r9_9)), (4, .int (iv (v19_4 + 1)))]) [1, 2, 3, 4, 0] rfl ?_
            exact ih19 (Int.toNat (16 - (v19_4 + 1))) (by omega) (fup lb19 (Int.toNat v19_4) (lb19 (Int.toNat v19_4))) _ ht15 (v19_4 + 1) ⟨by omega, by omega, by assumption, by omega, by (first | exact la2_0 _ _ | exact la2_y (by assumption) (by omega) pm38 | exact la2_n (by assumption) (by omega) nm38)⟩ (by omega)
          · have pm38 : Me r9_9 (Int.toNat v19_4) := Me_bit.mp (by omega)
            refine r_iload_n (pc := 41) dX12_weakLabels_41 (i := 3) rfl rfl ?_
            refine r_goto (pc := 42) (tgt := 52) dX12_weakLabels_42 (by decide) ?_
            refine t_iastX (pc := 52) (t0 := 0) ht19 RX_label dX12_weakLabels_52 rfl (by decide) (by omega) (by omega) (fun hp16 ht17 => ?_)
            have ht18 := RXw_lb ht17
            have hqht18 : Rfx 16 0 65535 (fup lb19 (Int.toNat v19_4) r9_9) := Rfx_up (by assumption) (by omega)
            refine r_iinc (pc := 53) (v := iv (v19_4 + 1)) (lv' := [(4, .int (iv (v19_4 + 1))), (0, .ref y), (1, .int (iv x1)), (2, .int (iv v6_2)), (3, .int (iv r9_9))]) dX12_weakLabels_53 rfl (iv_add _ _) (by decide) rfl ?_
            refine r_goto (pc := 56) (tgt := 19) dX12_weakLabels_56 (by decide) ?_
            refine Rn.pick (lv' := [(0, .ref y), (1, .int (iv x1)), (2, .int (iv v6_2)), (3, .int (iv r9_9)), (4, .int (iv (v19_4 + 1)))]) [1, 2, 3, 4, 0] rfl ?_
            exact ih19 (Int.toNat (16 - (v19_4 + 1))) (by omega) (fup lb19 (Int.toNat v19_4) r9_9) _ ht18 (v19_4 + 1) ⟨by omega, by omega, by assumption, by omega, by (first | exact la2_0 _ _ | exact la2_y (by assumption) (by omega) pm38 | exact la2_n (by assumption) (by omega) nm38)⟩ (by omega)
      refine Rn.pick (lv' := [(0, .ref y), (1, .int (iv x1)), (2, .int (iv v6_2)), (3, .int (iv r9_9)), (4, .int (iv 0))]) [2, 3, 4, 1, 0] rfl ?_
      exact B19 (Int.toNat (16 - 0)) lb6 _ ht8 0 ⟨by omega, by omega, by assumption, by omega, by (first | exact la2_0 _ _ | exact la2_y (by assumption) (by omega) pm38 | exact la2_n (by assumption) (by omega) nm38)⟩ (by omega)
  refine Rn.pick (lv' := [(0, .ref y), (1, .int (iv x1)), (2, .int (iv (((2 ^ Int.toNat x1 : Nat) : Int) - 1)))]) [1, 2, 0] rfl ?_
  exact B6 (Int.toNat ((((2 ^ Int.toNat x1 : Nat) : Int) - 1))) lb _ ht (((2 ^ Int.toNat x1 : Nat) : Int) - 1) ⟨by omega, by omega, by omega, by assumption, by (first | assumption | exact lf0_0 hJ), by (first | assumption | exact wl_0)⟩ (by omega)
set_option maxHeartbeats 4000000 in
set_option maxRecDepth 100000 in
theorem x_X12_bridgesOf {D : va_G} {cI cJ cZ cT : ClassId} {lo b L : Nat} {xs : Nat → Int32} {hp : MH} {n d : Nat} {Γ : TG} {y : Nat} {rf cn nm : Int} {so sz dr mn fr tt wt co : Nat → Int} {nu : Nat → Int64} {sa : Nat → Int} {wo : Nat → Int64} {ln : Nat → Int} {hw : Nat → Int64} {ro qi qc nf nt nw nc : Nat → Int} {cl nx : Nat → Int64} {ie be sd bl : Nat → Int} {bs wy ra rb : Nat → Int64} {lb bg os js ls : Nat → Int} {sp : Nat → Int64} {jw go : Nat → Int} {de : Nat → Int64} {yb ah im : Nat → Int} {x1 : Int} {Po9 : Option Value → MH → Nat → Prop} (hd0 : 2 ≤ d) (hR_many : Rfx 121 0 60 mn) (hR_sizes : Rfx 121 0 16 sz) (hR_from : Rfx 7260 0 15 fr) (hR_to : Rfx 7260 0 15 tt) (hR_beside : Rfx 16 0 65535 be) (hR_bridge : Rfx 60 0 1 bg) (ht : Tw (RX Γ cI cJ cZ y rf cn nm so sz dr mn fr tt wt co nu sa wo ln hw ro qi qc nf nt nw nc cl nx ie be sd bl bs wy ra rb lb bg os js ls sp jw go de yb ah im) hp) (hx1 : 0 ≤ x1 ∧ x1 ≤ 120) (hEn : enP fr tt mn sz x1) (hPo : ∀ r hp1 n1, (n1 = n ∧ ∃ (r9 : Int) (b1 : Nat → Int) (g1 : Nat → Int), Tw (RX Γ cI cJ cZ y rf cn nm so sz dr mn fr tt wt co nu sa wo ln hw ro qi qc nf nt nw nc cl nx ie b1 sd bl bs wy ra rb lb g1 os js ls sp jw go de yb ah im) hp1 ∧ r = some (.int (iv r9)) ∧ (0 ≤ r9 ∧ r9 ≤ 60) ∧ (Rfx 16 0 65535 b1) ∧ (Rfx 60 0 1 g1) ∧ (bgP (Int.toNat (mn (Int.toNat x1))) (sh fr (60 * x1)) (sh tt (60 * x1)) (mn (Int.toNat x1)) g1) ∧ (r9 = 0 → ∀ j : Nat, (j : Int) < (mn (Int.toNat x1)) → g1 j = 0)) → Po9 r hp1 n1) : Mt (gG D cI cJ cZ cT lo b L xs) mX12_bridgesOf d 0 0 [.ref y, .int (iv x1)] hp n Po9 := by
  refine Mt.of rfl (Nat.le_of_ble_eq_true rfl) ?_
  refine Rn.pick (lv' := [(0, .ref y), (1, .int (iv x1))]) [0, 1] rfl ?_
  have rmn := hR_many (Int.toNat x1) (by omega)
  have rsz := hR_sizes (Int.toNat x1) (by omega)
  have hFT := enF hEn (by assumption) (by assumption) (by omega) (by omega)
  refine r_aload_n (pc := 0) dX12_bridgesOf_0 (i := 0) rfl rfl ?_
  refine t_getE (pc := 1) (.ref (y + 2)) ht (rd_of RX_y) fX12_13 dX12_bridgesOf_1 rfl ?_
  refine r_iload_n (pc := 4) dX12_bridgesOf_4 (i := 1) rfl rfl ?_
  refine t_ialdX (pc := 5) (t0 := 0) ht (rd_of RX_sizes) dX12_bridgesOf_5 rfl (by decide) (by omega) (fun b1 => ?_)
  have rb1 := (show Rfx 121 0 16 sz by assumption) (Int.toNat x1) (by omega)
  refine r_istore_n (pc := 6) (lv' := [(2, .int (iv (sz (Int.toNat x1)))), (0, .ref y), (1, .int (iv x1))]) dX12_bridgesOf_6 (i := 2) rfl (by decide) rfl ?_
  refine r_aload_n (pc := 7) dX12_bridgesOf_7 (i := 0) rfl rfl ?_
  refine r_iload_n (pc := 8) dX12_bridgesOf_8 (i := 1) rfl rfl ?_
  refine r_iconst (pc := 9) (v := iv (-1)) dX12_bridgesOf_9 (by decide) ?_
  obtain ⟨fs6, hfs6⟩ := t_obj ht (rd_of RX_y)
  refine r_callV (pc := 10) (as := [.int (iv x1), .int (iv (-1))]) (st := []) kX12_234 rfl dX12_bridgesOf_10 hfs6 (x_X12_joinsOf (d := d - 1) (x1 := x1) (x2 := (-1)) (by omega) (by assumption) (by assumption) (by assumption) (by assumption) (by assumption) ht (by omega) (by omega) (by assumption) (fun _ _ _ h => h)) rfl (by omega) (Nat.le_of_ble_eq_true rfl) (Nat.zero_le _) (Nat.zero_le _) rfl (fun r3 hp2 n4 hq5 => ?_)
  obtain ⟨hnn4, b1_8, ht7, hrr3, hhq50, hhq51⟩ := hq5
  subst n4 r3
  have hhq50 : Rfx 16 0 65535 b1_8 := hhq50
  have hhq51 : jbP b1_8 (Int.toNat (mn (Int.toNat x1))) (sh fr (60 * x1)) (sh tt (60 * x1)) (fun k => (k : Int) ≠ (-1)) := hhq51
  change Rn _ _ _ 13 _ [] _ _ _ _ _
  have hJ0 := jb_sym hhq51 hFT (by omega)
  refine r_aload_n (pc := 13) dX12_bridgesOf_13 (i := 0) rfl rfl ?_
  refine r_iload_n (pc := 14) dX12_bridgesOf_14 (i := 2) rfl rfl ?_
  obtain ⟨fs13, hfs13⟩ := t_obj ht7 (rd_of RX_y)
  refine r_callV (pc := 15) (as := [.int (iv (sz (Int.toNat x1)))]) (st := []) kX12_304 rfl dX12_bridgesOf_15 hfs13 (x_X12_weakCount (d := d - 1) (x1 := sz (Int.toNat x1)) (by omega) (by assumption) ht7 (by omega) (by assumption) (fun _ _ _ h => h)) rfl (by omega) (Nat.le_of_ble_eq_true rfl) (Nat.zero_le _) (Nat.zero_le _) rfl (fun r10 hp9 n11 hq12 => ?_)
  obtain ⟨hnn11, r9_15, ht14, hrr10, hhq120, hhq121⟩ := hq12
  subst n11 r10
  have hhq120 : 0 ≤ r9_15 ∧ r9_15 ≤ 16 := hhq120
  have hhq121 : r9_15 = (cnP (fsP (EB b1_8)) (Int.toNat (sz (Int.toNat x1))) : Int) := hhq121
  change Rn _ _ _ 18 _ [.int (iv r9_15)] _ _ _ _ _
  refine r_istore_n (pc := 18) (lv' := [(3, .int (iv r9_15)), (2, .int (iv (sz (Int.toNat x1)))), (0, .ref y), (1, .int (iv x1))]) dX12_bridgesOf_18 (i := 3) rfl (by decide) rfl ?_
  refine r_iconst (pc := 19) (v := iv 0) dX12_bridgesOf_19 (by decide) ?_
  refine r_istore (pc := 20) (lv' := [(4, .int (iv 0)), (3, .int (iv r9_15)), (2, .int (iv (sz (Int.toNat x1)))), (0, .ref y), (1, .int (iv x1))]) dX12_bridgesOf_20 (by decide) rfl ?_
  refine r_iconst (pc := 22) (v := iv 0) dX12_bridgesOf_22 (by decide) ?_
  refine r_istore (pc := 23) (lv' := [(5, .int (iv 0)), (4, .int (iv 0)), (3, .int (iv r9_15)), (2, .int (iv (sz (Int.toNat x1)))), (0, .ref y), (1, .int (iv x1))]) dX12_bridgesOf_23 (by decide) rfl ?_
  have B25 : ∀ k : Nat, ∀ be25 : Nat → Int, ∀ bg25 : Nat → Int, ∀ hp25 : MH, Tw (RX Γ cI cJ cZ y rf cn nm so sz dr mn fr tt wt co nu sa wo ln hw ro qi qc nf nt nw nc cl nx ie be25 sd bl bs wy ra rb lb bg25 os js ls sp jw go de yb ah im) hp25 → ∀  (v25_4 : Int) (v25_5 : Int), 0 ≤ v25_4 ∧ v25_4 ≤ 60 ∧ 0 ≤ v25_5 ∧ v25_5 ≤ 60 ∧ (Rfx 16 0 65535 be25) ∧ (Rfx 60 0 1 bg25) ∧ (v25_5 ≤ (mn (Int.toNat x1))) ∧ (v25_4 ≤ v25_5) ∧ (bgP (Int.toNat (mn (Int.toNat x1))) (sh fr (60 * x1)) (sh tt (60 * x1)) v25_5 bg25) ∧ (v25_4 = 0 → ∀ j : Nat, (j : Int) < v25_5 → bg25 j = 0) → 60 - v25_5 ≤ (k : Int) → Rn (gG D cI cJ cZ cT lo b L xs) mX12_bridgesOf d 25 [(0, .ref y), (1, .int (iv x1)), (2, .int (iv (sz (Int.toNat x1)))), (3, .int (iv r9_15)), (4, .int (iv v25_4)), (5, .int (iv v25_5))] [] hp25 n 0 0 Po9 := by
    refine lpS _ ?_
    intro k25 ih25 be25 bg25 hp25 ht25 v25_4 v25_5 hf25 hm25
    obtain ⟨hf25_0, hf25_1, hf25_2, hf25_3, ha25_4, ha25_5, hf25_6, hf25_7, ha25_8, ha25_9⟩ := hf25
    refine r_iload (pc := 25) dX12_bridgesOf_25 rfl ?_
    refine r_aload_n (pc := 27) dX12_bridgesOf_27 (i := 0) rfl rfl ?_
    refine t_getE (pc := 28) (.ref (y + 4)) ht25 (rd_of RX_y) fX12_20 dX12_bridgesOf_28 rfl ?_
    refine r_iload_n (pc := 31) dX12_bridgesOf_31 (i := 1) rfl rfl ?_
    refine t_ialdX (pc := 32) (t0 := 0) ht25 (rd_of RX_many) dX12_bridgesOf_32 rfl (by decide) (by omega) (fun b16 => ?_)
    have rb16 := (show Rfx 121 0 60 mn by assumption) (Int.toNat x1) (by omega)
    refine t_icmp_ge (pc := 33) (tgt := 90) dX12_bridgesOf_33 (by decide) (by omega) (by omega) (fun c33 => ?_) (fun c33 => ?_)
    · refine r_iload (pc := 90) dX12_bridgesOf_90 rfl ?_
      exact r_iret (pc := 92) dX12_bridgesOf_92 rfl (hPo _ _ _ ⟨rfl, v25_4, be25, bg25, ht25, rfl, (by omega), (by assumption), (by assumption), (by (have h8 : bgP (Int.toNat (mn (Int.toNat x1))) (sh fr (60 * x1)) (sh tt (60 * x1)) v25_5 _ := (by assumption); rw [show v25_5 = (mn (Int.toNat x1)) by omega] at h8; exact h8)), (by (rw [← show v25_5 = (mn (Int.toNat x1)) by omega]; assumption))⟩)
    · refine r_aload_n (pc := 36) dX12_bridgesOf_36 (i := 0) rfl rfl ?_
      refine r_iload_n (pc := 37) dX12_bridgesOf_37 (i := 1) rfl rfl ?_
      refine r_iload (pc := 38) dX12_bridgesOf_38 rfl ?_
      obtain ⟨fs21, hfs21⟩ := t_obj ht25 (rd_of RX_y)
      refine r_callV (pc := 40) (as := [.int (iv x1), .int (iv v25_5)]) (st := []) kX12_234 rfl dX12_bridgesOf_40 hfs21 (x_X12_joinsOf (d := d - 1) (x1 := x1) (x2 := v25_5) (by omega) (by assumption) (by assumption) (by assumption) (by assumption) (by assumption) ht25 (by omega) (by omega) (by assumption) (fun _ _ _ h => h)) rfl (by omega) (Nat.le_of_ble_eq_true rfl) (Nat.zero_le _) (Nat.zero_le _) rfl (fun r18 hp17 n19 hq20 => ?_)
      obtain ⟨hnn19, b1_23, ht22, hrr18, hhq200, hhq201⟩ := hq20
      subst n19 r18
      have hhq200 : Rfx 16 0 65535 b1_23 := hhq200
      have hhq201 : jbP b1_23 (Int.toNat (mn (Int.toNat x1))) (sh fr (60 * x1)) (sh tt (60 * x1)) (fun k => (k : Int) ≠ v25_5) := hhq201
      change Rn _ _ _ 43 _ [] _ _ _ _ _
      have hJ1 := jb_sym hhq201 hFT (by omega)
      refine r_aload_n (pc := 43) dX12_bridgesOf_43 (i := 0) rfl rfl ?_
      refine t_getE (pc := 44) (.ref (y + 32)) ht22 (rd_of RX_y) fX12_106 dX12_bridgesOf_44 rfl ?_
      refine r_iload (pc := 47) dX12_bridgesOf_47 rfl ?_
      refine r_aload_n (pc := 49) dX12_bridgesOf_49 (i := 0) rfl rfl ?_
      refine r_iload_n (pc := 50) dX12_bridgesOf_50 (i := 2) rfl rfl ?_
      obtain ⟨fs28, hfs28⟩ := t_obj ht22 (rd_of RX_y)
      refine r_callV (pc := 51) (as := [.int (iv (sz (Int.toNat x1)))]) (st := [.int (iv v25_5), .ref (y + 32)]) kX12_304 rfl dX12_bridgesOf_51 hfs28 (x_X12_weakCount (d := d - 1) (x1 := sz (Int.toNat x1)) (by omega) (by assumption) ht22 (by omega) (by assumption) (fun _ _ _ h => h)) rfl (by omega) (Nat.le_of_ble_eq_true rfl) (Nat.zero_le _) (Nat.zero_le _) rfl (fun r25 hp24 n26 hq27 => ?_)
      obtain ⟨hnn26, r9_30, ht29, hrr25, hhq270, hhq271⟩ := hq27
      subst n26 r25
      have hhq270 : 0 ≤ r9_30 ∧ r9_30 ≤ 16 := hhq270
      have hhq271 : r9_30 = (cnP (fsP (EB b1_23)) (Int.toNat (sz (Int.toNat x1))) : Int) := hhq271
      change Rn _ _ _ 54 _ [.int (iv r9_30), .int (iv v25_5), .ref (y + 32)] _ _ _ _ _
      refine r_iload_n (pc := 54) dX12_bridgesOf_54 (i := 3) rfl rfl ?_
      refine t_icmp_le (pc := 55) (tgt := 62) dX12_bridgesOf_55 (by decide) (by omega) (by omega) (fun c55 => ?_) (fun c55 => ?_)
      · refine r_iconst (pc := 62) (v := iv 0) dX12_bridgesOf_62 (by decide) ?_
        refine t_zastX (pc := 63) (t0 := 2) ht29 RX_bridge dX12_bridgesOf_63 rfl (by decide) (by omega) (by omega) (fun hp31 ht32 => ?_)
        have ht33 := RXw_bg ht32
        have hqht33 : Rfx 60 0 1 (fup bg25 (Int.toNat v25_5) 0) := Rfx_up (by assumption) (by omega)
        have hbg63 : bgP (Int.toNat (mn (Int.toNat x1))) (sh fr (60 * x1)) (sh tt (60 * x1)) (v25_5 + 1) (fup bg25 (Int.toNat v25_5) 0) := bg_up (by assumption) (by omega) (by omega) hFT (by omega) hhq51 hhq201 hhq121 hhq271 (by omega)
        have hbz63 : v25_4 + 0 = 0 → ∀ j : Nat, (j : Int) < v25_5 + 1 → (fup bg25 (Int.toNat v25_5) 0) j = 0 := fun h9 => bz_up (by assumption) (by omega) (by omega) (by omega)
        refine r_iload (pc := 64) dX12_bridgesOf_64 rfl ?_
        refine r_aload_n (pc := 66) dX12_bridgesOf_66 (i := 0) rfl rfl ?_
        refine t_getE (pc := 67) (.ref (y + 32)) ht33 (rd_of RX_y) fX12_106 dX12_bridgesOf_67 rfl ?_
        refine r_iload (pc := 70) dX12_bridgesOf_70 rfl ?_
        refine t_zaldX (pc := 72) (t0 := 2) ht33 (rd_of RX_bridge) dX12_bridgesOf_72 rfl (by decide) (by omega) (fun b34 => ?_)
        have rb34 := (show Rfx 60 0 1 (fup bg25 (Int.toNat v25_5) 0) by assumption) (Int.toNat v25_5) (by omega)
        have hfs72 : (fup bg25 (Int.toNat v25_5) 0) (Int.toNat v25_5) = 0 := fup_s _ _ _
        refine t_if_eq (pc := 73) (tgt := 80) dX12_bridgesOf_73 (by decide) (by omega) (fun c73 => ?_) (fun c73 => ?_)
        · refine r_iconst (pc := 80) (v := iv 0) dX12_bridgesOf_80 (by decide) ?_
          refine r_iadd (pc := 81) (v := iv (v25_4 + 0)) dX12_bridgesOf_81 (iv_add _ _) ?_
          refine r_istore (pc := 82) (lv' := [(4, .int (iv (v25_4 + 0))), (0, .ref y), (1, .int (iv x1)), (2, .int (iv (sz (Int.toNat x1)))), (3, .int (iv r9_15)), (5, .int (iv v25_5))]) dX12_bridgesOf_82 (by decide) rfl ?_
          refine r_iinc (pc := 84) (v := iv (v25_5 + 1)) (lv' := [(5, .int (iv (v25_5 + 1))), (4, .int (iv (v25_4 + 0))), (0, .ref y), (1, .int (iv x1)), (2, .int (iv (sz (Int.toNat x1)))), (3, .int (iv r9_15))]) dX12_bridgesOf_84 rfl (iv_add _ _) (by decide) rfl ?_
          refine r_goto (pc := 87) (tgt := 25) dX12_bridgesOf_87 (by decide) ?_
          refine Rn.pick (lv' := [(0, .ref y), (1, .int (iv x1)), (2, .int (iv (sz (Int.toNat x1)))), (3, .int (iv r9_15)), (4, .int (iv (v25_4 + 0))), (5, .int (iv (v25_5 + 1)))]) [2, 3, 4, 5, 1, 0] rfl ?_
          exact ih25 (Int.toNat (60 - (v25_5 + 1))) (by omega) b1_23 (fup bg25 (Int.toNat v25_5) 0) _ ht33 (v25_4 + 0) (v25_5 + 1) ⟨by omega, by omega, by omega, by omega, by assumption, by assumption, by omega, by omega, by (first | assumption | (intro j hj; omega)), by (first | assumption | (intro _ j hj; omega) | (intro h9; exact hbz63 (by omega)) | (intro h9; exfalso; omega))⟩ (by omega)
        · refine r_iconst (pc := 76) (v := iv 1) dX12_bridgesOf_76 (by decide) ?_
          refine r_goto (pc := 77) (tgt := 81) dX12_bridgesOf_77 (by decide) ?_
          refine r_iadd (pc := 81) (v := iv (v25_4 + 1)) dX12_bridgesOf_81 (iv_add _ _) ?_
          refine r_istore (pc := 82) (lv' := [(4, .int (iv (v25_4 + 1))), (0, .ref y), (1, .int (iv x1)), (2, .int (iv (sz (Int.toNat x1)))), (3, .int (iv r9_15)), (5, .int (iv v25_5))]) dX12_bridgesOf_82 (by decide) rfl ?_
          refine r_iinc (pc := 84) (v := iv (v25_5 + 1)) (lv' := [(5, .int (iv (v25_5 + 1))), (4, .int (iv (v25_4 + 1))), (0, .ref y), (1, .int (iv x1)), (2, .int (iv (sz (Int.toNat x1)))), (3, .int (iv r9_15))]) dX12_bridgesOf_84 rfl (iv_add _ _) (by decide) rfl ?_
          refine r_goto (pc := 87) (tgt := 25) dX12_bridgesOf_87 (by decide) ?_
          refine Rn.pick (lv' := [(0, .ref y), (1, .int (iv x1)), (2, .int (iv (sz (Int.toNat x1)))), (3, .int (iv r9_15)), (4, .int (iv (v25_4 + 1))), (5, .int (iv (v25_5 + 1)))]) [2, 3, 4, 5, 1, 0] rfl ?_
          exact ih25 (Int.toNat (60 - (v25_5 + 1))) (by omega) b1_23 (fup bg25 (Int.toNat v25_5) 0) _ ht33 (v25_4 + 1) (v25_5 + 1) ⟨by omega, by omega, by omega, by omega, by assumption, by assumption, by omega, by omega, by (first | assumption | (intro j hj; omega)), by (first | assumption | (intro _ j hj; omega) | (intro h9; exact hbz63 (by omega)) | (intro h9; exfalso; omega))⟩ (by omega)
      · refine r_iconst (pc := 58) (v := iv 1) dX12_bridgesOf_58 (by decide) ?_
        refine r_goto (pc := 59) (tgt := 63) dX12_bridgesOf_59 (by decide) ?_
        refine t_zastX (pc := 63) (t0 := 2) ht29 RX_bridge dX12_bridgesOf_63 rfl (by decide) (by omega) (by omega) (fun hp35 ht36 => ?_)
        have ht37 := RXw_bg ht36
        have hqht37 : Rfx 60 0 1 (fup bg25 (Int.toNat v25_5) 1) := Rfx_up (by assumption) (by omega)
        have hbg63 : bgP (Int.toNat (mn (Int.toNat x1))) (sh fr (60 * x1)) (sh tt (60 * x1)) (v25_5 + 1) (fup bg25 (Int.toNat v25_5) 1) := bg_up (by assumption) (by omega) (by omega) hFT (by omega) hhq51 hhq201 hhq121 hhq271 (by omega)
        have hbz63 : v25_4 + 1 = 0 → ∀ j : Nat, (j : Int) < v25_5 + 1 → (fup bg25 (Int.toNat v25_5) 1) j = 0 := fun h9 => bz_up (by assumption) (by omega) (by omega) (by omega)
        refine r_iload (pc := 64) dX12_bridgesOf_64 rfl ?_
        refine r_aload_n (pc := 66) dX12_bridgesOf_66 (i := 0) rfl rfl ?_
        refine t_getE (pc := 67) (.ref (y + 32)) ht37 (rd_of RX_y) fX12_106 dX12_bridgesOf_67 rfl ?_
        refine r_iload (pc := 70) dX12_bridgesOf_70 rfl ?_
        refine t_zaldX (pc := 72) (t0 := 2) ht37 (rd_of RX_bridge) dX12_bridgesOf_72 rfl (by decide) (by omega) (fun b38 => ?_)
        have rb38 := (show Rfx 60 0 1 (fup bg25 (Int.toNat v25_5) 1) by assumption) (Int.toNat v25_5) (by omega)
        have hfs72 : (fup bg25 (Int.toNat v25_5) 1) (Int.toNat v25_5) = 1 := fup_s _ _ _
        refine t_if_eq (pc := 73) (tgt := 80) dX12_bridgesOf_73 (by decide) (by omega) (fun c73 => ?_) (fun c73 => ?_)
        · refine r_iconst (pc := 80) (v := iv 0) dX12_bridgesOf_80 (by decide) ?_
          refine r_iadd (pc := 81) (v := iv (v25_4 + 0)) dX12_bridgesOf_81 (iv_add _ _) ?_
          refine r_istore (pc := 82) (lv' := [(4, .int (iv (v25_4 + 0))), (0, .ref y), (1, .int (iv x1)), (2, .int (iv (sz (Int.toNat x1)))), (3, .int (iv r9_15)), (5, .int (iv v25_5))]) dX12_bridgesOf_82 (by decide) rfl ?_
          refine r_iinc (pc := 84) (v := iv (v25_5 + 1)) (lv' := [(5, .int (iv (v25_5 + 1))), (4, .int (iv (v25_4 + 0))), (0, .ref y), (1, .int (iv x1)), (2, .int (iv (sz (Int.toNat x1)))), (3, .int (iv r9_15))]) dX12_bridgesOf_84 rfl (iv_add _ _) (by decide) rfl ?_
          refine r_goto (pc := 87) (tgt := 25) dX12_bridgesOf_87 (by decide) ?_
          refine Rn.pick (lv' := [(0, .ref y), (1, .int (iv x1)), (2, .int (iv (sz (Int.toNat x1)))), (3, .int (iv r9_15)), (4, .int (iv (v25_4 + 0))), (5, .int (iv (v25_5 + 1)))]) [2, 3, 4, 5, 1, 0] rfl ?_
          exact ih25 (Int.toNat (60 - (v25_5 + 1))) (by omega) b1_23 (fup bg25 (Int.toNat v25_5) 1) _ ht37 (v25_4 + 0) (v25_5 + 1) ⟨by omega, by omega, by omega, by omega, by assumption, by assumption, by omega, by omega, by (first | assumption | (intro j hj; omega)), by (first | assumption | (intro _ j hj; omega) | (intro h9; exact hbz63 (by omega)) | (intro h9; exfalso; omega))⟩ (by omega)
        · refine r_iconst (pc := 76) (v := iv 1) dX12_bridgesOf_76 (by decide) ?_
          refine r_goto (pc := 77) (tgt := 81) dX12_bridgesOf_77 (by decide) ?_
          refine r_iadd (pc := 81) (v := iv (v25_4 + 1)) dX12_bridgesOf_81 (iv_add _ _) ?_
          refine r_istore (pc := 82) (lv' := [(4, .int (iv (v25_4 + 1))), (0, .ref y), (1, .int (iv x1)), (2, .int (iv (sz (Int.toNat x1)))), (3, .int (iv r9_15)), (5, .int (iv v25_5))]) dX12_bridgesOf_82 (by decide) rfl ?_
          refine r_iinc (pc := 84) (v := iv (v25_5 + 1)) (lv' := [(5, .int (iv (v25_5 + 1))), (4, .int (iv (v25_4 + 1))), (0, .ref y), (1, .int (iv x1)), (2, .int (iv (sz (Int.toNat x1)))), (3, .int (iv r9_15))]) dX12_bridgesOf_84 rfl (iv_add _ _) (by decide) rfl ?_
          refine r_goto (pc := 87) (tgt := 25) dX12_bridgesOf_87 (by decide) ?_
          refine Rn.pick (lv' := [(0, .ref y), (1, .int (iv x1)), (2, .int (iv (sz (Int.toNat x1)))), (3, .int (iv r9_15)), (4, .int (iv (v25_4 + 1))), (5, .int (iv (v25_5 + 1)))]) [2, 3, 4, 5, 1, 0] rfl ?_
          exact ih25 (Int.toNat (60 - (v25_5 + 1))) (by omega) b1_23 (fup bg25 (Int.toNat v25_5) 1) _ ht37 (v25_4 + 1) (v25_5 + 1) ⟨by omega, by omega, by omega, by omega, by assumption, by assumption, by omega, by omega, by (first | assumption | (intro j hj; omega)), by (first | assumption | (intro _ j hj; omega) | (intro h9; exact hbz63 (by omega)) | (intro h9; exfalso; omega))⟩ (by omega)
  refine Rn.pick (lv' := [(0, .ref y), (1, .int (iv x1)), (2, .int (iv (sz (Int.toNat x1)))), (3, .int (iv r9_15)), (4, .int (iv 0)), (5, .int (iv 0))]) [4, 5, 3, 2, 1, 0] rfl ?_
  exact B25 (Int.toNat (60 - 0)) b1_8 bg _ ht14 0 0 ⟨by omega, by omega, by omega, by omega, by assumption, by assumption, by omega, by omega, by (first | assumption | (intro j hj; omega)), by (first | assumption | (intro _ j hj; omega) | (intro h9; exact hbz63 (by omega)) | (intro h9; exfalso; omega))⟩ (by omega)
