/-- j can be placed next, when f tells the first p that were placed -/
def frN (m : Nat) (F T : Nat → Int) (n : Nat) (f : Nat → Nat) (p j : Nat) : Prop := j < n ∧ (∀ q, q < p → f q ≠ j) ∧ ∀ k, k < m → T k = (j : Int) → ∃ q, q < p ∧ F k = (f q : Int)
def fsN (m : Nat) (F T : Nat → Int) (n : Nat) (f : Nat → Nat) (p : Nat) : Prop := frN m F T n f p (f p) ∧ ∀ j, j < f p → ¬ frN m F T n f p j
def orA (m : Nat) (d : Int) (F T : Nat → Int) (n x : Nat) (r : Int) : Prop := (d = 0 ∧ 0 < m ∧ r = -1) ∨ (¬ (d = 0 ∧ 0 < m) ∧ ∃ (f : Nat → Nat) (p : Nat), p ≤ n ∧ (∀ q, q < p → fsN m F T n f q) ∧ ((p = n ∧ r = (f x : Int)) ∨ (p < n ∧ (∀ j, ¬ frN m F T n f p j) ∧ r = -1)))
section OR
variable {m n x : Nat} {d : Int} {F T : Nat → Int} {f g : Nat → Nat} {p : Nat}
theorem fr_c {j : Nat} (h : ∀ q, q < p → f q = g q) (hf : frN m F T n f p j) : frN m F T n g p j := by
  obtain ⟨h1, h2, h3⟩ := hf
  refine ⟨h1, fun q hq => by rw [← h q hq]; exact h2 q hq, fun k hk ht => ?_⟩
  obtain ⟨q, q1, q2⟩ := h3 k hk ht
  exact ⟨q, q1, by rw [← h q q1]; exact q2⟩
theorem fs_uq {p' : Nat} (hf : ∀ q, q < p → fsN m F T n f q) (hg : ∀ q, q < p' → fsN m F T n g q) : ∀ q, q < p → q < p' → f q = g q := by
  intro q
  induction q using Nat.strongRecOn with
  | _ q ih =>
    intro h1 h2
    have e : ∀ i, i < q → f i = g i := fun i hi => ih i hi (by omega) (by omega)
    obtain ⟨a1, a2⟩ := hf q h1
    obtain ⟨b1, b2⟩ := hg q h2
    rcases Nat.lt_trichotomy (f q) (g q) with h | h | h
    · exact absurd (fr_c e a1) (b2 _ h)
    · exact h
    · exact absurd (fr_c (fun i hi => (e i hi).symm) b1) (a2 _ h)
theorem or_uq {r r' : Int} (hx : x < n) (h : orA m d F T n x r) (h' : orA m d F T n x r') : r = r' := by
  rcases h with ⟨a, b, c⟩ | ⟨a, f, p, p1, p2, p3⟩ <;> rcases h' with ⟨a', b', c'⟩ | ⟨a', g, q, q1, q2, q3⟩
  · omega
  · exact absurd ⟨a, b⟩ a'
  · exact absurd ⟨a', b'⟩ a
  · have e := fs_uq p2 q2
    rcases p3 with ⟨e1, e2⟩ | ⟨e1, e2, e3⟩ <;> rcases q3 with ⟨g1, g2⟩ | ⟨g1, g2, g3⟩
    · rw [e2, g2, e x (by omega) (by omega)]
    · exact absurd (fr_c (fun i hi => e i (by omega) hi) (p2 q (by omega)).1) (g2 _)
    · exact absurd (fr_c (fun i hi => (e i hi (by omega)).symm) (q2 p (by omega)).1) (e2 _)
    · omega
/-- the reference: those that are left -/
def ledP (m : Nat) (F T : Nat → Int) (set : Int) (v : Nat) : Prop := ∃ k, k < m ∧ T k = (v : Int) ∧ Me set (F k).toNat
def ldI (F T : Nat → Int) (set v b k : Int) : Prop := (b = 1 ∧ ∃ i : Nat, (i : Int) < k ∧ T i = v ∧ Me set (F i).toNat) ∨ (b = 0 ∧ ∀ i : Nat, (i : Int) < k → ¬ (T i = v ∧ Me set (F i).toNat))
theorem ld_0 {set v : Int} : ldI F T set v 0 0 := Or.inr ⟨rfl, fun i hi => by omega⟩
theorem ld_k {set v b k : Int} (h : ldI F T set v b k) (hb : b ≠ 0) : ldI F T set v 1 (k + 1) := by
  rcases h with ⟨a, i, i1, i2⟩ | ⟨a, -⟩
  · exact Or.inl ⟨rfl, i, by omega, i2⟩
  · exact absurd a hb
theorem ld_y {set v b k : Int} (h0 : 0 ≤ k) (h1 : T k.toNat = v) (h2 : Me set (F k.toNat).toNat) : ldI F T set v 1 (k + 1) := Or.inl ⟨rfl, k.toNat, by omega, h1, h2⟩
theorem ld_n {set v b k : Int} (h : ldI F T set v b k) (hb : b = 0) (h0 : 0 ≤ k) (hn : ¬ (T k.toNat = v ∧ Me set (F k.toNat).toNat)) : ldI F T set v 0 (k + 1) := by
  rcases h with ⟨a, -⟩ | ⟨-, a⟩
  · omega
  · refine Or.inr ⟨rfl, fun i hi => ?_⟩
    by_cases e : i = k.toNat
    · rw [e]; exact hn
    · exact a i (by omega)
theorem ld_end {set v b k : Int} (h : ldI F T set v b k) (hk : k = (m : Int)) (hv : 0 ≤ v) : (b = 1 ∧ ledP m F T set v.toNat) ∨ (b = 0 ∧ ¬ ledP m F T set v.toNat) := by
  have e : ((v.toNat : Nat) : Int) = v := Int.toNat_of_nonneg hv
  rcases h with ⟨a, i, i1, i2, i3⟩ | ⟨a, b⟩
  · exact Or.inl ⟨a, i, by omega, by rw [e]; exact i2, i3⟩
  · refine Or.inr ⟨a, fun ⟨i, i1, i2, i3⟩ => b i (by omega) ⟨by rw [← e]; exact i2, i3⟩⟩
def orI (m : Nat) (F T : Nat → Int) (n x : Nat) (p left a : Int) : Prop := ∃ f : Nat → Nat, (∀ q : Nat, (q : Int) < p → fsN m F T n f q) ∧ (∀ j, Me left j ↔ j < n ∧ ∀ q : Nat, (q : Int) < p → f q ≠ j) ∧ a = (if (x : Int) < p then (f x : Int) else -1)
def orV (m : Nat) (F T : Nat → Int) (left v : Int) : Prop := ∀ j : Nat, (j : Int) < v → ¬ (Me left j ∧ ¬ ledP m F T left j)
theorem orV_0 {left : Int} : orV m F T left 0 := fun j hj => by omega
theorem orV_up {left v : Int} (h : orV m F T left v) (h0 : 0 ≤ v) (hn : ¬ Me left v.toNat ∨ ledP m F T left v.toNat) : orV m F T left (v + 1) := by
  intro j hj
  by_cases e : j = v.toNat
  · rw [e]
    rintro ⟨a, b⟩
    rcases hn with g | g
    · exact g a
    · exact b g
  · exact h j (by omega)
theorem orI_0 {left : Int} (h : ∀ j, Me left j ↔ j < n) : orI m F T n x 0 left (-1) := ⟨fun _ => 0, fun q hq => by omega, fun j => by rw [h j]; exact ⟨fun g => ⟨g, fun q hq => by omega⟩, fun g => g.1⟩, by rw [if_neg (by omega)]⟩
/-- what can be placed, by those that are left -/
theorem fr_left {p' left : Int} {j : Nat} (hF : ∀ k, k < m → (0 ≤ F k ∧ F k < (n : Int))) (hp : 0 ≤ p') (h : ∀ j, Me left j ↔ j < n ∧ ∀ q : Nat, (q : Int) < p' → f q ≠ j) : frN m F T n f p'.toNat j ↔ Me left j ∧ ¬ ledP m F T left j := by
  constructor
  · rintro ⟨a, b, c⟩
    refine ⟨(h j).mpr ⟨a, fun q hq => b q (by omega)⟩, fun ⟨k, k1, k2, k3⟩ => ?_⟩
    obtain ⟨q, q1, q2⟩ := c k k1 k2
    exact ((h _).mp k3).2 q (by omega) (by omega)
  · rintro ⟨a, b⟩
    obtain ⟨a1, a2⟩ := (h j).mp a
    refine ⟨a1, fun q hq => a2 q (by omega), fun k hk ht => Classical.byContradiction (fun hn => b ⟨k, hk, ht, (h _).mpr ⟨by have := hF k hk; omega, fun q hq e => hn ⟨q, by omega, ?_⟩⟩⟩)⟩
    have := hF k hk
    omega
theorem orI_st {p' left v z a : Int} (hF : ∀ k, k < m → (0 ≤ F k ∧ F k < (n : Int))) (hp : 0 ≤ p') (h : orI m F T n x p' left a) (hv : orV m F T left v) (h0 : 0 ≤ v) (hm : Me left v.toNat) (hl : ¬ ledP m F T left v.toNat) (hz : ∀ i, Me z i ↔ Me left i ∧ i ≠ v.toNat) {a' : Int} (ha : ((x : Int) = p' ∧ a' = v) ∨ ((x : Int) ≠ p' ∧ a' = a)) : orI m F T n x (p' + 1) z a' := by
  obtain ⟨f, f1, f2, f3⟩ := h
  have hc : ∀ q : Nat, (q : Int) < p' → (fun i => if i = p'.toNat then v.toNat else f i) q = f q := fun q hq => if_neg (by omega)
  refine ⟨fun i => if i = p'.toNat then v.toNat else f i, fun q hq => ?_, fun j => ?_, ?_⟩
  · by_cases e : q = p'.toNat
    · have ep : (fun i => if i = p'.toNat then v.toNat else f i) q = v.toNat := if_pos e
      refine ⟨?_, fun j hj hfr => ?_⟩
      · rw [ep, e]
        exact fr_c (fun i hi => (hc i (by omega)).symm) ((fr_left hF hp f2).mpr ⟨hm, hl⟩)
      · rw [ep] at hj
        rw [e] at hfr
        exact hv j (by omega) ((fr_left hF hp f2).mp (fr_c (fun i hi => hc i (by omega)) hfr))
    · obtain ⟨g1, g2⟩ := f1 q (by omega)
      refine ⟨?_, fun j hj hfr => ?_⟩
      · show frN m F T n _ q ((fun i => if i = p'.toNat then v.toNat else f i) q)
        rw [hc q (by omega)]
        exact fr_c (fun i hi => (hc i (by omega)).symm) g1
      · have hj2 : j < (fun i => if i = p'.toNat then v.toNat else f i) q := hj
        rw [hc q (by omega)] at hj2
        exact g2 j hj2 (fr_c (fun i hi => hc i (by omega)) hfr)
  · rw [hz j, f2 j]
    constructor
    · rintro ⟨⟨a1, a2⟩, a3⟩
      refine ⟨a1, fun q hq => ?_⟩
      by_cases e : q = p'.toNat
      · show (if q = p'.toNat then v.toNat else f q) ≠ j
        rw [if_pos e]; exact fun h9 => a3 h9.symm
      · show (if q = p'.toNat then v.toNat else f q) ≠ j
        rw [if_neg e]; exact a2 q (by omega)
    · rintro ⟨a1, a2⟩
      refine ⟨⟨a1, fun q hq => ?_⟩, fun h9 => ?_⟩
      · have := a2 q (by omega)
        rw [hc q hq] at this; exact this
      · have h8 : (if p'.toNat = p'.toNat then v.toNat else f p'.toNat) ≠ j := a2 p'.toNat (by omega)
        rw [if_pos rfl] at h8
        exact h8 h9.symm
  · rcases ha with ⟨e1, e2⟩ | ⟨e1, e2⟩
    · rw [if_pos (by omega), e2]
      show v = (((if x = p'.toNat then v.toNat else f x) : Nat) : Int)
      rw [if_pos (by omega)]; omega
    · rw [e2, f3]
      by_cases h9 : (x : Int) < p'
      · rw [if_pos h9, if_pos (by omega)]
        show (f x : Int) = (((if x = p'.toNat then v.toNat else f x) : Nat) : Int)
        rw [if_neg (by omega)]
      · rw [if_neg h9, if_neg (by omega)]
theorem orI_no {p' left v a : Int} (hF : ∀ k, k < m → (0 ≤ F k ∧ F k < (n : Int))) (hd : ¬ (d = 0 ∧ 0 < m)) (hp : 0 ≤ p' ∧ p' < (n : Int)) (h : orI m F T n x p' left a) (hv : orV m F T left v) (hn : (n : Int) ≤ v) : orA m d F T n x (-1) := by
  obtain ⟨f, f1, f2, f3⟩ := h
  refine Or.inr ⟨hd, f, p'.toNat, by omega, fun q hq => f1 q (by omega), Or.inr ⟨by omega, fun j hfr => ?_, rfl⟩⟩
  have h9 := (fr_left hF hp.1 f2).mp hfr
  exact hv j (by have := hfr.1; omega) h9
theorem orI_end {p' left a : Int} (hd : ¬ (d = 0 ∧ 0 < m)) (hx : x < n) (hp : p' = (n : Int)) (h : orI m F T n x p' left a) : orA m d F T n x a := by
  obtain ⟨f, f1, f2, f3⟩ := h
  exact Or.inr ⟨hd, f, n, Nat.le_refl n, fun q hq => f1 q (by omega), Or.inl ⟨rfl, by rw [f3, if_pos (by omega)]⟩⟩
/-- the class: those that are placed -/
def ffP (In : Nat → Int) (n : Nat) (placed : Int) (j : Nat) : Prop := j < n ∧ ¬ Me placed j ∧ ∀ i, Me (In j) i → Me placed i
def ffI (In : Nat → Int) (n : Nat) (placed v : Int) : Prop := ∀ j : Nat, (j : Int) < v → ¬ ffP In n placed j
theorem ffI_0 {In : Nat → Int} {placed : Int} : ffI In n placed 0 := fun j hj => by omega
theorem ffI_up {In : Nat → Int} {placed v : Int} (h : ffI In n placed v) (h0 : 0 ≤ v) (hn : ¬ ffP In n placed v.toNat) : ffI In n placed (v + 1) := by
  intro j hj
  by_cases e : j = v.toNat
  · rw [e]; exact hn
  · exact h j (by omega)
def orJ (m : Nat) (F T : Nat → Int) (n x : Nat) (p placed a : Int) : Prop := ∃ f : Nat → Nat, (∀ q : Nat, (q : Int) < p → fsN m F T n f q) ∧ (∀ j, Me placed j ↔ ∃ q : Nat, (q : Int) < p ∧ f q = j) ∧ a = (if (x : Int) < p then (f x : Int) else -1)
theorem orJ_0 : orJ m F T n x 0 0 (-1) := ⟨fun _ => 0, fun q hq => by omega, fun j => ⟨fun h => absurd h (Me_0 j), fun ⟨q, hq, _⟩ => by omega⟩, by rw [if_neg (by omega)]⟩
theorem fr_pl {In : Nat → Int} {p' placed : Int} {j : Nat} (hd : ¬ (d = 0 ∧ 0 < m)) (hin : rwP In n (fun i j => stP m d F T j i)) (hp : 0 ≤ p') (h : ∀ j, Me placed j ↔ ∃ q : Nat, (q : Int) < p' ∧ f q = j) (hF : ∀ k, k < m → (0 ≤ F k ∧ F k < (n : Int))) : frN m F T n f p'.toNat j ↔ ffP In n placed j := by
  have key : ∀ {i : Nat}, j < n → (Me (In j) i ↔ ∃ k, k < m ∧ F k = (i : Int) ∧ T k = (j : Int)) := by
    intro i hj
    rw [hin.1 j hj i]
    constructor
    · rintro ⟨k, k1, k2⟩
      rcases k2 with ⟨a, b⟩ | ⟨a, -, -⟩
      · exact ⟨k, k1, a, b⟩
      · exact absurd ⟨a, by omega⟩ hd
    · rintro ⟨k, k1, k2, k3⟩
      exact ⟨k, k1, Or.inl ⟨k2, k3⟩⟩
  constructor
  · rintro ⟨a, b, c⟩
    refine ⟨a, fun h9 => ?_, fun i hi => ?_⟩
    · obtain ⟨q, q1, q2⟩ := (h j).mp h9
      exact b q (by omega) q2
    · obtain ⟨k, k1, k2, k3⟩ := (key a).mp hi
      obtain ⟨q, q1, q2⟩ := c k k1 k3
      exact (h i).mpr ⟨q, by omega, by omega⟩
  · rintro ⟨a, b, c⟩
    refine ⟨a, fun q hq e => b ((h j).mpr ⟨q, by omega, e⟩), fun k hk ht => ?_⟩
    have hb := hF k hk
    have h9 := c (F k).toNat ((key a).mpr ⟨k, hk, by omega, ht⟩)
    obtain ⟨q, q1, q2⟩ := (h _).mp h9
    exact ⟨q, by omega, by omega⟩
theorem orJ_st {In : Nat → Int} {p' placed v z a a' : Int} (hd : ¬ (d = 0 ∧ 0 < m)) (hin : rwP In n (fun i j => stP m d F T j i)) (hF : ∀ k, k < m → (0 ≤ F k ∧ F k < (n : Int))) (hp : 0 ≤ p') (h : orJ m F T n x p' placed a) (h0 : 0 ≤ v) (hv : ffP In n placed v.toNat) (hl : ∀ j : Nat, (j : Int) < v → ¬ ffP In n placed j) (hz : ∀ i, Me z i ↔ Me placed i ∨ i = v.toNat) (ha : ((x : Int) = p' ∧ a' = v) ∨ ((x : Int) ≠ p' ∧ a' = a)) : orJ m F T n x (p' + 1) z a' := by
  obtain ⟨f, f1, f2, f3⟩ := h
  have hc : ∀ q : Nat, (q : Int) < p' → (fun i => if i = p'.toNat then v.toNat else f i) q = f q := fun q hq => if_neg (by omega)
  refine ⟨fun i => if i = p'.toNat then v.toNat else f i, fun q hq => ?_, fun j => ?_, ?_⟩
  · by_cases e : q = p'.toNat
    · have ep : (fun i => if i = p'.toNat then v.toNat else f i) q = v.toNat := if_pos e
      refine ⟨?_, fun j hj hfr => ?_⟩
      · rw [ep, e]
        exact fr_c (fun i hi => (hc i (by omega)).symm) ((fr_pl hd hin hp f2 hF).mpr hv)
      · rw [ep] at hj
        rw [e] at hfr
        exact hl j (by omega) ((fr_pl hd hin hp f2 hF).mp (fr_c (fun i hi => hc i (by omega)) hfr))
    · obtain ⟨g1, g2⟩ := f1 q (by omega)
      refine ⟨?_, fun j hj hfr => ?_⟩
      · show frN m F T n _ q ((fun i => if i = p'.toNat then v.toNat else f i) q)
        rw [hc q (by omega)]
        exact fr_c (fun i hi => (hc i (by omega)).symm) g1
      · have hj2 : j < (fun i => if i = p'.toNat then v.toNat else f i) q := hj
        rw [hc q (by omega)] at hj2
        exact g2 j hj2 (fr_c (fun i hi => hc i (by omega)) hfr)
  · rw [hz j, f2 j]
    constructor
    · rintro (⟨q, q1, q2⟩ | e)
      · exact ⟨q, by omega, (hc q q1).trans q2⟩
      · refine ⟨p'.toNat, by omega, ?_⟩
        show (if p'.toNat = p'.toNat then v.toNat else f p'.toNat) = j
        rw [if_pos rfl]; exact e.symm
    · rintro ⟨q, q1, q2⟩
      by_cases e : q = p'.toNat
      · right
        have h8 : (if q = p'.toNat then v.toNat else f q) = j := q2
        rw [if_pos e] at h8
        exact h8.symm
      · left
        rw [hc q (by omega)] at q2
        exact ⟨q, by omega, q2⟩
  · rcases ha with ⟨e1, e2⟩ | ⟨e1, e2⟩
    · rw [if_pos (by omega), e2]
      show v = (((if x = p'.toNat then v.toNat else f x) : Nat) : Int)
      rw [if_pos (by omega)]; omega
    · rw [e2, f3]
      by_cases h9 : (x : Int) < p'
      · rw [if_pos h9, if_pos (by omega)]
        show (f x : Int) = (((if x = p'.toNat then v.toNat else f x) : Nat) : Int)
        rw [if_neg (by omega)]
      · rw [if_neg h9, if_neg (by omega)]
theorem orJ_no {In : Nat → Int} {p' placed a : Int} (hd : ¬ (d = 0 ∧ 0 < m)) (hin : rwP In n (fun i j => stP m d F T j i)) (hF : ∀ k, k < m → (0 ≤ F k ∧ F k < (n : Int))) (hp : 0 ≤ p' ∧ p' < (n : Int)) (h : orJ m F T n x p' placed a) (hl : ∀ j : Nat, ¬ ffP In n placed j) : orA m d F T n x (-1) := by
  obtain ⟨f, f1, f2, f3⟩ := h
  exact Or.inr ⟨hd, f, p'.toNat, by omega, fun q hq => f1 q (by omega), Or.inr ⟨by omega, fun j hfr => hl j ((fr_pl hd hin hp.1 f2 hF).mp hfr), rfl⟩⟩
theorem orJ_end {p' placed a : Int} (hd : ¬ (d = 0 ∧ 0 < m)) (hx : x < n) (hp : p' = (n : Int)) (h : orJ m F T n x p' placed a) : orA m d F T n x a := by
  obtain ⟨f, f1, f2, f3⟩ := h
  exact Or.inr ⟨hd, f, n, Nat.le_refl n, fun q hq => f1 q (by omega), Or.inl ⟨rfl, by rw [f3, if_pos (by omega)]⟩⟩
end OR
set_option maxHeartbeats 4000000 in
set_option maxRecDepth 100000 in
theorem x_X12_isLed {D : va_G} {cI cJ cZ cT : ClassId} {lo b L : Nat} {xs : Nat → Int32} {hp : MH} {n d : Nat} {Γ : TG} {y : Nat} {rf cn nm : Int} {so sz dr mn fr tt wt co : Nat → Int} {nu : Nat → Int64} {sa : Nat → Int} {wo : Nat → Int64} {ln : Nat → Int} {hw : Nat → Int64} {ro qi qc nf nt nw nc : Nat → Int} {cl nx : Nat → Int64} {ie be sd bl : Nat → Int} {bs wy ra rb : Nat → Int64} {lb bg os js ls : Nat → Int} {sp : Nat → Int64} {jw go : Nat → Int} {de : Nat → Int64} {yb ah im : Nat → Int} {x1 x2 x3 : Int} {Po9 : Option Value → MH → Nat → Prop} (hd0 : 1 ≤ d) (hR_many : Rfx 121 0 60 mn) (hR_from : Rfx 7260 0 15 fr) (hR_to : Rfx 7260 0 15 tt) (ht : Tw (RX Γ cI cJ cZ y rf cn nm so sz dr mn fr tt wt co nu sa wo ln hw ro qi qc nf nt nw nc cl nx ie be sd bl bs wy ra rb lb bg os js ls sp jw go de yb ah im) hp) (hx1 : 0 ≤ x1 ∧ x1 ≤ 120) (hx2 : 0 ≤ x2 ∧ x2 ≤ 65535) (hx3 : 0 ≤ x3 ∧ x3 ≤ 15) (hPo : ∀ r hp1 n1, (n1 = n ∧ ∃ (r9 : Int), Tw (RX Γ cI cJ cZ y rf cn nm so sz dr mn fr tt wt co nu sa wo ln hw ro qi qc nf nt nw nc cl nx ie be sd bl bs wy ra rb lb bg os js ls sp jw go de yb ah im) hp1 ∧ r = some (.int (iv r9)) ∧ (0 ≤ r9 ∧ r9 ≤ 1) ∧ ((r9 = 1 ∧ ledP (Int.toNat (mn (Int.toNat x1))) (sh fr (60 * x1)) (sh tt (60 * x1)) x2 (Int.toNat x3)) ∨ (r9 = 0 ∧ ¬ ledP (Int.toNat (mn (Int.toNat x1))) (sh fr (60 * x1)) (sh tt (60 * x1)) x2 (Int.toNat x3)))) → Po9 r hp1 n1) : Mt (gG D cI cJ cZ cT lo b L xs) mX12_isLed d 0 0 [.ref y, .int (iv x1), .int (iv x2), .int (iv x3)] hp n Po9 := by
  refine Mt.of rfl (Nat.le_of_ble_eq_true rfl) ?_
  refine Rn.pick (lv' := [(0, .ref y), (1, .int (iv x1)), (2, .int (iv x2)), (3, .int (iv x3))]) [0, 1, 2, 3] rfl ?_
  have rmn := hR_many (Int.toNat x1) (by omega)
  refine r_iconst (pc := 0) (v := iv 0) dX12_isLed_0 (by decide) ?_
  refine r_istore (pc := 1) (lv' := [(4, .int (iv 0)), (0, .ref y), (1, .int (iv x1)), (2, .int (iv x2)), (3, .int (iv x3))]) dX12_isLed_1 (by decide) rfl ?_
  refine r_iconst (pc := 3) (v := iv 0) dX12_isLed_3 (by decide) ?_
  refine r_istore (pc := 4) (lv' := [(5, .int (iv 0)), (4, .int (iv 0)), (0, .ref y), (1, .int (iv x1)), (2, .int (iv x2)), (3, .int (iv x3))]) dX12_isLed_4 (by decide) rfl ?_
  have B6 : ∀ k : Nat, ∀ hp6 : MH, Tw (RX Γ cI cJ cZ y rf cn nm so sz dr mn fr tt wt co nu sa wo ln hw ro qi qc nf nt nw nc cl nx ie be sd bl bs wy ra rb lb bg os js ls sp jw go de yb ah im) hp6 → ∀  (v6_4 : Int) (v6_5 : Int), 0 ≤ v6_4 ∧ v6_4 ≤ 1 ∧ 0 ≤ v6_5 ∧ v6_5 ≤ 60 ∧ (v6_5 ≤ (mn (Int.toNat x1))) ∧ (ldI (sh fr (60 * x1)) (sh tt (60 * x1)) x2 x3 v6_4 v6_5) → 60 - v6_5 ≤ (k : Int) → Rn (gG D cI cJ cZ cT lo b L xs) mX12_isLed d 6 [(0, .ref y), (1, .int (iv x1)), (2, .int (iv x2)), (3, .int (iv x3)), (4, .int (iv v6_4)), (5, .int (iv v6_5))] [] hp6 n 0 0 Po9 := by
    refine lpS _ ?_
    intro k6 ih6 hp6 ht6 v6_4 v6_5 hf6 hm6
    obtain ⟨hf6_0, hf6_1, hf6_2, hf6_3, hf6_4, ha6_5⟩ := hf6
    refine r_iload (pc := 6) dX12_isLed_6 rfl ?_
    refine r_aload_n (pc := 8) dX12_isLed_8 (i := 0) rfl rfl ?_
    refine t_getE (pc := 9) (.ref (y + 4)) ht6 (rd_of RX_y) fX12_20 dX12_isLed_9 rfl ?_
    refine r_iload_n (pc := 12) dX12_isLed_12 (i := 1) rfl rfl ?_
    refine t_ialdX (pc := 13) (t0 := 0) ht6 (rd_of RX_many) dX12_isLed_13 rfl (by decide) (by omega) (fun b1 => ?_)
    have rb1 := (show Rfx 121 0 60 mn by assumption) (Int.toNat x1) (by omega)
    refine t_icmp_ge (pc := 14) (tgt := 69) dX12_isLed_14 (by decide) (by omega) (by omega) (fun c14 => ?_) (fun c14 => ?_)
    · refine r_iload (pc := 69) dX12_isLed_69 rfl ?_
      exact r_zret (pc := 71) dX12_isLed_71 rfl (iv_nar (by omega)) (hPo _ _ _ ⟨rfl, v6_4, ht6, rfl, (by omega), (by exact ld_end (by assumption) (by omega) (by omega))⟩)
    · refine r_iload_n (pc := 17) dX12_isLed_17 (i := 1) rfl rfl ?_
      refine r_iload (pc := 18) dX12_isLed_18 rfl ?_
      refine t_callSI (pc := 20) (as := [.int (iv x1), .int (iv v6_5)]) (st := []) kX12_157 dX12_isLed_20 (t_X12_at1x (d := d - 1) (x1 := x1) (x2 := v6_5) (by omega)  ht6 (by omega) (by omega)) rfl (by omega) (Nat.le_of_ble_eq_true rfl) rfl (fun hp2 y4 ht3 by4 => ?_)
      have ey4 : y4 = 60 * x1 + v6_5 := by4
      subst ey4
      refine r_istore (pc := 23) (lv' := [(6, .int (iv (60 * x1 + v6_5))), (0, .ref y), (1, .int (iv x1)), (2, .int (iv x2)), (3, .int (iv x3)), (4, .int (iv v6_4)), (5, .int (iv v6_5))]) dX12_isLed_23 (by decide) rfl ?_
      have eF := sh_at fr (60 * x1) (v := v6_5) (by omega)
      have eT := sh_at tt (60 * x1) (v := v6_5) (by omega)
      refine r_iload (pc := 25) dX12_isLed_25 rfl ?_
      refine t_if_ne (pc := 27) (tgt := 56) dX12_isLed_27 (by decide) (by omega) (fun c27 => ?_) (fun c27 => ?_)
      · have hld := ld_k (by assumption : ldI (sh fr (60 * x1)) (sh tt (60 * x1)) x2 x3 v6_4 v6_5) (by omega)
        refine r_iconst (pc := 56) (v := iv 1) dX12_isLed_56 (by decide) ?_
        refine r_goto (pc := 57) (tgt := 61) dX12_isLed_57 (by decide) ?_
        refine r_istore (pc := 61) (lv' := [(4, .int (iv 1)), (6, .int (iv (60 * x1 + v6_5))), (0, .ref y), (1, .int (iv x1)), (2, .int (iv x2)), (3, .int (iv x3)), (5, .int (iv v6_5))]) dX12_isLed_61 (by decide) rfl ?_
        refine r_iinc (pc := 63) (v := iv (v6_5 + 1)) (lv' := [(5, .int (iv (v6_5 + 1))), (4, .int (iv 1)), (6, .int (iv (60 * x1 + v6_5))), (0, .ref y), (1, .int (iv x1)), (2, .int (iv x2)), (3, .int (iv x3))]) dX12_isLed_63 rfl (iv_add _ _) (by decide) rfl ?_
        refine r_goto (pc := 66) (tgt := 6) dX12_isLed_66 (by decide) ?_
        refine Rn.pick (lv' := [(0, .ref y), (1, .int (iv x1)), (2, .int (iv x2)), (3, .int (iv x3)), (4, .int (iv 1)), (5, .int (iv (v6_5 + 1)))]) [3, 4, 5, 6, 1, 0] rfl ?_
        exact ih6 (Int.toNat (60 - (v6_5 + 1))) (by omega) _ ht3 1 (v6_5 + 1) ⟨by omega, by omega, by omega, by omega, by omega, by (first | exact hld | exact ld_0)⟩ (by omega)
      · refine r_aload_n (pc := 30) dX12_isLed_30 (i := 0) rfl rfl ?_
        refine t_getE (pc := 31) (.ref (y + 6)) ht3 (rd_of RX_y) fX12_26 dX12_isLed_31 rfl ?_
        refine r_iload (pc := 34) dX12_isLed_34 rfl ?_
        refine t_ialdX (pc := 36) (t0 := 0) ht3 (rd_of RX_to) dX12_isLed_36 rfl (by decide) (by omega) (fun b5 => ?_)
        have rb5 := (show Rfx 7260 0 15 tt by assumption) (Int.toNat (60 * x1 + v6_5)) (by omega)
        refine r_iload_n (pc := 37) dX12_isLed_37 (i := 3) rfl rfl ?_
        refine t_icmp_ne (pc := 38) (tgt := 60) dX12_isLed_38 (by decide) (by omega) (by omega) (fun c38 => ?_) (fun c38 => ?_)
        · have hld := ld_n (by assumption : ldI (sh fr (60 * x1)) (sh tt (60 * x1)) x2 x3 v6_4 v6_5) (by omega) (by omega) (fun h9 => by have h8 := h9.1; rw [← eT] at h8; omega)
          refine r_iconst (pc := 60) (v := iv 0) dX12_isLed_60 (by decide) ?_
          refine r_istore (pc := 61) (lv' := [(4, .int (iv 0)), (6, .int (iv (60 * x1 + v6_5))), (0, .ref y), (1, .int (iv x1)), (2, .int (iv x2)), (3, .int (iv x3)), (5, .int (iv v6_5))]) dX12_isLed_61 (by decide) rfl ?_
          refine r_iinc (pc := 63) (v := iv (v6_5 + 1)) (lv' := [(5, .int (iv (v6_5 + 1))), (4, .int (iv 0)), (6, .int (iv (60 * x1 + v6_5))), (0, .ref y), (1, .int (iv x1)), (2, .int (iv x2)), (3, .int (iv x3))]) dX12_isLed_63 rfl (iv_add _ _) (by decide) rfl ?_
          refine r_goto (pc := 66) (tgt := 6) dX12_isLed_66 (by decide) ?_
          refine Rn.pick (lv' := [(0, .ref y), (1, .int (iv x1)), (2, .int (iv x2)), (3, .int (iv x3)), (4, .int (iv 0)), (5, .int (iv (v6_5 + 1)))]) [3, 4, 5, 6, 1, 0] rfl ?_
          exact ih6 (Int.toNat (60 - (v6_5 + 1))) (by omega) _ ht3 0 (v6_5 + 1) ⟨by omega, by omega, by omega, by omega, by omega, by (first | exact hld | exact ld_0)⟩ (by omega)
        · refine r_iload_n (pc := 41) dX12_isLed_41 (i := 2) rfl rfl ?_
          refine r_aload_n (pc := 42) dX12_isLed_42 (i := 0) rfl rfl ?_
          refine t_getE (pc := 43) (.ref (y + 5)) ht3 (rd_of RX_y) fX12_23 dX12_isLed_43 rfl ?_
          refine r_iload (pc := 46) dX12_isLed_46 rfl ?_
          refine t_ialdX (pc := 48) (t0 := 0) ht3 (rd_of RX_from) dX12_isLed_48 rfl (by decide) (by omega) (fun b6 => ?_)
          have rb6 := (show Rfx 7260 0 15 fr by assumption) (Int.toNat (60 * x1 + v6_5)) (by omega)
          have hq49_7 := shr_le (Int.toNat x2) (Int.toNat (fr (Int.toNat (60 * x1 + v6_5))))
          refine r_ishr (pc := 49) (v := iv ((Int.toNat x2 >>> Int.toNat (fr (Int.toNat (60 * x1 + v6_5))) : Nat) : Int)) dX12_isLed_49 (shr_e (by omega) (by omega)) ?_
          refine r_iconst (pc := 50) (v := iv 1) dX12_isLed_50 (by decide) ?_
          refine r_iand (pc := 51) (v := iv (((Int.toNat x2 >>> Int.toNat (fr (Int.toNat (60 * x1 + v6_5))) : Nat) : Int) % 2)) dX12_isLed_51 (and1_e _ (by omega)) ?_
          have mb51 := @Me_bit x2 (fr (Int.toNat (60 * x1 + v6_5)))
          refine r_iconst (pc := 52) (v := iv 1) dX12_isLed_52 (by decide) ?_
          refine t_icmp_ne (pc := 53) (tgt := 60) dX12_isLed_53 (by decide) (by omega) (by omega) (fun c53 => ?_) (fun c53 => ?_)
          · have nm53 : ¬ Me x2 (Int.toNat (fr (Int.toNat (60 * x1 + v6_5)))) := fun h9 => absurd (Me_bit.mpr h9) (by omega)
            have hld := ld_n (by assumption : ldI (sh fr (60 * x1)) (sh tt (60 * x1)) x2 x3 v6_4 v6_5) (by omega) (by omega) (fun h9 => nm53 (by have h8 := h9.2; rw [← eF] at h8; exact h8))
            refine r_iconst (pc := 60) (v := iv 0) dX12_isLed_60 (by decide) ?_
            refine r_istore (pc := 61) (lv' := [(4, .int (iv 0)), (6, .int (iv (60 * x1 + v6_5))), (0, .ref y), (1, .int (iv x1)), (2, .int (iv x2)), (3, .int (iv x3)), (5, .int (iv v6_5))]) dX12_isLed_61 (by decide) rfl ?_
            refine r_iinc (pc := 63) (v := iv (v6_5 + 1)) (lv' := [(5, .int (iv (v6_5 + 1))), (4, .int (iv 0)), (6, .int (iv (60 * x1 + v6_5))), (0, .ref y), (1, .int (iv x1)), (2, .int (iv x2)), (3, .int (iv x3))]) dX12_isLed_63 rfl (iv_add _ _) (by decide) rfl ?_
            refine r_goto (pc := 66) (tgt := 6) dX12_isLed_66 (by decide) ?_
            refine Rn.pick (lv' := [(0, .ref y), (1, .int (iv x1)), (2, .int (iv x2)), (3, .int (iv x3)), (4, .int (iv 0)), (5, .int (iv (v6_5 + 1)))]) [3, 4, 5, 6, 1, 0] rfl ?_
            exact ih6 (Int.toNat (60 - (v6_5 + 1))) (by omega) _ ht3 0 (v6_5 + 1) ⟨by omega, by omega, by omega, by omega, by omega, by (first | exact hld | exact ld_0)⟩ (by omega)
          · have pm53 : Me x2 (Int.toNat (fr (Int.toNat (60 * x1 + v6_5)))) := Me_bit.mp (by omega)
            have hld : ldI (sh fr (60 * x1)) (sh tt (60 * x1)) x2 x3 1 (v6_5 + 1) := ld_y (b := 0) (by omega) (by rw [← eT]; omega) (by rw [← eF]; exact pm53)
            refine r_iconst (pc := 56) (v := iv 1) dX12_isLed_56 (by decide) ?_
            refine r_goto (pc := 57) (tgt := 61) dX12_isLed_57 (by decide) ?_
            refine r_istore (pc := 61) (lv' := [(4, .int (iv 1)), (6, .int (iv (60 * x1 + v6_5))), (0, .ref y), (1, .int (iv x1)), (2, .int (iv x2)), (3, .int (iv x3)), (5, .int (iv v6_5))]) dX12_isLed_61 (by decide) rfl ?_
            refine r_iinc (pc := 63) (v := iv (v6_5 + 1)) (lv' := [(5, .int (iv (v6_5 + 1))), (4, .int (iv 1)), (6, .int (iv (60 * x1 + v6_5))), (0, .ref y), (1, .int (iv x1)), (2, .int (iv x2)), (3, .int (iv x3))]) dX12_isLed_63 rfl (iv_add _ _) (by decide) rfl ?_
            refine r_goto (pc := 66) (tgt := 6) dX12_isLed_66 (by decide) ?_
            refine Rn.pick (lv' := [(0, .ref y), (1, .int (iv x1)), (2, .int (iv x2)), (3, .int (iv x3)), (4, .int (iv 1)), (5, .int (iv (v6_5 + 1)))]) [3, 4, 5, 6, 1, 0] rfl ?_
            exact ih6 (Int.toNat (60 - (v6_5 + 1))) (by omega) _ ht3 1 (v6_5 + 1) ⟨by omega, by omega, by omega, by omega, by omega, by (first | exact hld | exact ld_0)⟩ (by omega)
  refine Rn.pick (lv' := [(0, .ref y), (1, .int (iv x1)), (2, .int (iv x2)), (3, .int (iv x3)), (4, .int (iv 0)), (5, .int (iv 0))]) [2, 3, 4, 5, 1, 0] rfl ?_
  exact B6 (Int.toNat (60 - 0)) _ ht 0 0 ⟨by omega, by omega, by omega, by omega, by omega, by (first | exact hld | exact ld_0)⟩ (by omega)
set_option maxHeartbeats 4000000 in
set_option maxRecDepth 100000 in
theorem x_X12_order {D : va_G} {cI cJ cZ cT : ClassId} {lo b L : Nat} {xs : Nat → Int32} {hp : MH} {n d : Nat} {Γ : TG} {y : Nat} {rf cn nm : Int} {so sz dr mn fr tt wt co : Nat → Int} {nu : Nat → Int64} {sa : Nat → Int} {wo : Nat → Int64} {ln : Nat → Int} {hw : Nat → Int64} {ro qi qc nf nt nw nc : Nat → Int} {cl nx : Nat → Int64} {ie be sd bl : Nat → Int} {bs wy ra rb : Nat → Int64} {lb bg os js ls : Nat → Int} {sp : Nat → Int64} {jw go : Nat → Int} {de : Nat → Int64} {yb ah im : Nat → Int} {x1 x2 : Int} {Po9 : Option Value → MH → Nat → Prop} (hd0 : 2 ≤ d) (hR_sizes : Rfx 121 0 16 sz) (hR_many : Rfx 121 0 60 mn) (hR_from : Rfx 7260 0 15 fr) (hR_to : Rfx 7260 0 15 tt) (hR_directs : Rfx 121 0 1 dr) (ht : Tw (RX Γ cI cJ cZ y rf cn nm so sz dr mn fr tt wt co nu sa wo ln hw ro qi qc nf nt nw nc cl nx ie be sd bl bs wy ra rb lb bg os js ls sp jw go de yb ah im) hp) (hx1 : 0 ≤ x1 ∧ x1 ≤ 120) (hx2 : 0 ≤ x2 ∧ x2 ≤ 15) (hEn : enP fr tt mn sz x1) (hx9 : x2 < (sz (Int.toNat x1))) (hPo : ∀ r hp1 n1, (n1 = n ∧ ∃ (q9 : Int64), Tw (RX Γ cI cJ cZ y rf cn nm so sz dr mn fr tt wt co nu sa wo ln hw ro qi qc nf nt nw nc cl nx ie be sd bl bs wy ra rb lb bg os js ls sp jw go de yb ah im) hp1 ∧ r = some (.long q9) ∧ (orA (Int.toNat (mn (Int.toNat x1))) (dr (Int.toNat x1)) (sh fr (60 * x1)) (sh tt (60 * x1)) (Int.toNat (sz (Int.toNat x1))) (Int.toNat x2) q9.toInt)) → Po9 r hp1 n1) : Mt (gG D cI cJ cZ cT lo b L xs) mX12_order d 0 0 [.ref y, .int (iv x1), .int (iv x2)] hp n Po9 := by
  refine Mt.of rfl (Nat.le_of_ble_eq_true rfl) ?_
  refine Rn.pick (lv' := [(0, .ref y), (1, .int (iv x1)), (2, .int (iv x2))]) [0, 1, 2] rfl ?_
  have rsz := hR_sizes (Int.toNat x1) (by omega)
  have rmn := hR_many (Int.toNat x1) (by omega)
  have rdr := hR_directs (Int.toNat x1) (by omega)
  have hFT := enF hEn (by assumption) (by assumption) (by omega) (by omega)
  have hF9 : ∀ k, k < (Int.toNat (mn (Int.toNat x1))) → (0 ≤ (sh fr (60 * x1)) k ∧ (sh fr (60 * x1)) k < (((Int.toNat (sz (Int.toNat x1))) : Nat) : Int)) := fun k hk => by have h9 := hFT k hk; omega
  refine r_aload_n (pc := 0) dX12_order_0 (i := 0) rfl rfl ?_
  refine t_getE (pc := 1) (.ref (y + 2)) ht (rd_of RX_y) fX12_13 dX12_order_1 rfl ?_
  refine r_iload_n (pc := 4) dX12_order_4 (i := 1) rfl rfl ?_
  refine t_ialdX (pc := 5) (t0 := 0) ht (rd_of RX_sizes) dX12_order_5 rfl (by decide) (by omega) (fun b1 => ?_)
  have rb1 := (show Rfx 121 0 16 sz by assumption) (Int.toNat x1) (by omega)
  refine r_istore_n (pc := 6) (lv' := [(3, .int (iv (sz (Int.toNat x1)))), (0, .ref y), (1, .int (iv x1)), (2, .int (iv x2))]) dX12_order_6 (i := 3) rfl (by decide) rfl ?_
  refine r_aload_n (pc := 7) dX12_order_7 (i := 0) rfl rfl ?_
  refine t_getE (pc := 8) (.ref (y + 3)) ht (rd_of RX_y) fX12_16 dX12_order_8 rfl ?_
  refine r_iload_n (pc := 11) dX12_order_11 (i := 1) rfl rfl ?_
  refine t_zaldX (pc := 12) (t0 := 2) ht (rd_of RX_directs) dX12_order_12 rfl (by decide) (by omega) (fun b2 => ?_)
  have rb2 := (show Rfx 121 0 1 dr by assumption) (Int.toNat x1) (by omega)
  have B29 : ∀ hp29 : MH, Tw (RX Γ cI cJ cZ y rf cn nm so sz dr mn fr tt wt co nu sa wo ln hw ro qi qc nf nt nw nc cl nx ie be sd bl bs wy ra rb lb bg os js ls sp jw go de yb ah im) hp29 → (¬ ((dr (Int.toNat x1)) = 0 ∧ 0 < (mn (Int.toNat x1)))) → Rn (gG D cI cJ cZ cT lo b L xs) mX12_order d 29 [(0, .ref y), (1, .int (iv x1)), (2, .int (iv x2)), (3, .int (iv (sz (Int.toNat x1))))] [] hp29 n 0 0 Po9 := by
    intro hp29 ht29 hf29
    refine r_iconst (pc := 29) (v := iv 1) dX12_order_29 (by decide) ?_
    refine r_iload_n (pc := 30) dX12_order_30 (i := 3) rfl rfl ?_
    refine r_ishl (pc := 31) (v := iv ((2 ^ Int.toNat (sz (Int.toNat x1)) : Nat) : Int)) dX12_order_31 (shl_e (by omega)) ?_
    have mp31_3 : 1 ≤ 2 ^ Int.toNat (sz (Int.toNat x1)) := Nat.one_le_two_pow
    have mq31_4 : 2 ^ Int.toNat (sz (Int.toNat x1)) ≤ 2 ^ 16 := Nat.pow_le_pow_right (by omega) (by omega)
    have ms31 := Me_shl (Int.toNat (sz (Int.toNat x1)))
    refine r_iconst (pc := 32) (v := iv 1) dX12_order_32 (by decide) ?_
    refine r_isub (pc := 33) (v := iv (((2 ^ Int.toNat (sz (Int.toNat x1)) : Nat) : Int) - 1)) dX12_order_33 (iv_sub _ _) ?_
    have hall : ∀ j, Me (((2 ^ Int.toNat (sz (Int.toNat x1)) : Nat) : Int) - 1) j ↔ j < (Int.toNat (sz (Int.toNat x1))) := fun j => Me_all j
    refine r_istore (pc := 34) (lv' := [(4, .int (iv (((2 ^ Int.toNat (sz (Int.toNat x1)) : Nat) : Int) - 1))), (0, .ref y), (1, .int (iv x1)), (2, .int (iv x2)), (3, .int (iv (sz (Int.toNat x1))))]) dX12_order_34 (by decide) rfl ?_
    refine r_ldc2 (pc := 36) (v := (-1)) dX12_order_36 kX12_357 ?_
    have hk36 : ((-1) : Int64).toInt = (-1) := by decide
    refine r_lstore (pc := 39) (lv' := [(5, .long ((-1) : Int64)), (4, .int (iv (((2 ^ Int.toNat (sz (Int.toNat x1)) : Nat) : Int) - 1))), (0, .ref y), (1, .int (iv x1)), (2, .int (iv x2)), (3, .int (iv (sz (Int.toNat x1))))]) dX12_order_39 (by decide) rfl ?_
    refine r_iconst (pc := 41) (v := iv 0) dX12_order_41 (by decide) ?_
    refine r_istore (pc := 42) (lv' := [(7, .int (iv 0)), (5, .long ((-1) : Int64)), (4, .int (iv (((2 ^ Int.toNat (sz (Int.toNat x1)) : Nat) : Int) - 1))), (0, .ref y), (1, .int (iv x1)), (2, .int (iv x2)), (3, .int (iv (sz (Int.toNat x1))))]) dX12_order_42 (by decide) rfl ?_
    have B44 : ∀ k : Nat, ∀ hp44 : MH, Tw (RX Γ cI cJ cZ y rf cn nm so sz dr mn fr tt wt co nu sa wo ln hw ro qi qc nf nt nw nc cl nx ie be sd bl bs wy ra rb lb bg os js ls sp jw go de yb ah im) hp44 → ∀  (v44_4 : Int) (v44_7 : Int) (w44_5 : Int64), 0 ≤ v44_4 ∧ v44_4 ≤ 65535 ∧ v44_4 ≤ ((2 ^ Int.toNat (sz (Int.toNat x1)) : Nat) : Int) - 1 ∧ 0 ≤ v44_7 ∧ v44_7 ≤ 16 ∧ (v44_7 ≤ (sz (Int.toNat x1))) ∧ (orI (Int.toNat (mn (Int.toNat x1))) (sh fr (60 * x1)) (sh tt (60 * x1)) (Int.toNat (sz (Int.toNat x1))) (Int.toNat x2) v44_7 v44_4 w44_5.toInt) → 16 - v44_7 ≤ (k : Int) → Rn (gG D cI cJ cZ cT lo b L xs) mX12_order d 44 [(0, .ref y), (1, .int (iv x1)), (2, .int (iv x2)), (3, .int (iv (sz (Int.toNat x1)))), (4, .int (iv v44_4)), (5, .long w44_5), (7, .int (iv v44_7))] [] hp44 n 0 0 Po9 := by
      refine lpS _ ?_
      intro k44 ih44 hp44 ht44 v44_4 v44_7 w44_5 hf44 hm44
      obtain ⟨hf44_0, hf44_1, hf44_2, hf44_3, hf44_4, hf44_5, ha44_6⟩ := hf44
      refine r_iload (pc := 44) dX12_order_44 rfl ?_
      refine r_iload_n (pc := 46) dX12_order_46 (i := 3) rfl rfl ?_
      refine t_icmp_ge (pc := 47) (tgt := 130) dX12_order_47 (by decide) (by omega) (by omega) (fun c47 => ?_) (fun c47 => ?_)
      · refine r_lload (pc := 130) dX12_order_130 rfl ?_
        exact r_lret (pc := 132) dX12_order_132 rfl (hPo _ _ _ ⟨rfl, w44_5, ht44, rfl, (by exact orI_end (fun h9 => by omega) (by omega) (by omega) (by assumption : orI (Int.toNat (mn (Int.toNat x1))) (sh fr (60 * x1)) (sh tt (60 * x1)) (Int.toNat (sz (Int.toNat x1))) (Int.toNat x2) v44_7 v44_4 w44_5.toInt))⟩)
      · refine r_iconst (pc := 50) (v := iv 0) dX12_order_50 (by decide) ?_
        refine r_istore (pc := 51) (lv' := [(8, .int (iv 0)), (0, .ref y), (1, .int (iv x1)), (2, .int (iv x2)), (3, .int (iv (sz (Int.toNat x1)))), (4, .int (iv v44_4)), (5, .long w44_5), (7, .int (iv v44_7))]) dX12_order_51 (by decide) rfl ?_
        have B53 : ∀ k : Nat, ∀ hp53 : MH, Tw (RX Γ cI cJ cZ y rf cn nm so sz dr mn fr tt wt co nu sa wo ln hw ro qi qc nf nt nw nc cl nx ie be sd bl bs wy ra rb lb bg os js ls sp jw go de yb ah im) hp53 → ∀  (v53_8 : Int), 0 ≤ v53_8 ∧ v53_8 ≤ 16 ∧ (v53_8 ≤ (sz (Int.toNat x1))) ∧ (orV (Int.toNat (mn (Int.toNat x1))) (sh fr (60 * x1)) (sh tt (60 * x1)) v44_4 v53_8) → 16 - v53_8 ≤ (k : Int) → Rn (gG D cI cJ cZ cT lo b L xs) mX12_order d 53 [(0, .ref y), (1, .int (iv x1)), (2, .int (iv x2)), (3, .int (iv (sz (Int.toNat x1)))), (4, .int (iv v44_4)), (5, .long w44_5), (7, .int (iv v44_7)), (8, .int (iv v53_8))] [] hp53 n 0 0 Po9 := by
          refine lpS _ ?_
          intro k53 ih53 hp53 ht53 v53_8 hf53 hm53
          obtain ⟨hf53_0, hf53_1, hf53_2, ha53_3⟩ := hf53
          refine r_iload (pc := 53) dX12_order_53 rfl ?_
          refine r_iload_n (pc := 55) dX12_order_55 (i := 3) rfl rfl ?_
          refine t_icmp_ge (pc := 56) (tgt := 87) dX12_order_56 (by decide) (by omega) (by omega) (fun c56 => ?_) (fun c56 => ?_)
          · refine r_iload (pc := 87) dX12_order_87 rfl ?_
            refine r_iload_n (pc := 89) dX12_order_89 (i := 3) rfl rfl ?_
            refine t_icmp_ne (pc := 90) (tgt := 97) dX12_order_90 (by decide) (by omega) (by omega) (fun c90 => ?_) (fun c90 => ?_)
            · refine r_iload (pc := 97) dX12_order_97 rfl ?_
              refine r_iconst (pc := 99) (v := iv 1) dX12_order_99 (by decide) ?_
              refine r_iload (pc := 100) dX12_order_100 rfl ?_
              refine r_ishl (pc := 102) (v := iv ((2 ^ Int.toNat v53_8 : Nat) : Int)) dX12_order_102 (shl_e (by omega)) ?_
              have mp102_5 : 1 ≤ 2 ^ Int.toNat v53_8 := Nat.one_le_two_pow
              have mq102_6 : 2 ^ Int.toNat v53_8 ≤ 2 ^ 16 := Nat.pow_le_pow_right (by omega) (by omega)
              have ms102 := Me_shl (Int.toNat v53_8)
              have mq9 : 2 ^ Int.toNat v53_8 ≤ 2 ^ 15 := Nat.pow_le_pow_right (by omega) (by omega)
              refine r_iconst (pc := 103) (v := iv (-1)) dX12_order_103 (by decide) ?_
              refine r_ixor (pc := 104) (v := iv (-((2 ^ Int.toNat v53_8 : Nat) : Int) - 1)) dX12_order_104 (iv_not _) ?_
              obtain ⟨z7, hz7, bz7⟩ := and_l v44_4 (-((2 ^ Int.toNat v53_8 : Nat) : Int) - 1) (by omega) (by omega)
              refine r_iand (pc := 105) (v := iv z7) dX12_order_105 hz7 ?_
              have mez7 := Me_not (y := ((2 ^ Int.toNat v53_8 : Nat) : Int)) hz7 (by omega) (by omega) (by omega)
              have hz9 := left_st (n := 0) mez7 ms102
              refine r_istore (pc := 106) (lv' := [(4, .int (iv z7)), (0, .ref y), (1, .int (iv x1)), (2, .int (iv x2)), (3, .int (iv (sz (Int.toNat x1)))), (5, .long w44_5), (7, .int (iv v44_7)), (8, .int (iv v53_8))]) dX12_order_106 (by decide) rfl ?_
              refine r_iload (pc := 108) dX12_order_108 rfl ?_
              refine r_iload_n (pc := 110) dX12_order_110 (i := 2) rfl rfl ?_
              refine t_icmp_ne (pc := 111) (tgt := 120) dX12_order_111 (by decide) (by omega) (by omega) (fun c111 => ?_) (fun c111 => ?_)
              · refine r_lload (pc := 120) dX12_order_120 rfl ?_
                refine r_lstore (pc := 122) (lv' := [(5, .long w44_5), (4, .int (iv z7)), (0, .ref y), (1, .int (iv x1)), (2, .int (iv x2)), (3, .int (iv (sz (Int.toNat x1)))), (7, .int (iv v44_7)), (8, .int (iv v53_8))]) dX12_order_122 (by decide) rfl ?_
                have hor : orI (Int.toNat (mn (Int.toNat x1))) (sh fr (60 * x1)) (sh tt (60 * x1)) (Int.toNat (sz (Int.toNat x1))) (Int.toNat x2) (v44_7 + 1) z7 w44_5.toInt := absurd c56 (by omega)
                refine r_iinc (pc := 124) (v := iv (v44_7 + 1)) (lv' := [(7, .int (iv (v44_7 + 1))), (5, .long w44_5), (4, .int (iv z7)), (0, .ref y), (1, .int (iv x1)), (2, .int (iv x2)), (3, .int (iv (sz (Int.toNat x1)))), (8, .int (iv v53_8))]) dX12_order_124 rfl (iv_add _ _) (by decide) rfl ?_
                refine r_goto (pc := 127) (tgt := 44) dX12_order_127 (by decide) ?_
                refine Rn.pick (lv' := [(0, .ref y), (1, .int (iv x1)), (2, .int (iv x2)), (3, .int (iv (sz (Int.toNat x1)))), (4, .int (iv z7)), (5, .long w44_5), (7, .int (iv (v44_7 + 1)))]) [3, 4, 5, 6, 2, 1, 0] rfl ?_
                exact ih44 (Int.toNat (16 - (v44_7 + 1))) (by omega) _ ht53 z7 (v44_7 + 1) w44_5 ⟨by omega, by omega, by omega, by omega, by omega, by omega, by (first | exact hor | (rw [hk36]; exact orI_0 hall))⟩ (by omega)
              · refine r_iload (pc := 114) dX12_order_114 rfl ?_
                refine r_i2l (pc := 116) (v := (iv v53_8).toInt64) dX12_order_116 rfl ?_
                have hiv := iv_long (x := v53_8) (by omega)
                refine r_goto (pc := 117) (tgt := 122) dX12_order_117 (by decide) ?_
                refine r_lstore (pc := 122) (lv' := [(5, .long ((iv v53_8).toInt64)), (4, .int (iv z7)), (0, .ref y), (1, .int (iv x1)), (2, .int (iv x2)), (3, .int (iv (sz (Int.toNat x1)))), (7, .int (iv v44_7)), (8, .int (iv v53_8))]) dX12_order_122 (by decide) rfl ?_
                have hor : orI (Int.toNat (mn (Int.toNat x1))) (sh fr (60 * x1)) (sh tt (60 * x1)) (Int.toNat (sz (Int.toNat x1))) (Int.toNat x2) (v44_7 + 1) z7 ((iv v53_8).toInt64).toInt := absurd c56 (by omega)
                refine r_iinc (pc := 124) (v := iv (v44_7 + 1)) (lv' := [(7, .int (iv (v44_7 + 1))), (5, .long ((iv v53_8).toInt64)), (4, .int (iv z7)), (0, .ref y), (1, .int (iv x1)), (2, .int (iv x2)), (3, .int (iv (sz (Int.toNat x1)))), (8, .int (iv v53_8))]) dX12_order_124 rfl (iv_add _ _) (by decide) rfl ?_
                refine r_goto (pc := 127) (tgt := 44) dX12_order_127 (by decide) ?_
                refine Rn.pick (lv' := [(0, .ref y), (1, .int (iv x1)), (2, .int (iv x2)), (3, .int (iv (sz (Int.toNat x1)))), (4, .int (iv z7)), (5, .long ((iv v53_8).toInt64)), (7, .int (iv (v44_7 + 1)))]) [3, 4, 5, 6, 2, 1, 0] rfl ?_
                exact ih44 (Int.toNat (16 - (v44_7 + 1))) (by omega) _ ht53 z7 (v44_7 + 1) ((iv v53_8).toInt64) ⟨by omega, by omega, by omega, by omega, by omega, by omega, by (first | exact hor | (rw [hk36]; exact orI_0 hall))⟩ (by omega)
            · refine r_ldc2 (pc := 93) (v := (-1)) dX12_order_93 kX12_357 ?_
              have hk93 : ((-1) : Int64).toInt = (-1) := by decide
              exact r_lret (pc := 96) dX12_order_96 rfl (hPo _ _ _ ⟨rfl, ((-1) : Int64), ht53, rfl, (by (rw [hk93]; exact orI_no hF9 (fun h9 => by omega) (by omega) (by assumption : orI (Int.toNat (mn (Int.toNat x1))) (sh fr (60 * x1)) (sh tt (60 * x1)) (Int.toNat (sz (Int.toNat x1))) (Int.toNat x2) v44_7 v44_4 w44_5.toInt) (by assumption : orV (Int.toNat (mn (Int.toNat x1))) (sh fr (60 * x1)) (sh tt (60 * x1)) v44_4 v53_8) (by omega)))⟩)
          · refine r_iload (pc := 59) dX12_order_59 rfl ?_
            refine r_iload (pc := 61) dX12_order_61 rfl ?_
            have hq63_8 := shr_le (Int.toNat v44_4) (Int.toNat v53_8)
            refine r_ishr (pc := 63) (v := iv ((Int.toNat v44_4 >>> Int.toNat v53_8 : Nat) : Int)) dX12_order_63 (shr_e (by omega) (by omega)) ?_
            refine r_iconst (pc := 64) (v := iv 1) dX12_order_64 (by decide) ?_
            refine r_iand (pc := 65) (v := iv (((Int.toNat v44_4 >>> Int.toNat v53_8 : Nat) : Int) % 2)) dX12_order_65 (and1_e _ (by omega)) ?_
            have mb65 := @Me_bit v44_4 v53_8
            refine t_if_eq (pc := 66) (tgt := 81) dX12_order_66 (by decide) (by omega) (fun c66 => ?_) (fun c66 => ?_)
            · have nm66 : ¬ Me v44_4 (Int.toNat v53_8) := fun h9 => absurd (Me_bit.mpr h9) (by omega)
              have hov := orV_up (by assumption : orV (Int.toNat (mn (Int.toNat x1))) (sh fr (60 * x1)) (sh tt (60 * x1)) v44_4 v53_8) (by omega) (Or.inl nm66)
              refine r_iinc (pc := 81) (v := iv (v53_8 + 1)) (lv' := [(8, .int (iv (v53_8 + 1))), (0, .ref y), (1, .int (iv x1)), (2, .int (iv x2)), (3, .int (iv (sz (Int.toNat x1)))), (4, .int (iv v44_4)), (5, .long w44_5), (7, .int (iv v44_7))]) dX12_order_81 rfl (iv_add _ _) (by decide) rfl ?_
              refine r_goto (pc := 84) (tgt := 53) dX12_order_84 (by decide) ?_
              refine Rn.pick (lv' := [(0, .ref y), (1, .int (iv x1)), (2, .int (iv x2)), (3, .int (iv (sz (Int.toNat x1)))), (4, .int (iv v44_4)), (5, .long w44_5), (7, .int (iv v44_7)), (8, .int (iv (v53_8 + 1)))]) [1, 2, 3, 4, 5, 6, 7, 0] rfl ?_
              exact ih53 (Int.toNat (16 - (v53_8 + 1))) (by omega) _ ht53 (v53_8 + 1) ⟨by omega, by omega, by omega, by (first | exact hov | exact orV_0)⟩ (by omega)
            · have pm66 : Me v44_4 (Int.toNat v53_8) := Me_bit.mp (by omega)
              refine r_aload_n (pc := 69) dX12_order_69 (i := 0) rfl rfl ?_
              refine r_iload_n (pc := 70) dX12_order_70 (i := 1) rfl rfl ?_
              refine r_iload (pc := 71) dX12_order_71 rfl ?_
              refine r_iload (pc := 73) dX12_order_73 rfl ?_
              obtain ⟨fs13, hfs13⟩ := t_obj ht53 (rd_of RX_y)
              refine r_callV (pc := 75) (as := [.int (iv x1), .int (iv v44_4), .int (iv v53_8)]) (st := []) kX12_359 rfl dX12_order_75 hfs13 (x_X12_isLed (d := d - 1) (x1 := x1) (x2 := v44_4) (x3 := v53_8) (by omega) (by assumption) (by assumption) (by assumption) ht53 (by omega) (by omega) (by omega) (fun _ _ _ h => h)) rfl (by omega) (Nat.le_of_ble_eq_true rfl) (Nat.zero_le _) (Nat.zero_le _) rfl (fun r10 hp9 n11 hq12 => ?_)
              obtain ⟨hnn11, r9_15, ht14, hrr10, hhq120, hhq121⟩ := hq12
              subst n11 r10
              have hhq120 : 0 ≤ r9_15 ∧ r9_15 ≤ 1 := hhq120
              have hhq121 : (r9_15 = 1 ∧ ledP (Int.toNat (mn (Int.toNat x1))) (sh fr (60 * x1)) (sh tt (60 * x1)) v44_4 (Int.toNat v53_8)) ∨ (r9_15 = 0 ∧ ¬ ledP (Int.toNat (mn (Int.toNat x1))) (sh fr (60 * x1)) (sh tt (60 * x1)) v44_4 (Int.toNat v53_8)) := hhq121
              change Rn _ _ _ 78 _ [.int (iv r9_15)] _ _ _ _ _
              refine t_if_eq (pc := 78) (tgt := 87) dX12_order_78 (by decide) (by omega) (fun c78 => ?_) (fun c78 => ?_)
              · have hnl := (Or.resolve_left hhq121 (by omega)).2
                clear hhq121
                refine r_iload (pc := 87) dX12_order_87 rfl ?_
                refine r_iload_n (pc := 89) dX12_order_89 (i := 3) rfl rfl ?_
                refine t_icmp_ne (pc := 90) (tgt := 97) dX12_order_90 (by decide) (by omega) (by omega) (fun c90 => ?_) (fun c90 => ?_)
                · refine r_iload (pc := 97) dX12_order_97 rfl ?_
                  refine r_iconst (pc := 99) (v := iv 1) dX12_order_99 (by decide) ?_
                  refine r_iload (pc := 100) dX12_order_100 rfl ?_
                  refine r_ishl (pc := 102) (v := iv ((2 ^ Int.toNat v53_8 : Nat) : Int)) dX12_order_102 (shl_e (by omega)) ?_
                  have mp102_16 : 1 ≤ 2 ^ Int.toNat v53_8 := Nat.one_le_two_pow
                  have mq102_17 : 2 ^ Int.toNat v53_8 ≤ 2 ^ 15 := Nat.pow_le_pow_right (by omega) (by omega)
                  have ms102 := Me_shl (Int.toNat v53_8)
                  have mq9 : 2 ^ Int.toNat v53_8 ≤ 2 ^ 15 := Nat.pow_le_pow_right (by omega) (by omega)
                  refine r_iconst (pc := 103) (v := iv (-1)) dX12_order_103 (by decide) ?_
                  refine r_ixor (pc := 104) (v := iv (-((2 ^ Int.toNat v53_8 : Nat) : Int) - 1)) dX12_order_104 (iv_not _) ?_
                  obtain ⟨z18, hz18, bz18⟩ := and_l v44_4 (-((2 ^ Int.toNat v53_8 : Nat) : Int) - 1) (by omega) (by omega)
                  refine r_iand (pc := 105) (v := iv z18) dX12_order_105 hz18 ?_
                  have mez18 := Me_not (y := ((2 ^ Int.toNat v53_8 : Nat) : Int)) hz18 (by omega) (by omega) (by omega)
                  have hz9 := left_st (n := 0) mez18 ms102
                  refine r_istore (pc := 106) (lv' := [(4, .int (iv z18)), (0, .ref y), (1, .int (iv x1)), (2, .int (iv x2)), (3, .int (iv (sz (Int.toNat x1)))), (5, .long w44_5), (7, .int (iv v44_7)), (8, .int (iv v53_8))]) dX12_order_106 (by decide) rfl ?_
                  refine r_iload (pc := 108) dX12_order_108 rfl ?_
                  refine r_iload_n (pc := 110) dX12_order_110 (i := 2) rfl rfl ?_
                  refine t_icmp_ne (pc := 111) (tgt := 120) dX12_order_111 (by decide) (by omega) (by omega) (fun c111 => ?_) (fun c111 => ?_)
                  · refine r_lload (pc := 120) dX12_order_120 rfl ?_
                    refine r_lstore (pc := 122) (lv' := [(5, .long w44_5), (4, .int (iv z18)), (0, .ref y), (1, .int (iv x1)), (2, .int (iv x2)), (3, .int (iv (sz (Int.toNat x1)))), (7, .int (iv v44_7)), (8, .int (iv v53_8))]) dX12_order_122 (by decide) rfl ?_
                    have hor : orI (Int.toNat (mn (Int.toNat x1))) (sh fr (60 * x1)) (sh tt (60 * x1)) (Int.toNat (sz (Int.toNat x1))) (Int.toNat x2) (v44_7 + 1) z18 w44_5.toInt := orI_st hF9 (by omega) (by assumption : orI (Int.toNat (mn (Int.toNat x1))) (sh fr (60 * x1)) (sh tt (60 * x1)) (Int.toNat (sz (Int.toNat x1))) (Int.toNat x2) v44_7 v44_4 w44_5.toInt) (by assumption : orV (Int.toNat (mn (Int.toNat x1))) (sh fr (60 * x1)) (sh tt (60 * x1)) v44_4 v53_8) (by omega) pm66 hnl hz9 (Or.inr ⟨by omega, rfl⟩)
                    refine r_iinc (pc := 124) (v := iv (v44_7 + 1)) (lv' := [(7, .int (iv (v44_7 + 1))), (5, .long w44_5), (4, .int (iv z18)), (0, .ref y), (1, .int (iv x1)), (2, .int (iv x2)), (3, .int (iv (sz (Int.toNat x1)))), (8, .int (iv v53_8))]) dX12_order_124 rfl (iv_add _ _) (by decide) rfl ?_
                    refine r_goto (pc := 127) (tgt := 44) dX12_order_127 (by decide) ?_
                    refine Rn.pick (lv' := [(0, .ref y), (1, .int (iv x1)), (2, .int (iv x2)), (3, .int (iv (sz (Int.toNat x1)))), (4, .int (iv z18)), (5, .long w44_5), (7, .int (iv (v44_7 + 1)))]) [3, 4, 5, 6, 2, 1, 0] rfl ?_
                    exact ih44 (Int.toNat (16 - (v44_7 + 1))) (by omega) _ ht14 z18 (v44_7 + 1) w44_5 ⟨by omega, by omega, by omega, by omega, by omega, by omega, by (first | exact hor | (rw [hk36]; exact orI_0 hall))⟩ (by omega)
                  · refine r_iload (pc := 114) dX12_order_114 rfl ?_
                    refine r_i2l (pc := 116) (v := (iv v53_8).toInt64) dX12_order_116 rfl ?_
                    have hiv := iv_long (x := v53_8) (by omega)
                    refine r_goto (pc := 117) (tgt := 122) dX12_order_117 (by decide) ?_
                    refine r_lstore (pc := 122) (lv' := [(5, .long ((iv v53_8).toInt64)), (4, .int (iv z18)), (0, .ref y), (1, .int (iv x1)), (2, .int (iv x2)), (3, .int (iv (sz (Int.toNat x1)))), (7, .int (iv v44_7)), (8, .int (iv v53_8))]) dX12_order_122 (by decide) rfl ?_
                    have hor : orI (Int.toNat (mn (Int.toNat x1))) (sh fr (60 * x1)) (sh tt (60 * x1)) (Int.toNat (sz (Int.toNat x1))) (Int.toNat x2) (v44_7 + 1) z18 ((iv v53_8).toInt64).toInt := orI_st hF9 (by omega) (by assumption : orI (Int.toNat (mn (Int.toNat x1))) (sh fr (60 * x1)) (sh tt (60 * x1)) (Int.toNat (sz (Int.toNat x1))) (Int.toNat x2) v44_7 v44_4 w44_5.toInt) (by assumption : orV (Int.toNat (mn (Int.toNat x1))) (sh fr (60 * x1)) (sh tt (60 * x1)) v44_4 v53_8) (by omega) pm66 hnl hz9 (Or.inl ⟨by omega, hiv⟩)
                    refine r_iinc (pc := 124) (v := iv (v44_7 + 1)) (lv' := [(7, .int (iv (v44_7 + 1))), (5, .long ((iv v53_8).toInt64)), (4, .int (iv z18)), (0, .ref y), (1, .int (iv x1)), (2, .int (iv x2)), (3, .int (iv (sz (Int.toNat x1)))), (8, .int (iv v53_8))]) dX12_order_124 rfl (iv_add _ _) (by decide) rfl ?_
                    refine r_goto (pc := 127) (tgt := 44) dX12_order_127 (by decide) ?_
                    refine Rn.pick (lv' := [(0, .ref y), (1, .int (iv x1)), (2, .int (iv x2)), (3, .int (iv (sz (Int.toNat x1)))), (4, .int (iv z18)), (5, .long ((iv v53_8).toInt64)), (7, .int (iv (v44_7 + 1)))]) [3, 4, 5, 6, 2, 1, 0] rfl ?_
                    exact ih44 (Int.toNat (16 - (v44_7 + 1))) (by omega) _ ht14 z18 (v44_7 + 1) ((iv v53_8).toInt64) ⟨by omega, by omega, by omega, by omega, by omega, by omega, by (first | exact hor | (rw [hk36]; exact orI_0 hall))⟩ (by omega)
                · refine r_ldc2 (pc := 93) (v := (-1)) dX12_order_93 kX12_357 ?_
                  have hk93 : ((-1) : Int64).toInt = (-1) := by decide
                  exact r_lret (pc := 96) dX12_order_96 rfl (hPo _ _ _ ⟨rfl, ((-1) : Int64), ht14, rfl, (by (rw [hk93]; exact orI_no hF9 (fun h9 => by omega) (by omega) (by assumption : orI (Int.toNat (mn (Int.toNat x1))) (sh fr (60 * x1)) (sh tt (60 * x1)) (Int.toNat (sz (Int.toNat x1))) (Int.toNat x2) v44_7 v44_4 w44_5.toInt) (by assumption : orV (Int.toNat (mn (Int.toNat x1))) (sh fr (60 * x1)) (sh tt (60 * x1)) v44_4 v53_8) (by omega)))⟩)
              · have hled := (Or.resolve_right hhq121 (by omega)).2
                have hov := orV_up (by assumption : orV (Int.toNat (mn (Int.toNat x1))) (sh fr (60 * x1)) (sh tt (60 * x1)) v44_4 v53_8) (by omega) (Or.inr hled)
                clear hhq121
                refine r_iinc (pc := 81) (v := iv (v53_8 + 1)) (lv' := [(8, .int (iv (v53_8 + 1))), (0, .ref y), (1, .int (iv x1)), (2, .int (iv x2)), (3, .int (iv (sz (Int.toNat x1)))), (4, .int (iv v44_4)), (5, .long w44_5), (7, .int (iv v44_7))]) dX12_order_81 rfl (iv_add _ _) (by decide) rfl ?_
                refine r_goto (pc := 84) (tgt := 53) dX12_order_84 (by decide) ?_
                refine Rn.pick (lv' := [(0, .ref y), (1, .int (iv x1)), (2, .int (iv x2)), (3, .int (iv (sz (Int.toNat x1)))), (4, .int (iv v44_4)), (5, .long w44_5), (7, .int (iv v44_7)), (8, .int (iv (v53_8 + 1)))]) [1, 2, 3, 4, 5, 6, 7, 0] rfl ?_
                exact ih53 (Int.toNat (16 - (v53_8 + 1))) (by omega) _ ht14 (v53_8 + 1) ⟨by omega, by omega, by omega, by (first | exact hov | exact orV_0)⟩ (by omega)
        refine Rn.pick (lv' := [(0, .ref y), (1, .int (iv x1)), (2, .int (iv x2)), (3, .int (iv (sz (Int.toNat x1)))), (4, .int (iv v44_4)), (5, .long w44_5), (7, .int (iv v44_7)), (8, .int (iv 0))]) [1, 2, 3, 4, 5, 6, 7, 0] rfl ?_
        exact B53 (Int.toNat (16 - 0)) _ ht44 0 ⟨by omega, by omega, by omega, by (first | exact hov | exact orV_0)⟩ (by omega)
    refine Rn.pick (lv' := [(0, .ref y), (1, .int (iv x1)), (2, .int (iv x2)), (3, .int (iv (sz (Int.toNat x1)))), (4, .int (iv (((2 ^ Int.toNat (sz (Int.toNat x1)) : Nat) : Int) - 1))), (5, .long ((-1) : Int64)), (7, .int (iv 0))]) [3, 4, 5, 6, 2, 1, 0] rfl ?_
    exact B44 (Int.toNat (16 - 0)) _ ht29 (((2 ^ Int.toNat (sz (Int.toNat x1)) : Nat) : Int) - 1) 0 ((-1) : Int64) ⟨by omega, by omega, by omega, by omega, by omega, by omega, by (first | exact hor | (rw [hk36]; exact orI_0 hall))⟩ (by omega)
  refine t_if_ne (pc := 13) (tgt := 29) dX12_order_13 (by decide) (by omega) (fun c13 => ?_) (fun c13 => ?_)
  · refine Rn.pick (lv' := [(0, .ref y), (1, .int (iv x1)), (2, .int (iv x2)), (3, .int (iv (sz (Int.toNat x1))))]) [1, 2, 3, 0] rfl ?_
    exact B29 _ ht (by omega)
  · refine r_aload_n (pc := 16) dX12_order_16 (i := 0) rfl rfl ?_
    refine t_getE (pc := 17) (.ref (y + 4)) ht (rd_of RX_y) fX12_20 dX12_order_17 rfl ?_
    refine r_iload_n (pc := 20) dX12_order_20 (i := 1) rfl rfl ?_
    refine t_ialdX (pc := 21) (t0 := 0) ht (rd_of RX_many) dX12_order_21 rfl (by decide) (by omega) (fun b19 => ?_)
    have rb19 := (show Rfx 121 0 60 mn by assumption) (Int.toNat x1) (by omega)
    refine t_if_le (pc := 22) (tgt := 29) dX12_order_22 (by decide) (by omega) (fun c22 => ?_) (fun c22 => ?_)
    · refine Rn.pick (lv' := [(0, .ref y), (1, .int (iv x1)), (2, .int (iv x2)), (3, .int (iv (sz (Int.toNat x1))))]) [1, 2, 3, 0] rfl ?_
      exact B29 _ ht (by omega)
    · refine r_ldc2 (pc := 25) (v := (-1)) dX12_order_25 kX12_357 ?_
      have hk25 : ((-1) : Int64).toInt = (-1) := by decide
      exact r_lret (pc := 28) dX12_order_28 rfl (hPo _ _ _ ⟨rfl, ((-1) : Int64), ht, rfl, (by exact Or.inl ⟨by omega, by omega, hk25⟩)⟩)
