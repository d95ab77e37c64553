/-- what is reached by just k steps -/
def lvR (R : Nat → Nat → Prop) (S : Nat → Prop) : Nat → Nat → Prop
  | 0 => S
  | k + 1 => fun x => ∃ y, lvR R S k y ∧ R y x
def dsN (R : Nat → Nat → Prop) (S : Nat → Prop) (goal : Nat) (r : Int) : Prop := (r = -1 ∧ ∀ i, ¬ lvR R S i goal) ∨ (0 ≤ r ∧ lvR R S r.toNat goal ∧ ∀ i : Nat, (i : Int) < r → ¬ lvR R S i goal)
section LV
variable {R R' : Nat → Nat → Prop} {S S' : Nat → Prop} {goal : Nat}
theorem lv_mono (hR : ∀ i j, R i j → R' i j) (hS : ∀ i, S i → S' i) : ∀ {k x : Nat}, lvR R S k x → lvR R' S' k x := by
  intro k
  induction k with
  | zero => intro x h; exact hS x h
  | succ k ih => intro x ⟨y, h1, h2⟩; exact ⟨y, ih h1, hR y x h2⟩
def dlP (R : Nat → Nat → Prop) (S : Nat → Prop) (goal : Nat) (seen edge t : Int) : Prop := (∀ j, Me seen j ↔ ∃ i : Nat, (i : Int) ≤ t ∧ lvR R S i j) ∧ (∀ j, Me edge j ↔ lvR R S t.toNat j ∧ ∀ i : Nat, (i : Int) < t → ¬ lvR R S i j) ∧ (∀ i : Nat, (i : Int) < t → ¬ lvR R S i goal) ∧ (0 < edge → t + 1 ≤ (bcn seen 16 : Int))
theorem dl_0 {z : Int} (hz : ∀ i, Me z i ↔ S i) (hb : z ≤ 65535) : dlP R S goal z z 0 := by
  refine ⟨fun j => ?_, fun j => ?_, fun i hi => by omega, fun h => ?_⟩
  · rw [hz j]
    constructor
    · intro h; exact ⟨0, by omega, h⟩
    · rintro ⟨i, hi, h⟩
      have e : i = 0 := by omega
      subst e; exact h
  · rw [hz j]
    exact ⟨fun h => ⟨h, fun i hi => by omega⟩, fun h => h.1⟩
  · obtain ⟨j, hj⟩ := Me_ex h
    have := bcn_lt (s := 0) (t := z) (fun i g => absurd g (Me_0 i)) hj (Me_0 j) 16 (Me_lt hj hb)
    omega
theorem dl_st {Nx : Nat → Int} {L : Nat} {seen edge t f e1 s1 : Int} (h : dlP R S goal seen edge t) (h0 : 0 ≤ t) (hn : ¬ Me seen goal) (he0 : 0 < edge) (hb : 0 ≤ e1 ∧ e1 ≤ 65535) (hN : rwP Nx L R) (hs : spQ Nx edge f (L : Int)) (he : ∀ i, Me e1 i ↔ Me f i ∧ ¬ Me seen i) (hs1 : ∀ i, Me s1 i ↔ Me seen i ∨ Me e1 i) : dlP R S goal s1 e1 (t + 1) := by
  obtain ⟨q1, q2, q3, q4⟩ := h
  have hf : ∀ j, Me f j ↔ ∃ i, Me edge i ∧ R i j := fun j => by
    rw [hs j]
    constructor
    · rintro ⟨w, g1, g2, g3⟩
      exact ⟨w, g2, (hN.1 w (by omega) j).mp g3⟩
    · rintro ⟨w, g2, g3⟩
      have := hN.2 w j g3
      exact ⟨w, by omega, g2, (hN.1 w (by omega) j).mpr g3⟩
  have et : (t + 1).toNat = t.toNat + 1 := by omega
  have hE : ∀ j, Me e1 j ↔ lvR R S (t + 1).toNat j ∧ ∀ i : Nat, (i : Int) < t + 1 → ¬ lvR R S i j := by
    intro j
    rw [he j, hf j, et]
    constructor
    · rintro ⟨⟨i, g1, g2⟩, g3⟩
      refine ⟨⟨i, ((q2 i).mp g1).1, g2⟩, fun k hk hl => g3 ((q1 j).mpr ⟨k, by omega, hl⟩)⟩
    · rintro ⟨⟨y, g1, g2⟩, g3⟩
      refine ⟨⟨y, (q2 y).mpr ⟨g1, fun i hi hl => g3 (i + 1) (by omega) ⟨y, hl, g2⟩⟩, g2⟩, fun hm => ?_⟩
      obtain ⟨i, hi, hl⟩ := (q1 j).mp hm
      exact g3 i (by omega) hl
  refine ⟨fun j => ?_, hE, fun i hi hl => ?_, fun g => ?_⟩
  · rw [hs1 j, q1 j, hE j]
    constructor
    · rintro (⟨i, hi, hl⟩ | ⟨g1, -⟩)
      · exact ⟨i, by omega, hl⟩
      · exact ⟨_, by omega, g1⟩
    · rintro ⟨i, hi, hl⟩
      by_cases hc : ∃ k : Nat, (k : Int) < t + 1 ∧ lvR R S k j
      · obtain ⟨k, hk, hk2⟩ := hc
        exact Or.inl ⟨k, by omega, hk2⟩
      · right
        have ei : i = (t + 1).toNat := by
          rcases Int.lt_or_le (i : Int) (t + 1) with g | g
          · exact absurd ⟨i, g, hl⟩ hc
          · omega
        rw [ei] at hl
        exact ⟨hl, fun k hk hk2 => hc ⟨k, hk, hk2⟩⟩
  · exact hn ((q1 goal).mpr ⟨i, by omega, hl⟩)
  · obtain ⟨j0, hj0⟩ := Me_ex g
    have g5 := bcn_lt (s := seen) (t := s1) (fun i g => (hs1 i).mpr (Or.inl g)) ((hs1 j0).mpr (Or.inr hj0)) ((he j0).mp hj0).2 16 (Me_lt hj0 hb.2)
    have := q4 he0
    omega
theorem dl_yes {seen edge t : Int} (h : dlP R S goal seen edge t) (h0 : 0 ≤ t) (hm : Me seen goal) : dsN R S goal t := by
  obtain ⟨q1, q2, q3, q4⟩ := h
  obtain ⟨i, hi, hl⟩ := (q1 goal).mp hm
  have e : i = t.toNat := by
    rcases Int.lt_or_le (i : Int) t with g | g
    · exact absurd hl (q3 i g)
    · omega
  rw [e] at hl
  exact Or.inr ⟨h0, hl, q3⟩
theorem dl_no {seen edge t : Int} (h : dlP R S goal seen edge t) (h0 : 0 ≤ t) (he : 0 ≤ edge) (hn : edge = 0 ∨ 16 < t) : dsN R S goal (-1) := by
  obtain ⟨q1, q2, q3, q4⟩ := h
  have hz : edge = 0 := by
    rcases hn with g | g
    · exact g
    · have := bcn_le seen 16
      by_cases g9 : 0 < edge
      · have := q4 g9; omega
      · omega
  have hno : ∀ j, ¬ (lvR R S t.toNat j ∧ ∀ i : Nat, (i : Int) < t → ¬ lvR R S i j) := fun j g => by
    have := (q2 j).mpr g
    rw [hz] at this
    exact Me_0 j this
  have low : ∀ (i j : Nat), lvR R S i j → ∃ k : Nat, (k : Int) < t ∧ lvR R S k j := by
    have fin : ∀ (i j : Nat), (i : Int) ≤ t → lvR R S i j → ∃ k : Nat, (k : Int) < t ∧ lvR R S k j := by
      intro i j hi hl
      rcases Int.lt_or_le (i : Int) t with g | g
      · exact ⟨i, g, hl⟩
      · have e : i = t.toNat := by omega
        rw [e] at hl
        exact Classical.byContradiction (fun h9 => hno j ⟨hl, fun k hk hk2 => h9 ⟨k, hk, hk2⟩⟩)
    intro i
    induction i with
    | zero => intro j hl; exact fin 0 j (by omega) hl
    | succ i ih =>
      intro j ⟨y, g1, g2⟩
      obtain ⟨k, hk, hk2⟩ := ih y g1
      exact fin (k + 1) j (by omega) ⟨y, hk2, g2⟩
  refine Or.inl ⟨rfl, fun i hl => ?_⟩
  obtain ⟨k, hk, hk2⟩ := low i goal hl
  exact q3 k hk hk2
/-- back as there -/
theorem lv_cons {a b : Nat} (hR : R a b) : ∀ {k x : Nat}, lvR R (fun y => y = b) k x → lvR R (fun y => y = a) (k + 1) x := by
  intro k
  induction k with
  | zero => intro x h; exact ⟨a, rfl, by have h9 : x = b := h; rw [h9]; exact hR⟩
  | succ k ih => intro x ⟨y, h1, h2⟩; exact ⟨y, ih h1, h2⟩
theorem lv_sym (hs : ∀ i j, R i j → R j i) {a : Nat} : ∀ {k b : Nat}, lvR R (fun y => y = a) k b → lvR R (fun y => y = b) k a := by
  intro k
  induction k with
  | zero => intro b h; exact (show b = a from h).symm
  | succ k ih =>
    intro b ⟨y, h1, h2⟩
    exact lv_cons (hs y b h2) (ih h1)
/-- steps that stay where they are don't help -/
theorem lv_loop (hR : ∀ i j, R i j → i = j ∨ R' i j) : ∀ {k x : Nat}, lvR R S k x → ∃ k', k' ≤ k ∧ lvR R' S k' x := by
  intro k
  induction k with
  | zero => intro x h; exact ⟨0, Nat.le_refl 0, h⟩
  | succ k ih =>
    intro x ⟨y, h1, h2⟩
    obtain ⟨k', q1, q2⟩ := ih h1
    rcases hR y x h2 with e | e
    · subst e; exact ⟨k', by omega, q2⟩
    · exact ⟨k' + 1, by omega, y, q2, e⟩
end LV
/-- arcs but one -/
def stX (m : Nat) (d : Int) (F T : Nat → Int) (k i j : Nat) : Prop := ∃ e, e < m ∧ e ≠ k ∧ goP d F T e (i : Int) (j : Int)
def rgW (m : Nat) (d : Int) (F T : Nat → Int) (k L : Nat) : Prop := lvR (stX m d F T k) (fun x => x = (T k).toNat) L (F k).toNat
/-- the least ring -/
def rgA (m : Nat) (d : Int) (F T : Nat → Int) (r : Int) : Prop := (r = 0 ∧ ∀ k L : Nat, k < m → ¬ rgW m d F T k L) ∨ (1 ≤ r ∧ (∃ k, k < m ∧ rgW m d F T k (r - 1).toNat) ∧ ∀ k L : Nat, k < m → rgW m d F T k L → r ≤ (L : Int) + 1)
theorem rg_uq {m : Nat} {d : Int} {F T : Nat → Int} {r r' : Int} (h : rgA m d F T r) (h' : rgA m d F T r') : r = r' := by
  rcases h with ⟨a, b⟩ | ⟨a, ⟨k, k1, k2⟩, c⟩ <;> rcases h' with ⟨a', b'⟩ | ⟨a', ⟨k', k1', k2'⟩, c'⟩
  · omega
  · exact absurd k2' (b k' _ k1')
  · exact absurd k2 (b' k _ k1)
  · have h1 := c k' _ k1' k2'
    have h2 := c' k _ k1 k2
    omega
/-- of arcs up to k the least so far: b is what is held, 0 (or more than all) stands for none -/
def lsI (P : Nat → Nat → Prop) (none9 k b : Int) : Prop := (b = none9 ∧ ∀ i L : Nat, (i : Int) < k → ¬ P i L) ∨ (b ≠ none9 ∧ 1 ≤ b ∧ (∃ i : Nat, (i : Int) < k ∧ P i (b - 1).toNat) ∧ ∀ i L : Nat, (i : Int) < k → P i L → b ≤ (L : Int) + 1)
section RG9
variable {m n : Nat} {d : Int} {F T : Nat → Int} {none9 k b : Int} {P : Nat → Nat → Prop}
theorem lsI_0 : lsI P none9 0 none9 := Or.inl ⟨rfl, fun i L hi => by omega⟩
theorem lsI_no (h : lsI P none9 k b) (h0 : 0 ≤ k) (hn : ∀ L, ¬ P k.toNat L) : lsI P none9 (k + 1) b := by
  rcases h with ⟨a, c⟩ | ⟨a, a1, ⟨i, i1, i2⟩, c⟩
  · refine Or.inl ⟨a, fun i L hi => ?_⟩
    by_cases e : i = k.toNat
    · rw [e]; exact hn L
    · exact c i L (by omega)
  · refine Or.inr ⟨a, a1, ⟨i, by omega, i2⟩, fun i L hi hw => ?_⟩
    by_cases e : i = k.toNat
    · rw [e] at hw; exact absurd hw (hn L)
    · exact c i L (by omega) hw
theorem lsI_ge {s : Int} (h : lsI P none9 k b) (h0 : 0 ≤ k) (hm : ∀ L : Nat, P k.toNat L → s ≤ (L : Int)) (hb : b ≠ none9) (hs : b ≤ s + 1) : lsI P none9 (k + 1) b := by
  rcases h with ⟨a, c⟩ | ⟨a, a1, ⟨i, i1, i2⟩, c⟩
  · exact absurd a hb
  · refine Or.inr ⟨a, a1, ⟨i, by omega, i2⟩, fun i L hi hw => ?_⟩
    by_cases e : i = k.toNat
    · rw [e] at hw
      have := hm L hw
      omega
    · exact c i L (by omega) hw
theorem lsI_lt {s : Int} (h : lsI P none9 k b) (h0 : 0 ≤ k) (h1 : 0 ≤ s) (hw : P k.toNat s.toNat) (hm : ∀ L : Nat, P k.toNat L → s ≤ (L : Int)) (hb : b = none9 ∨ s + 1 < b) (hs : s + 1 ≠ none9) : lsI P none9 (k + 1) (s + 1) := by
  have es : (s + 1 - 1).toNat = s.toNat := by omega
  refine Or.inr ⟨hs, by omega, ⟨k.toNat, by omega, by rw [es]; exact hw⟩, fun i L hi hl => ?_⟩
  by_cases e : i = k.toNat
  · rw [e] at hl
    have := hm L hl
    omega
  · rcases h with ⟨a, c⟩ | ⟨a, a1, -, c⟩
    · exact absurd hl (c i L (by omega))
    · have := c i L (by omega) hl
      rcases hb with g | g
      · exact absurd g a
      · omega
def lsA (P : Nat → Nat → Prop) (n : Nat) (r : Int) : Prop := (r = 0 ∧ ∀ k L : Nat, k < n → ¬ P k L) ∨ (1 ≤ r ∧ (∃ k, k < n ∧ P k (r - 1).toNat) ∧ ∀ k L : Nat, k < n → P k L → r ≤ (L : Int) + 1)
theorem lsI_end (h : lsI P none9 k b) (hk : k = (n : Int)) : (b = none9 ∧ lsA P n 0) ∨ (b ≠ none9 ∧ lsA P n b) := by
  rcases h with ⟨a, c⟩ | ⟨a, a1, ⟨i, i1, i2⟩, c⟩
  · exact Or.inl ⟨a, Or.inl ⟨rfl, fun i L hi => c i L (by omega)⟩⟩
  · exact Or.inr ⟨a, Or.inr ⟨a1, ⟨i, by omega, i2⟩, fun i L hi => c i L (by omega)⟩⟩
/-- by nodes instead of by arcs -/
def rvW (m : Nat) (d : Int) (F T : Nat → Int) (v L : Nat) : Prop := lvR (stP m d F T) (fun w => stP m d F T v w) L v
theorem rv_1 (hF : ∀ k, k < m → 0 ≤ F k ∧ 0 ≤ T k) {k L : Nat} (hk : k < m) (h : rgW m d F T k L) : rvW m d F T (F k).toNat L := by
  have hb := hF k hk
  refine lv_mono (fun i j ⟨e, e1, _, e2⟩ => ⟨e, e1, e2⟩) (fun w hw => ?_) h
  exact ⟨k, hk, Or.inl ⟨by omega, by omega⟩⟩
theorem lv_of {R : Nat → Nat → Prop} {S : Nat → Prop} : ∀ {L x : Nat}, lvR R S L x → ∃ w, S w ∧ lvR R (fun y => y = w) L x := by
  intro L
  induction L with
  | zero => intro x h; exact ⟨x, h, rfl⟩
  | succ L ih =>
    intro x ⟨y, h1, h2⟩
    obtain ⟨w, w1, w2⟩ := ih h1
    exact ⟨w, w1, y, w2, h2⟩
theorem rv_2 (hd : d ≠ 0) (hF : ∀ k, k < m → 0 ≤ F k ∧ 0 ≤ T k) {v L : Nat} (h : rvW m d F T v L) (hm : ∀ L' : Nat, L' < L → ¬ rvW m d F T v L') : ∃ k, k < m ∧ (F k).toNat = v ∧ rgW m d F T k L := by
  obtain ⟨w, ⟨k, k1, k2⟩, hw⟩ := lv_of h
  have hk : F k = (v : Int) ∧ T k = (w : Int) := by
    rcases k2 with g | ⟨g, -⟩
    · exact g
    · exact absurd g hd
  have hst : stP m d F T v w := ⟨k, k1, k2⟩
  refine ⟨k, k1, by omega, ?_⟩
  have key : ∀ i, i ≤ L → ∀ x, lvR (stP m d F T) (fun y => y = w) i x → lvR (stX m d F T k) (fun y => y = w) i x := by
    intro i
    induction i with
    | zero => intro _ x hx; exact hx
    | succ i ih =>
      intro hi x ⟨y, h1, e, e1, e2⟩
      refine ⟨y, ih (by omega) y h1, e, e1, fun he => ?_, e2⟩
      subst he
      have hy : y = v := by
        rcases e2 with g | ⟨g, -⟩
        · have := g.1; omega
        · exact absurd g hd
      subst hy
      exact hm i (by omega) (lv_mono (fun _ _ q => q) (fun z hz => by rw [hz]; exact hst) h1)
  have e1 : (T k).toNat = w := by omega
  have e2 : (F k).toNat = v := by omega
  unfold rgW
  rw [e1, e2]
  exact key L (Nat.le_refl L) v hw
theorem rg_v (hd : d ≠ 0) (hF : ∀ k, k < m → (0 ≤ F k ∧ F k < (n : Int)) ∧ (0 ≤ T k ∧ T k < (n : Int))) {r : Int} (h : lsA (rvW m d F T) n r) : rgA m d F T r := by
  have hF0 : ∀ k, k < m → 0 ≤ F k ∧ 0 ≤ T k := fun k hk => by have := hF k hk; omega
  rcases h with ⟨a, b⟩ | ⟨a, ⟨v, v1, v2⟩, c⟩
  · exact Or.inl ⟨a, fun k L hk hw => b (F k).toNat L (by have := hF k hk; omega) (rv_1 hF0 hk hw)⟩
  · obtain ⟨k, k1, k2, k3⟩ := rv_2 hd hF0 v2 (fun L' hL hw => by have := c v L' v1 hw; omega)
    exact Or.inr ⟨a, ⟨k, k1, k3⟩, fun k L hk hw => c (F k).toNat L (by have := hF k hk; omega) (rv_1 hF0 hk hw)⟩
/-- one arc of a graph without directions -/
theorem ro_loop {k : Nat} (h : F k = T k) : rgW m d F T k 0 := by
  show (F k).toNat = (T k).toNat
  rw [h]
theorem ro_twin {k e : Nat} (hd : d = 0) (hF : ∀ k, k < m → 0 ≤ F k ∧ 0 ≤ T k) (hk : k < m) (he : e < m) (ht : twP F T k e) : rgW m d F T k 1 := by
  have h1 := hF k hk
  have h2 := hF e he
  refine ⟨(T k).toNat, rfl, e, he, ht.1, ?_⟩
  rcases ht.2 with ⟨g1, g2⟩ | ⟨g1, g2⟩
  · exact Or.inr ⟨hd, by omega, by omega⟩
  · exact Or.inl ⟨by omega, by omega⟩
theorem ro_ge1 {k : Nat} (hF : ∀ k, k < m → 0 ≤ F k ∧ 0 ≤ T k) (hk : k < m) (h : F k ≠ T k) : ∀ L : Nat, rgW m d F T k L → 1 ≤ (L : Int) := by
  intro L hw
  match L, hw with
  | 0, hw =>
    have h1 := hF k hk
    have h2 : (F k).toNat = (T k).toNat := hw
    omega
  | L + 1, _ => omega
/-- joinings but one -/
theorem ro_cut {R' : Nat → Nat → Prop} {k : Nat} {s : Int} (hd : d = 0) (hF : ∀ k, k < m → 0 ≤ F k ∧ 0 ≤ T k) (hk : k < m) (hR : ∀ i j, R' i j ↔ stX m d F T k i j ∧ i ≠ j) (h : dsN R' (fun x => x = (F k).toNat) (T k).toNat s) : (s = -1 ∧ ∀ L, ¬ rgW m d F T k L) ∨ (0 ≤ s ∧ rgW m d F T k s.toNat ∧ ∀ L : Nat, rgW m d F T k L → s ≤ (L : Int)) := by
  have hsy : ∀ i j, R' i j → R' j i := fun i j hij => by
    obtain ⟨⟨e, e1, e2, e3⟩, hne⟩ := (hR i j).mp hij
    refine (hR j i).mpr ⟨⟨e, e1, e2, ?_⟩, fun q => hne q.symm⟩
    rcases e3 with ⟨a, b⟩ | ⟨-, a, b⟩
    · exact Or.inr ⟨hd, b, a⟩
    · exact Or.inl ⟨b, a⟩
  have up : ∀ L, rgW m d F T k L → ∃ L', L' ≤ L ∧ lvR R' (fun x => x = (F k).toNat) L' (T k).toNat := by
    intro L hw
    obtain ⟨L', q1, q2⟩ := lv_loop (R' := R') (fun i j hij => by
      by_cases e : i = j
      · exact Or.inl e
      · exact Or.inr ((hR i j).mpr ⟨hij, e⟩)) hw
    exact ⟨L', q1, lv_sym hsy q2⟩
  have dn : ∀ L, lvR R' (fun x => x = (F k).toNat) L (T k).toNat → rgW m d F T k L := fun L hw => lv_mono (fun i j hij => ((hR i j).mp hij).1) (fun _ q => q) (lv_sym hsy hw)
  rcases h with ⟨a, b⟩ | ⟨a, b, c⟩
  · refine Or.inl ⟨a, fun L hw => ?_⟩
    obtain ⟨L', -, q2⟩ := up L hw
    exact b L' q2
  · refine Or.inr ⟨a, dn _ b, fun L hw => ?_⟩
    obtain ⟨L', q1, q2⟩ := up L hw
    rcases Int.lt_or_le (L' : Int) s with g | g
    · exact absurd q2 (c L' g)
    · omega
/-- one round of the reference's search -/
def rgS (m : Nat) (d : Int) (F T : Nat → Int) (k : Nat) (set was t : Int) : Prop := (∀ j, Me set j ↔ ∃ i : Nat, (i : Int) ≤ t ∧ lvR (stX m d F T k) (fun x => x = (T k).toNat) i j) ∧ (∀ j, Me was j ↔ ∃ i : Nat, (i : Int) < t ∧ lvR (stX m d F T k) (fun x => x = (T k).toNat) i j) ∧ (∀ i : Nat, (i : Int) < t → ¬ rgW m d F T k i)
def rgE (d : Int) (F T : Nat → Int) (k : Nat) (was set e : Int) : Prop := ∀ j, Me set j ↔ Me was j ∨ ∃ i : Nat, (i : Int) < e ∧ i ≠ k ∧ ((Me was (F i).toNat ∧ j = (T i).toNat) ∨ (d = 0 ∧ Me was (T i).toNat ∧ j = (F i).toNat))
theorem rgs_0 {k : Nat} {z : Int} (hz : ∀ j, Me z j ↔ j = (T k).toNat) : rgS m d F T k z 0 0 := by
  refine ⟨fun j => ?_, fun j => ⟨fun h => absurd h (Me_0 j), fun ⟨i, hi, _⟩ => by omega⟩, fun i hi => by omega⟩
  rw [hz j]
  constructor
  · intro h; exact ⟨0, by omega, h⟩
  · rintro ⟨i, hi, h⟩
    have e : i = 0 := by omega
    subst e; exact h
theorem rge_0 {k : Nat} {was : Int} : rgE d F T k was was 0 := fun j => ⟨Or.inl, fun h => h.elim id (fun ⟨i, hi, _⟩ => by omega)⟩
theorem rge_sk {k : Nat} {was set e : Int} (h : rgE d F T k was set e) (h0 : 0 ≤ e) (he : e.toNat = k) : rgE d F T k was set (e + 1) := by
  intro j
  rw [h j]
  constructor
  · rintro (g | ⟨i, i1, i2, i3⟩)
    · exact Or.inl g
    · exact Or.inr ⟨i, by omega, i2, i3⟩
  · rintro (g | ⟨i, i1, i2, i3⟩)
    · exact Or.inl g
    · exact Or.inr ⟨i, by omega, i2, i3⟩
theorem rge_up {k : Nat} {was set z1 z2 e : Int} (h : rgE d F T k was set e) (h0 : 0 ≤ e) (he : e.toNat ≠ k) (h1 : ∀ j, Me z1 j ↔ Me set j ∨ (Me was (F e.toNat).toNat ∧ j = (T e.toNat).toNat)) (h2 : ∀ j, Me z2 j ↔ Me z1 j ∨ (d = 0 ∧ Me was (T e.toNat).toNat ∧ j = (F e.toNat).toNat)) : rgE d F T k was z2 (e + 1) := by
  intro j
  rw [h2 j, h1 j, h j]
  constructor
  · rintro (((g | ⟨i, i1, i2, i3⟩) | g) | g)
    · exact Or.inl g
    · exact Or.inr ⟨i, by omega, i2, i3⟩
    · exact Or.inr ⟨e.toNat, by omega, he, Or.inl g⟩
    · exact Or.inr ⟨e.toNat, by omega, he, Or.inr g⟩
  · rintro (g | ⟨i, i1, i2, i3⟩)
    · exact Or.inl (Or.inl (Or.inl g))
    · by_cases q : i = e.toNat
      · subst q
        rcases i3 with g | g
        · exact Or.inl (Or.inr g)
        · exact Or.inr g
      · exact Or.inl (Or.inl (Or.inr ⟨i, by omega, i2, i3⟩))
theorem rgs_up {k : Nat} {set was z e t : Int} (hF : ∀ k, k < m → 0 ≤ F k ∧ 0 ≤ T k) (h : rgS m d F T k set was t) (h0 : 0 ≤ t) (hn : ¬ Me set (F k).toNat) (hE : rgE d F T k set z e) (he : e = (m : Int)) : rgS m d F T k z set (t + 1) := by
  obtain ⟨q1, q2, q3⟩ := h
  refine ⟨fun j => ?_, fun j => ?_, fun i hi hw => ?_⟩
  · rw [hE j]
    constructor
    · rintro (g | ⟨i, i1, i2, i3⟩)
      · obtain ⟨i, hi, hl⟩ := (q1 j).mp g
        exact ⟨i, by omega, hl⟩
      · have hb := hF i (by omega)
        rcases i3 with ⟨g1, g2⟩ | ⟨g0, g1, g2⟩
        · obtain ⟨a, ha, hl⟩ := (q1 _).mp g1
          exact ⟨a + 1, by omega, _, hl, i, by omega, i2, Or.inl ⟨by omega, by omega⟩⟩
        · obtain ⟨a, ha, hl⟩ := (q1 _).mp g1
          exact ⟨a + 1, by omega, _, hl, i, by omega, i2, Or.inr ⟨g0, by omega, by omega⟩⟩
    · rintro ⟨i, hi, hl⟩
      match i, hi, hl with
      | 0, hi, hl => exact Or.inl ((q1 j).mpr ⟨0, by omega, hl⟩)
      | i + 1, hi, ⟨y, g1, e9, g2, g3, g4⟩ =>
        have hy : Me set y := (q1 y).mpr ⟨i, by omega, g1⟩
        refine Or.inr ⟨e9, by omega, g3, ?_⟩
        rcases g4 with ⟨a, b⟩ | ⟨a0, a, b⟩
        · left
          have ey : (F e9).toNat = y := by omega
          rw [ey]; exact ⟨hy, by omega⟩
        · right
          have ey : (T e9).toNat = y := by omega
          rw [ey]; exact ⟨a0, hy, by omega⟩
  · rw [q1 j]
    constructor
    · rintro ⟨i, hi, hl⟩; exact ⟨i, by omega, hl⟩
    · rintro ⟨i, hi, hl⟩; exact ⟨i, by omega, hl⟩
  · rcases Int.lt_or_le (i : Int) t with g | g
    · exact q3 i g hw
    · exact hn ((q1 _).mpr ⟨i, by omega, hw⟩)
theorem rgs_yes {k : Nat} {set was t : Int} (h : rgS m d F T k set was t) (h0 : 0 ≤ t) (hm : Me set (F k).toNat) : rgW m d F T k t.toNat ∧ ∀ L : Nat, rgW m d F T k L → t ≤ (L : Int) := by
  obtain ⟨q1, q2, q3⟩ := h
  obtain ⟨i, hi, hl⟩ := (q1 _).mp hm
  have e : i = t.toNat := by
    rcases Int.lt_or_le (i : Int) t with g | g
    · exact absurd hl (q3 i g)
    · omega
  rw [e] at hl
  refine ⟨hl, fun L hw => ?_⟩
  rcases Int.lt_or_le (L : Int) t with g | g
  · exact absurd hw (q3 L g)
  · exact g
theorem rgs_no {k : Nat} {set was t : Int} (h : rgS m d F T k set was t) (h0 : 0 ≤ t) (hn : ¬ Me set (F k).toNat) (he : set = was) : ∀ L, ¬ rgW m d F T k L := by
  obtain ⟨q1, q2, q3⟩ := h
  have low : ∀ (i j : Nat), lvR (stX m d F T k) (fun x => x = (T k).toNat) i j → Me was j := by
    intro i
    induction i with
    | zero => intro j hl; rw [← he]; exact (q1 j).mpr ⟨0, by omega, hl⟩
    | succ i ih =>
      intro j ⟨y, g1, g2⟩
      obtain ⟨a, ha, hl⟩ := (q2 y).mp (ih y g1)
      rw [← he]
      exact (q1 j).mpr ⟨a + 1, by omega, y, hl, g2⟩
  intro L hw
  exact hn (by rw [he]; exact low L _ hw)
end RG9
theorem ds_no {R : Nat → Nat → Prop} {S : Nat → Prop} {goal : Nat} {r : Int} (h : dsN R S goal r) (hr : r < 0) : ∀ L, ¬ lvR R S L goal := by
  rcases h with ⟨-, b⟩ | ⟨a, -⟩
  · exact b
  · omega
theorem ds_yes {R : Nat → Nat → Prop} {S : Nat → Prop} {goal : Nat} {r : Int} (h : dsN R S goal r) (hr : 0 ≤ r) : lvR R S r.toNat goal ∧ ∀ L : Nat, lvR R S L goal → r ≤ (L : Int) := by
  rcases h with ⟨a, -⟩ | ⟨-, b, c⟩
  · omega
  · refine ⟨b, fun L hl => ?_⟩
    rcases Int.lt_or_le (L : Int) r with g | g
    · exact absurd hl (c L g)
    · exact g
/-- what one arc gives -/
def roP (m : Nat) (d : Int) (F T : Nat → Int) (k : Nat) (r : Int) : Prop := (r = 0 ∧ ∀ L, ¬ rgW m d F T k L) ∨ (1 ≤ r ∧ rgW m d F T k (r - 1).toNat ∧ ∀ L : Nat, rgW m d F T k L → r - 1 ≤ (L : Int))
theorem ro_1 {m : Nat} {d : Int} {F T : Nat → Int} {k : Nat} (h : F k = T k) : roP m d F T k 1 := Or.inr ⟨by decide, ro_loop h, fun L _ => by omega⟩
theorem ro_2 {m : Nat} {d : Int} {F T : Nat → Int} {k e : Nat} (hd : d = 0) (hF : ∀ k, k < m → 0 ≤ F k ∧ 0 ≤ T k) (hk : k < m) (h : F k ≠ T k) (he : e < m) (ht : twP F T k e) : roP m d F T k 2 := Or.inr ⟨by decide, ro_twin hd hF hk he ht, fun L hw => by have := ro_ge1 hF hk h L hw; omega⟩
theorem ro_3 {R' : Nat → Nat → Prop} {m : Nat} {d : Int} {F T : Nat → Int} {k : Nat} {s : Int} (hd : d = 0) (hF : ∀ k, k < m → 0 ≤ F k ∧ 0 ≤ T k) (hk : k < m) (hR : ∀ i j, R' i j ↔ stX m d F T k i j ∧ i ≠ j) (h : dsN R' (fun x => x = (F k).toNat) (T k).toNat s) : roP m d F T k (s + 1) := by
  have e : s + 1 - 1 = s := by omega
  rcases ro_cut hd hF hk hR h with ⟨a, b⟩ | ⟨a, b, c⟩
  · exact Or.inl ⟨by omega, b⟩
  · refine Or.inr ⟨by omega, ?_, ?_⟩
    · rw [e]; exact b
    · rw [e]; exact c
theorem ls_ro {m : Nat} {d : Int} {F T : Nat → Int} {k b r : Int} (h : lsI (rgW m d F T) 0 k b) (h0 : 0 ≤ k) (hr : roP m d F T k.toNat r) : (r ≤ 0 → lsI (rgW m d F T) 0 (k + 1) b) ∧ (0 < r → b = 0 ∨ r < b → lsI (rgW m d F T) 0 (k + 1) r) ∧ (0 < r → b ≠ 0 → b ≤ r → lsI (rgW m d F T) 0 (k + 1) b) := by
  rcases hr with ⟨a, c⟩ | ⟨a, c, e⟩
  · exact ⟨fun _ => lsI_no h h0 c, fun g => by omega, fun g => by omega⟩
  · refine ⟨fun g => by omega, fun _ g => ?_, fun _ g1 g2 => lsI_ge h h0 e g1 (by omega)⟩
    have h9 := lsI_lt (s := r - 1) h h0 (by omega) c e (by omega) (by omega)
    rw [show r - 1 + 1 = r by omega] at h9
    exact h9
theorem jo_stX {m : Nat} {d : Int} {F T : Nat → Int} {k : Nat} (hd : d = 0) (i j : Nat) : joX m F T (fun e => True ∧ e ≠ k) i j ↔ stX m d F T k i j ∧ i ≠ j := by
  constructor
  · rintro ⟨e, e1, ⟨-, e2⟩, e3, e4⟩
    refine ⟨⟨e, e1, e2, ?_⟩, ?_⟩
    · rcases e4 with g | g
      · exact Or.inl g
      · exact Or.inr ⟨hd, g⟩
    · intro h
      subst h
      rcases e4 with ⟨a, b⟩ | ⟨a, b⟩ <;> omega
  · rintro ⟨⟨e, e1, e2, e3⟩, hne⟩
    refine ⟨e, e1, ⟨trivial, e2⟩, ?_, ?_⟩
    · intro h
      rcases e3 with ⟨a, b⟩ | ⟨-, a, b⟩ <;> omega
    · rcases e3 with g | ⟨-, g⟩
      · exact Or.inl g
      · exact Or.inr g
theorem ls_e0 {P : Nat → Nat → Prop} {n : Nat} {k b : Int} (h : lsI P 0 k b) (hk : k = (n : Int)) : lsA P n b := by
  rcases lsI_end (n := n) h hk with ⟨e, g⟩ | ⟨-, g⟩
  · rw [e]; exact g
  · exact g
theorem ls_e9 {P : Nat → Nat → Prop} {n : Nat} {k b none9 : Int} (h : lsI P none9 k b) (hk : k = (n : Int)) : (b = none9 → lsA P n 0) ∧ (b ≠ none9 → lsA P n b) := by
  rcases lsI_end (n := n) h hk with ⟨e, g⟩ | ⟨e, g⟩
  · exact ⟨fun _ => g, fun h9 => absurd e h9⟩
  · exact ⟨fun h9 => absurd h9 e, fun _ => g⟩
theorem rgs_bc {m : Nat} {d : Int} {F T : Nat → Int} {k : Nat} {set was t : Int} (h : rgS m d F T k set was t) (hs : 0 ≤ set ∧ set ≤ 65535) (hw : 0 ≤ was) (hne : set ≠ was) : bcn was 16 + 1 ≤ bcn set 16 := by
  obtain ⟨q1, q2, q3⟩ := h
  have sub : ∀ j, Me was j → Me set j := fun j hj => by
    obtain ⟨i, hi, hl⟩ := (q2 j).mp hj
    exact (q1 j).mpr ⟨i, by omega, hl⟩
  have hex : ∃ j, Me set j ∧ ¬ Me was j := Classical.byContradiction (fun h9 => hne (Me_ext hs.1 hw (fun i => ⟨fun g => Classical.byContradiction (fun g2 => h9 ⟨i, g, g2⟩), sub i⟩)))
  obtain ⟨j, j1, j2⟩ := hex
  exact bcn_lt sub j1 j2 16 (Me_lt j1 hs.2)
set_option maxHeartbeats 4000000 in
set_option maxRecDepth 100000 in
theorem x_X12_ring {D : va_G} {cI cJ cZ cT : ClassId} {lo b L : Nat} {xs : Nat → Int32} {hp : MH} {n d : Nat} {Γ : TG} {y : Nat} {rf cn nm : Int} {so sz dr mn fr tt wt co : Nat → Int} {nu : Nat → Int64} {sa : Nat → Int} {wo : Nat → Int64} {ln : Nat → Int} {hw : Nat → Int64} {ro qi qc nf nt nw nc : Nat → Int} {cl nx : Nat → Int64} {ie be sd bl : Nat → Int} {bs wy ra rb : Nat → Int64} {lb bg os js ls : Nat → Int} {sp : Nat → Int64} {jw go : Nat → Int} {de : Nat → Int64} {yb ah im : Nat → Int} {x1 : Int} {Po9 : Option Value → MH → Nat → Prop} (hd0 : 1 ≤ d) (hR_many : Rfx 121 0 60 mn) (hR_from : Rfx 7260 0 15 fr) (hR_to : Rfx 7260 0 15 tt) (hR_directs : Rfx 121 0 1 dr) (ht : Tw (RX Γ cI cJ cZ y rf cn nm so sz dr mn fr tt wt co nu sa wo ln hw ro qi qc nf nt nw nc cl nx ie be sd bl bs wy ra rb lb bg os js ls sp jw go de yb ah im) hp) (hx1 : 0 ≤ x1 ∧ x1 ≤ 120) (hPo : ∀ r hp1 n1, (n1 = n ∧ ∃ (q9 : Int64), Tw (RX Γ cI cJ cZ y rf cn nm so sz dr mn fr tt wt co nu sa wo ln hw ro qi qc nf nt nw nc cl nx ie be sd bl bs wy ra rb lb bg os js ls sp jw go de yb ah im) hp1 ∧ r = some (.long q9) ∧ (rgA (Int.toNat (mn (Int.toNat x1))) (dr (Int.toNat x1)) (sh fr (60 * x1)) (sh tt (60 * x1)) q9.toInt)) → Po9 r hp1 n1) : Mt (gG D cI cJ cZ cT lo b L xs) mX12_ring d 0 0 [.ref y, .int (iv x1)] hp n Po9 := by
  refine Mt.of rfl (Nat.le_of_ble_eq_true rfl) ?_
  refine Rn.pick (lv' := [(0, .ref y), (1, .int (iv x1))]) [0, 1] rfl ?_
  have rmn := hR_many (Int.toNat x1) (by omega)
  have rdr := hR_directs (Int.toNat x1) (by omega)
  have hF0 : ∀ k, k < (Int.toNat (mn (Int.toNat x1))) → 0 ≤ (sh fr (60 * x1)) k ∧ 0 ≤ (sh tt (60 * x1)) k := fun k hk => ⟨(hR_from (60 * x1 + (k : Int)).toNat (by omega)).1, (hR_to (60 * x1 + (k : Int)).toNat (by omega)).1⟩
  refine r_bipush (pc := 0) (v := iv 99) dX12_ring_0 (by decide) ?_
  refine r_istore_n (pc := 2) (lv' := [(2, .int (iv 99)), (0, .ref y), (1, .int (iv x1))]) dX12_ring_2 (i := 2) rfl (by decide) rfl ?_
  refine r_iconst (pc := 3) (v := iv 0) dX12_ring_3 (by decide) ?_
  refine r_istore_n (pc := 4) (lv' := [(3, .int (iv 0)), (2, .int (iv 99)), (0, .ref y), (1, .int (iv x1))]) dX12_ring_4 (i := 3) rfl (by decide) rfl ?_
  have B5 : ∀ k : Nat, ∀ hp5 : MH, Tw (RX Γ cI cJ cZ y rf cn nm so sz dr mn fr tt wt co nu sa wo ln hw ro qi qc nf nt nw nc cl nx ie be sd bl bs wy ra rb lb bg os js ls sp jw go de yb ah im) hp5 → ∀  (v5_2 : Int) (v5_3 : Int), 1 ≤ v5_2 ∧ v5_2 ≤ 99 ∧ 0 ≤ v5_3 ∧ v5_3 ≤ 60 ∧ (v5_3 ≤ (mn (Int.toNat x1))) ∧ (lsI (rgW (Int.toNat (mn (Int.toNat x1))) (dr (Int.toNat x1)) (sh fr (60 * x1)) (sh tt (60 * x1))) 99 v5_3 v5_2) → 60 - v5_3 ≤ (k : Int) → Rn (gG D cI cJ cZ cT lo b L xs) mX12_ring d 5 [(0, .ref y), (1, .int (iv x1)), (2, .int (iv v5_2)), (3, .int (iv v5_3))] [] hp5 n 0 0 Po9 := by
    refine lpS _ ?_
    intro k5 ih5 hp5 ht5 v5_2 v5_3 hf5 hm5
    obtain ⟨hf5_0, hf5_1, hf5_2, hf5_3, hf5_4, ha5_5⟩ := hf5
    refine r_iload_n (pc := 5) dX12_ring_5 (i := 3) rfl rfl ?_
    refine r_aload_n (pc := 6) dX12_ring_6 (i := 0) rfl rfl ?_
    refine t_getE (pc := 7) (.ref (y + 4)) ht5 (rd_of RX_y) fX12_20 dX12_ring_7 rfl ?_
    refine r_iload_n (pc := 10) dX12_ring_10 (i := 1) rfl rfl ?_
    refine t_ialdX (pc := 11) (t0 := 0) ht5 (rd_of RX_many) dX12_ring_11 rfl (by decide) (by omega) (fun b1 => ?_)
    have rb1 := (show Rfx 121 0 60 mn by assumption) (Int.toNat x1) (by omega)
    refine t_icmp_ge (pc := 12) (tgt := 217) dX12_ring_12 (by decide) (by omega) (by omega) (fun c12 => ?_) (fun c12 => ?_)
    · refine r_iload_n (pc := 217) dX12_ring_217 (i := 2) rfl rfl ?_
      refine r_bipush (pc := 218) (v := iv 99) dX12_ring_218 (by decide) ?_
      refine t_icmp_ne (pc := 220) (tgt := 227) dX12_ring_220 (by decide) (by omega) (by omega) (fun c220 => ?_) (fun c220 => ?_)
      · refine r_iload_n (pc := 227) dX12_ring_227 (i := 2) rfl rfl ?_
        refine r_i2l (pc := 228) (v := (iv v5_2).toInt64) dX12_ring_228 rfl ?_
        exact r_lret (pc := 229) dX12_ring_229 rfl (hPo _ _ _ ⟨rfl, ((iv v5_2).toInt64), ht5, rfl, (by (rw [iv_long (x := v5_2) (by omega)]; exact (ls_e9 (by assumption : lsI (rgW (Int.toNat (mn (Int.toNat x1))) (dr (Int.toNat x1)) (sh fr (60 * x1)) (sh tt (60 * x1))) 99 v5_3 v5_2) (by omega)).2 (by omega)))⟩)
      · refine r_lconst (pc := 223) (v := 0) dX12_ring_223 (by decide) ?_
        have hk223 : (0 : Int64).toInt = 0 := by decide
        refine r_goto (pc := 224) (tgt := 229) dX12_ring_224 (by decide) ?_
        exact r_lret (pc := 229) dX12_ring_229 rfl (hPo _ _ _ ⟨rfl, (0 : Int64), ht5, rfl, (by (rw [hk223]; exact (ls_e9 (by assumption : lsI (rgW (Int.toNat (mn (Int.toNat x1))) (dr (Int.toNat x1)) (sh fr (60 * x1)) (sh tt (60 * x1))) 99 v5_3 v5_2) (by omega)).1 (by omega)))⟩)
    · refine r_iload_n (pc := 15) dX12_ring_15 (i := 1) rfl rfl ?_
      refine r_iload_n (pc := 16) dX12_ring_16 (i := 3) rfl rfl ?_
      refine t_callSI (pc := 17) (as := [.int (iv x1), .int (iv v5_3)]) (st := []) kX12_157 dX12_ring_17 (t_X12_at1x (d := d - 1) (x1 := x1) (x2 := v5_3) (by omega)  ht5 (by omega) (by omega)) rfl (by omega) (Nat.le_of_ble_eq_true rfl) rfl (fun hp2 y4 ht3 by4 => ?_)
      have ey4 : y4 = 60 * x1 + v5_3 := by4
      subst ey4
      refine r_istore (pc := 20) (lv' := [(4, .int (iv (60 * x1 + v5_3))), (0, .ref y), (1, .int (iv x1)), (2, .int (iv v5_2)), (3, .int (iv v5_3))]) dX12_ring_20 (by decide) rfl ?_
      have eF := sh_at fr (60 * x1) (v := v5_3) (by omega)
      have eT := sh_at tt (60 * x1) (v := v5_3) (by omega)
      refine r_iconst (pc := 22) (v := iv 1) dX12_ring_22 (by decide) ?_
      refine r_aload_n (pc := 23) dX12_ring_23 (i := 0) rfl rfl ?_
      refine t_getE (pc := 24) (.ref (y + 6)) ht3 (rd_of RX_y) fX12_26 dX12_ring_24 rfl ?_
      refine r_iload (pc := 27) dX12_ring_27 rfl ?_
      refine t_ialdX (pc := 29) (t0 := 0) ht3 (rd_of RX_to) dX12_ring_29 rfl (by decide) (by omega) (fun b5 => ?_)
      have rb5 := (show Rfx 7260 0 15 tt by assumption) (Int.toNat (60 * x1 + v5_3)) (by omega)
      refine r_ishl (pc := 30) (v := iv ((2 ^ Int.toNat (tt (Int.toNat (60 * x1 + v5_3))) : Nat) : Int)) dX12_ring_30 (shl_e (by omega)) ?_
      have mp30_6 : 1 ≤ 2 ^ Int.toNat (tt (Int.toNat (60 * x1 + v5_3))) := Nat.one_le_two_pow
      have mq30_7 : 2 ^ Int.toNat (tt (Int.toNat (60 * x1 + v5_3))) ≤ 2 ^ 15 := Nat.pow_le_pow_right (by omega) (by omega)
      have ms30 := Me_shl (Int.toNat (tt (Int.toNat (60 * x1 + v5_3))))
      have hz0 : ∀ j, Me ((2 ^ Int.toNat (tt (Int.toNat (60 * x1 + v5_3))) : Nat) : Int) j ↔ j = ((sh tt (60 * x1)) (Int.toNat v5_3)).toNat := fun j => by rw [ms30 j, eT]
      refine r_istore (pc := 31) (lv' := [(5, .int (iv ((2 ^ Int.toNat (tt (Int.toNat (60 * x1 + v5_3))) : Nat) : Int))), (4, .int (iv (60 * x1 + v5_3))), (0, .ref y), (1, .int (iv x1)), (2, .int (iv v5_2)), (3, .int (iv v5_3))]) dX12_ring_31 (by decide) rfl ?_
      refine r_iconst (pc := 33) (v := iv 0) dX12_ring_33 (by decide) ?_
      refine r_istore (pc := 34) (lv' := [(6, .int (iv 0)), (5, .int (iv ((2 ^ Int.toNat (tt (Int.toNat (60 * x1 + v5_3))) : Nat) : Int))), (4, .int (iv (60 * x1 + v5_3))), (0, .ref y), (1, .int (iv x1)), (2, .int (iv v5_2)), (3, .int (iv v5_3))]) dX12_ring_34 (by decide) rfl ?_
      refine r_iconst (pc := 36) (v := iv 0) dX12_ring_36 (by decide) ?_
      refine r_istore (pc := 37) (lv' := [(7, .int (iv 0)), (6, .int (iv 0)), (5, .int (iv ((2 ^ Int.toNat (tt (Int.toNat (60 * x1 + v5_3))) : Nat) : Int))), (4, .int (iv (60 * x1 + v5_3))), (0, .ref y), (1, .int (iv x1)), (2, .int (iv v5_2)), (3, .int (iv v5_3))]) dX12_ring_37 (by decide) rfl ?_
      have B39 : ∀ k : Nat, ∀ hp39 : MH, Tw (RX Γ cI cJ cZ y rf cn nm so sz dr mn fr tt wt co nu sa wo ln hw ro qi qc nf nt nw nc cl nx ie be sd bl bs wy ra rb lb bg os js ls sp jw go de yb ah im) hp39 → ∀  (v39_5 : Int) (v39_6 : Int) (v39_7 : Int), 1 ≤ v39_5 ∧ v39_5 ≤ 65535 ∧ ((2 ^ Int.toNat (tt (Int.toNat (60 * x1 + v5_3))) : Nat) : Int) ≤ v39_5 ∧ 0 ≤ v39_6 ∧ v39_6 ≤ 65535 ∧ 0 ≤ v39_7 ∧ v39_7 ≤ 65535 ∧ (v39_7 ≤ v39_5) ∧ (v39_6 ≤ ((bcn v39_7 16 : Nat) : Int)) ∧ (rgS (Int.toNat (mn (Int.toNat x1))) (dr (Int.toNat x1)) (sh fr (60 * x1)) (sh tt (60 * x1)) (Int.toNat v5_3) v39_5 v39_7 v39_6) → 65536 - v39_7 ≤ (k : Int) → Rn (gG D cI cJ cZ cT lo b L xs) mX12_ring d 39 [(0, .ref y), (1, .int (iv x1)), (2, .int (iv v5_2)), (3, .int (iv v5_3)), (4, .int (iv (60 * x1 + v5_3))), (5, .int (iv v39_5)), (6, .int (iv v39_6)), (7, .int (iv v39_7))] [] hp39 n 0 0 Po9 := by
        refine lpS _ ?_
        intro k39 ih39 hp39 ht39 v39_5 v39_6 v39_7 hf39 hm39
        obtain ⟨hf39_0, hf39_1, hf39_2, hf39_3, hf39_4, hf39_5, hf39_6, hf39_7, hf39_8, ha39_9⟩ := hf39
        refine r_iload (pc := 39) dX12_ring_39 rfl ?_
        refine r_aload_n (pc := 41) dX12_ring_41 (i := 0) rfl rfl ?_
        refine t_getE (pc := 42) (.ref (y + 5)) ht39 (rd_of RX_y) fX12_23 dX12_ring_42 rfl ?_
        refine r_iload (pc := 45) dX12_ring_45 rfl ?_
        refine t_ialdX (pc := 47) (t0 := 0) ht39 (rd_of RX_from) dX12_ring_47 rfl (by decide) (by omega) (fun b8 => ?_)
        have rb8 := (show Rfx 7260 0 15 fr by assumption) (Int.toNat (60 * x1 + v5_3)) (by omega)
        have hq48_9 := shr_le (Int.toNat v39_5) (Int.toNat (fr (Int.toNat (60 * x1 + v5_3))))
        refine r_ishr (pc := 48) (v := iv ((Int.toNat v39_5 >>> Int.toNat (fr (Int.toNat (60 * x1 + v5_3))) : Nat) : Int)) dX12_ring_48 (shr_e (by omega) (by omega)) ?_
        refine r_iconst (pc := 49) (v := iv 1) dX12_ring_49 (by decide) ?_
        refine r_iand (pc := 50) (v := iv (((Int.toNat v39_5 >>> Int.toNat (fr (Int.toNat (60 * x1 + v5_3))) : Nat) : Int) % 2)) dX12_ring_50 (and1_e _ (by omega)) ?_
        have mb50 := @Me_bit v39_5 (fr (Int.toNat (60 * x1 + v5_3)))
        refine t_if_ne (pc := 51) (tgt := 182) dX12_ring_51 (by decide) (by omega) (fun c51 => ?_) (fun c51 => ?_)
        · have pm51 : Me v39_5 (Int.toNat (fr (Int.toNat (60 * x1 + v5_3)))) := Me_bit.mp (by omega)
          have hpm : Me v39_5 (Int.toNat ((sh fr (60 * x1)) (Int.toNat v5_3))) := by rw [← eF]; exact pm51
          refine r_iload (pc := 182) dX12_ring_182 rfl ?_
          refine r_aload_n (pc := 184) dX12_ring_184 (i := 0) rfl rfl ?_
          refine t_getE (pc := 185) (.ref (y + 5)) ht39 (rd_of RX_y) fX12_23 dX12_ring_185 rfl ?_
          refine r_iload (pc := 188) dX12_ring_188 rfl ?_
          refine t_ialdX (pc := 190) (t0 := 0) ht39 (rd_of RX_from) dX12_ring_190 rfl (by decide) (by omega) (fun b10 => ?_)
          have rb10 := (show Rfx 7260 0 15 fr by assumption) (Int.toNat (60 * x1 + v5_3)) (by omega)
          have hq191_11 := shr_le (Int.toNat v39_5) (Int.toNat (fr (Int.toNat (60 * x1 + v5_3))))
          refine r_ishr (pc := 191) (v := iv ((Int.toNat v39_5 >>> Int.toNat (fr (Int.toNat (60 * x1 + v5_3))) : Nat) : Int)) dX12_ring_191 (shr_e (by omega) (by omega)) ?_
          refine r_iconst (pc := 192) (v := iv 1) dX12_ring_192 (by decide) ?_
          refine r_iand (pc := 193) (v := iv (((Int.toNat v39_5 >>> Int.toNat (fr (Int.toNat (60 * x1 + v5_3))) : Nat) : Int) % 2)) dX12_ring_193 (and1_e _ (by omega)) ?_
          have mb193 := @Me_bit v39_5 (fr (Int.toNat (60 * x1 + v5_3)))
          refine r_iconst (pc := 194) (v := iv 1) dX12_ring_194 (by decide) ?_
          refine t_icmp_ne (pc := 195) (tgt := 211) dX12_ring_195 (by decide) (by omega) (by omega) (fun c195 => ?_) (fun c195 => ?_)
          · have nm195 : ¬ Me v39_5 (Int.toNat (fr (Int.toNat (60 * x1 + v5_3)))) := fun h9 => absurd (Me_bit.mpr h9) (by omega)
            have hls : lsI (rgW (Int.toNat (mn (Int.toNat x1))) (dr (Int.toNat x1)) (sh fr (60 * x1)) (sh tt (60 * x1))) 99 (v5_3 + 1) v5_2 := absurd pm51 nm195
            refine r_iinc (pc := 211) (v := iv (v5_3 + 1)) (lv' := [(3, .int (iv (v5_3 + 1))), (0, .ref y), (1, .int (iv x1)), (2, .int (iv v5_2)), (4, .int (iv (60 * x1 + v5_3))), (5, .int (iv v39_5)), (6, .int (iv v39_6)), (7, .int (iv v39_7))]) dX12_ring_211 rfl (iv_add _ _) (by decide) rfl ?_
            refine r_goto (pc := 214) (tgt := 5) dX12_ring_214 (by decide) ?_
            refine Rn.pick (lv' := [(0, .ref y), (1, .int (iv x1)), (2, .int (iv v5_2)), (3, .int (iv (v5_3 + 1)))]) [1, 2, 3, 0] rfl ?_
            exact ih5 (Int.toNat (60 - (v5_3 + 1))) (by omega) _ ht39 v5_2 (v5_3 + 1) ⟨by omega, by omega, by omega, by omega, by omega, by (first | exact hls | exact lsI_0)⟩ (by omega)
          · have pm195 : Me v39_5 (Int.toNat (fr (Int.toNat (60 * x1 + v5_3)))) := Me_bit.mp (by omega)
            have hy : rgW (Int.toNat (mn (Int.toNat x1))) (dr (Int.toNat x1)) (sh fr (60 * x1)) (sh tt (60 * x1)) (Int.toNat v5_3) (Int.toNat v39_6) ∧ ∀ L : Nat, rgW (Int.toNat (mn (Int.toNat x1))) (dr (Int.toNat x1)) (sh fr (60 * x1)) (sh tt (60 * x1)) (Int.toNat v5_3) L → v39_6 ≤ (L : Int) := rgs_yes (by assumption : rgS (Int.toNat (mn (Int.toNat x1))) (dr (Int.toNat x1)) (sh fr (60 * x1)) (sh tt (60 * x1)) (Int.toNat v5_3) v39_5 v39_7 v39_6) (by omega) hpm
            have hb17 := bcn_le v39_7 16
            refine r_iload (pc := 198) dX12_ring_198 rfl ?_
            refine r_iconst (pc := 200) (v := iv 1) dX12_ring_200 (by decide) ?_
            refine r_iadd (pc := 201) (v := iv (v39_6 + 1)) dX12_ring_201 (iv_add _ _) ?_
            refine r_iload_n (pc := 202) dX12_ring_202 (i := 2) rfl rfl ?_
            refine t_icmp_ge (pc := 203) (tgt := 211) dX12_ring_203 (by decide) (by omega) (by omega) (fun c203 => ?_) (fun c203 => ?_)
            · have hls := lsI_ge (by assumption : lsI (rgW (Int.toNat (mn (Int.toNat x1))) (dr (Int.toNat x1)) (sh fr (60 * x1)) (sh tt (60 * x1))) 99 v5_3 v5_2) (by omega) hy.2 (by omega) (by omega)
              refine r_iinc (pc := 211) (v := iv (v5_3 + 1)) (lv' := [(3, .int (iv (v5_3 + 1))), (0, .ref y), (1, .int (iv x1)), (2, .int (iv v5_2)), (4, .int (iv (60 * x1 + v5_3))), (5, .int (iv v39_5)), (6, .int (iv v39_6)), (7, .int (iv v39_7))]) dX12_ring_211 rfl (iv_add _ _) (by decide) rfl ?_
              refine r_goto (pc := 214) (tgt := 5) dX12_ring_214 (by decide) ?_
              refine Rn.pick (lv' := [(0, .ref y), (1, .int (iv x1)), (2, .int (iv v5_2)), (3, .int (iv (v5_3 + 1)))]) [1, 2, 3, 0] rfl ?_
              exact ih5 (Int.toNat (60 - (v5_3 + 1))) (by omega) _ ht39 v5_2 (v5_3 + 1) ⟨by omega, by omega, by omega, by omega, by omega, by (first | exact hls | exact lsI_0)⟩ (by omega)
            · refine r_iload (pc := 206) dX12_ring_206 rfl ?_
              refine r_iconst (pc := 208) (v := iv 1) dX12_ring_208 (by decide) ?_
              refine r_iadd (pc := 209) (v := iv (v39_6 + 1)) dX12_ring_209 (iv_add _ _) ?_
              refine r_istore_n (pc := 210) (lv' := [(2, .int (iv (v39_6 + 1))), (0, .ref y), (1, .int (iv x1)), (3, .int (iv v5_3)), (4, .int (iv (60 * x1 + v5_3))), (5, .int (iv v39_5)), (6, .int (iv v39_6)), (7, .int (iv v39_7))]) dX12_ring_210 (i := 2) rfl (by decide) rfl ?_
              have hls := lsI_lt (by assumption : lsI (rgW (Int.toNat (mn (Int.toNat x1))) (dr (Int.toNat x1)) (sh fr (60 * x1)) (sh tt (60 * x1))) 99 v5_3 v5_2) (by omega) (by omega) hy.1 hy.2 (by omega) (by omega)
              refine r_iinc (pc := 211) (v := iv (v5_3 + 1)) (lv' := [(3, .int (iv (v5_3 + 1))), (2, .int (iv (v39_6 + 1))), (0, .ref y), (1, .int (iv x1)), (4, .int (iv (60 * x1 + v5_3))), (5, .int (iv v39_5)), (6, .int (iv v39_6)), (7, .int (iv v39_7))]) dX12_ring_211 rfl (iv_add _ _) (by decide) rfl ?_
              refine r_goto (pc := 214) (tgt := 5) dX12_ring_214 (by decide) ?_
              refine Rn.pick (lv' := [(0, .ref y), (1, .int (iv x1)), (2, .int (iv (v39_6 + 1))), (3, .int (iv (v5_3 + 1)))]) [2, 3, 1, 0] rfl ?_
              exact ih5 (Int.toNat (60 - (v5_3 + 1))) (by omega) _ ht39 (v39_6 + 1) (v5_3 + 1) ⟨by omega, by omega, by omega, by omega, by omega, by (first | exact hls | exact lsI_0)⟩ (by omega)
        · have nm51 : ¬ Me v39_5 (Int.toNat (fr (Int.toNat (60 * x1 + v5_3)))) := fun h9 => absurd (Me_bit.mpr h9) (by omega)
          have hnm : ¬ Me v39_5 (Int.toNat ((sh fr (60 * x1)) (Int.toNat v5_3))) := by rw [← eF]; exact nm51
          refine r_iload (pc := 54) dX12_ring_54 rfl ?_
          refine r_iload (pc := 56) dX12_ring_56 rfl ?_
          refine t_icmp_eq (pc := 58) (tgt := 182) dX12_ring_58 (by decide) (by omega) (by omega) (fun c58 => ?_) (fun c58 => ?_)
          · refine r_iload (pc := 182) dX12_ring_182 rfl ?_
            refine r_aload_n (pc := 184) dX12_ring_184 (i := 0) rfl rfl ?_
            refine t_getE (pc := 185) (.ref (y + 5)) ht39 (rd_of RX_y) fX12_23 dX12_ring_185 rfl ?_
            refine r_iload (pc := 188) dX12_ring_188 rfl ?_
            refine t_ialdX (pc := 190) (t0 := 0) ht39 (rd_of RX_from) dX12_ring_190 rfl (by decide) (by omega) (fun b12 => ?_)
            have rb12 := (show Rfx 7260 0 15 fr by assumption) (Int.toNat (60 * x1 + v5_3)) (by omega)
            have hq191_13 := shr_le (Int.toNat v39_5) (Int.toNat (fr (Int.toNat (60 * x1 + v5_3))))
            refine r_ishr (pc := 191) (v := iv ((Int.toNat v39_5 >>> Int.toNat (fr (Int.toNat (60 * x1 + v5_3))) : Nat) : Int)) dX12_ring_191 (shr_e (by omega) (by omega)) ?_
            refine r_iconst (pc := 192) (v := iv 1) dX12_ring_192 (by decide) ?_
            refine r_iand (pc := 193) (v := iv (((Int.toNat v39_5 >>> Int.toNat (fr (Int.toNat (60 * x1 + v5_3))) : Nat) : Int) % 2)) dX12_ring_193 (and1_e _ (by omega)) ?_
            have mb193 := @Me_bit v39_5 (fr (Int.toNat (60 * x1 + v5_3)))
            refine r_iconst (pc := 194) (v := iv 1) dX12_ring_194 (by decide) ?_
            refine t_icmp_ne (pc := 195) (tgt := 211) dX12_ring_195 (by decide) (by omega) (by omega) (fun c195 => ?_) (fun c195 => ?_)
            · have nm195 : ¬ Me v39_5 (Int.toNat (fr (Int.toNat (60 * x1 + v5_3)))) := fun h9 => absurd (Me_bit.mpr h9) (by omega)
              have hls := lsI_no (by assumption : lsI (rgW (Int.toNat (mn (Int.toNat x1))) (dr (Int.toNat x1)) (sh fr (60 * x1)) (sh tt (60 * x1))) 99 v5_3 v5_2) (by omega) (rgs_no (by assumption : rgS (Int.toNat (mn (Int.toNat x1))) (dr (Int.toNat x1)) (sh fr (60 * x1)) (sh tt (60 * x1)) (Int.toNat v5_3) v39_5 v39_7 v39_6) (by omega) hnm (by omega))
              refine r_iinc (pc := 211) (v := iv (v5_3 + 1)) (lv' := [(3, .int (iv (v5_3 + 1))), (0, .ref y), (1, .int (iv x1)), (2, .int (iv v5_2)), (4, .int (iv (60 * x1 + v5_3))), (5, .int (iv v39_5)), (6, .int (iv v39_6)), (7, .int (iv v39_7))]) dX12_ring_211 rfl (iv_add _ _) (by decide) rfl ?_
              refine r_goto (pc := 214) (tgt := 5) dX12_ring_214 (by decide) ?_
              refine Rn.pick (lv' := [(0, .ref y), (1, .int (iv x1)), (2, .int (iv v5_2)), (3, .int (iv (v5_3 + 1)))]) [1, 2, 3, 0] rfl ?_
              exact ih5 (Int.toNat (60 - (v5_3 + 1))) (by omega) _ ht39 v5_2 (v5_3 + 1) ⟨by omega, by omega, by omega, by omega, by omega, by (first | exact hls | exact lsI_0)⟩ (by omega)
            · have pm195 : Me v39_5 (Int.toNat (fr (Int.toNat (60 * x1 + v5_3)))) := Me_bit.mp (by omega)
              have hy : rgW (Int.toNat (mn (Int.toNat x1))) (dr (Int.toNat x1)) (sh fr (60 * x1)) (sh tt (60 * x1)) (Int.toNat v5_3) (Int.toNat v39_6) ∧ ∀ L : Nat, rgW (Int.toNat (mn (Int.toNat x1))) (dr (Int.toNat x1)) (sh fr (60 * x1)) (sh tt (60 * x1)) (Int.toNat v5_3) L → v39_6 ≤ (L : Int) := absurd pm195 nm51
              have hb17 := bcn_le v39_7 16
              refine r_iload (pc := 198) dX12_ring_198 rfl ?_
              refine r_iconst (pc := 200) (v := iv 1) dX12_ring_200 (by decide) ?_
              refine r_iadd (pc := 201) (v := iv (v39_6 + 1)) dX12_ring_201 (iv_add _ _) ?_
              refine r_iload_n (pc := 202) dX12_ring_202 (i := 2) rfl rfl ?_
              refine t_icmp_ge (pc := 203) (tgt := 211) dX12_ring_203 (by decide) (by omega) (by omega) (fun c203 => ?_) (fun c203 => ?_)
              · have hls := lsI_ge (by assumption : lsI (rgW (Int.toNat (mn (Int.toNat x1))) (dr (Int.toNat x1)) (sh fr (60 * x1)) (sh tt (60 * x1))) 99 v5_3 v5_2) (by omega) hy.2 (by omega) (by omega)
                refine r_iinc (pc := 211) (v := iv (v5_3 + 1)) (lv' := [(3, .int (iv (v5_3 + 1))), (0, .ref y), (1, .int (iv x1)), (2, .int (iv v5_2)), (4, .int (iv (60 * x1 + v5_3))), (5, .int (iv v39_5)), (6, .int (iv v39_6)), (7, .int (iv v39_7))]) dX12_ring_211 rfl (iv_add _ _) (by decide) rfl ?_
                refine r_goto (pc := 214) (tgt := 5) dX12_ring_214 (by decide) ?_
                refine Rn.pick (lv' := [(0, .ref y), (1, .int (iv x1)), (2, .int (iv v5_2)), (3, .int (iv (v5_3 + 1)))]) [1, 2, 3, 0] rfl ?_
                exact ih5 (Int.toNat (60 - (v5_3 + 1))) (by omega) _ ht39 v5_2 (v5_3 + 1) ⟨by omega, by omega, by omega, by omega, by omega, by (first | exact hls | exact lsI_0)⟩ (by omega)
              · refine r_iload (pc := 206) dX12_ring_206 rfl ?_
                refine r_iconst (pc := 208) (v := iv 1) dX12_ring_208 (by decide) ?_
                refine r_iadd (pc := 209) (v := iv (v39_6 + 1)) dX12_ring_209 (iv_add _ _) ?_
                refine r_istore_n (pc := 210) (lv' := [(2, .int (iv (v39_6 + 1))), (0, .ref y), (1, .int (iv x1)), (3, .int (iv v5_3)), (4, .int (iv (60 * x1 + v5_3))), (5, .int (iv v39_5)), (6, .int (iv v39_6)), (7, .int (iv v39_7))]) dX12_ring_210 (i := 2) rfl (by decide) rfl ?_
                have hls := lsI_lt (by assumption : lsI (rgW (Int.toNat (mn (Int.toNat x1))) (dr (Int.toNat x1)) (sh fr (60 * x1)) (sh tt (60 * x1))) 99 v5_3 v5_2) (by omega) (by omega) hy.1 hy.2 (by omega) (by omega)
                refine r_iinc (pc := 211) (v := iv (v5_3 + 1)) (lv' := [(3, .int (iv (v5_3 + 1))), (2, .int (iv (v39_6 + 1))), (0, .ref y), (1, .int (iv x1)), (4, .int (iv (60 * x1 + v5_3))), (5, .int (iv v39_5)), (6, .int (iv v39_6)), (7, .int (iv v39_7))]) dX12_ring_211 rfl (iv_add _ _) (by decide) rfl ?_
                refine r_goto (pc := 214) (tgt := 5) dX12_ring_214 (by decide) ?_
                refine Rn.pick (lv' := [(0, .ref y), (1, .int (iv x1)), (2, .int (iv (v39_6 + 1))), (3, .int (iv (v5_3 + 1)))]) [2, 3, 1, 0] rfl ?_
                exact ih5 (Int.toNat (60 - (v5_3 + 1))) (by omega) _ ht39 (v39_6 + 1) (v5_3 + 1) ⟨by omega, by omega, by omega, by omega, by omega, by (first | exact hls | exact lsI_0)⟩ (by omega)
          · have hbc := rgs_bc (by assumption : rgS (Int.toNat (mn (Int.toNat x1))) (dr (Int.toNat x1)) (sh fr (60 * x1)) (sh tt (60 * x1)) (Int.toNat v5_3) v39_5 v39_7 v39_6) (by omega) (by omega) (by omega)
            have hb16 := bcn_le v39_5 16
            refine r_iload (pc := 61) dX12_ring_61 rfl ?_
            refine r_istore (pc := 63) (lv' := [(7, .int (iv v39_5)), (0, .ref y), (1, .int (iv x1)), (2, .int (iv v5_2)), (3, .int (iv v5_3)), (4, .int (iv (60 * x1 + v5_3))), (5, .int (iv v39_5)), (6, .int (iv v39_6))]) dX12_ring_63 (by decide) rfl ?_
            refine r_iinc (pc := 65) (v := iv (v39_6 + 1)) (lv' := [(6, .int (iv (v39_6 + 1))), (7, .int (iv v39_5)), (0, .ref y), (1, .int (iv x1)), (2, .int (iv v5_2)), (3, .int (iv v5_3)), (4, .int (iv (60 * x1 + v5_3))), (5, .int (iv v39_5))]) dX12_ring_65 rfl (iv_add _ _) (by decide) rfl ?_
            refine r_iconst (pc := 68) (v := iv 0) dX12_ring_68 (by decide) ?_
            refine r_istore (pc := 69) (lv' := [(8, .int (iv 0)), (6, .int (iv (v39_6 + 1))), (7, .int (iv v39_5)), (0, .ref y), (1, .int (iv x1)), (2, .int (iv v5_2)), (3, .int (iv v5_3)), (4, .int (iv (60 * x1 + v5_3))), (5, .int (iv v39_5))]) dX12_ring_69 (by decide) rfl ?_
            have B71 : ∀ k : Nat, ∀ hp71 : MH, Tw (RX Γ cI cJ cZ y rf cn nm so sz dr mn fr tt wt co nu sa wo ln hw ro qi qc nf nt nw nc cl nx ie be sd bl bs wy ra rb lb bg os js ls sp jw go de yb ah im) hp71 → ∀  (v71_5 : Int) (v71_8 : Int), 1 ≤ v71_5 ∧ v71_5 ≤ 65535 ∧ v39_5 ≤ v71_5 ∧ 0 ≤ v71_8 ∧ v71_8 ≤ 60 ∧ (v71_8 ≤ (mn (Int.toNat x1))) ∧ (v39_5 ≤ v71_5) ∧ (rgE (dr (Int.toNat x1)) (sh fr (60 * x1)) (sh tt (60 * x1)) (Int.toNat v5_3) v39_5 v71_5 v71_8) → 60 - v71_8 ≤ (k : Int) → Rn (gG D cI cJ cZ cT lo b L xs) mX12_ring d 71 [(0, .ref y), (1, .int (iv x1)), (2, .int (iv v5_2)), (3, .int (iv v5_3)), (4, .int (iv (60 * x1 + v5_3))), (5, .int (iv v71_5)), (6, .int (iv (v39_6 + 1))), (7, .int (iv v39_5)), (8, .int (iv v71_8))] [] hp71 n 0 0 Po9 := by
              refine lpS _ ?_
              intro k71 ih71 hp71 ht71 v71_5 v71_8 hf71 hm71
              obtain ⟨hf71_0, hf71_1, hf71_2, hf71_3, hf71_4, hf71_5, hf71_6, ha71_7⟩ := hf71
              refine r_iload (pc := 71) dX12_ring_71 rfl ?_
              refine r_aload_n (pc := 73) dX12_ring_73 (i := 0) rfl rfl ?_
              refine t_getE (pc := 74) (.ref (y + 4)) ht71 (rd_of RX_y) fX12_20 dX12_ring_74 rfl ?_
              refine r_iload_n (pc := 77) dX12_ring_77 (i := 1) rfl rfl ?_
              refine t_ialdX (pc := 78) (t0 := 0) ht71 (rd_of RX_many) dX12_ring_78 rfl (by decide) (by omega) (fun b14 => ?_)
              have rb14 := (show Rfx 121 0 60 mn by assumption) (Int.toNat x1) (by omega)
              refine t_icmp_ge (pc := 79) (tgt := 179) dX12_ring_79 (by decide) (by omega) (by omega) (fun c79 => ?_) (fun c79 => ?_)
              · refine r_goto (pc := 179) (tgt := 39) dX12_ring_179 (by decide) ?_
                refine Rn.pick (lv' := [(0, .ref y), (1, .int (iv x1)), (2, .int (iv v5_2)), (3, .int (iv v5_3)), (4, .int (iv (60 * x1 + v5_3))), (5, .int (iv v71_5)), (6, .int (iv (v39_6 + 1))), (7, .int (iv v39_5))]) [0, 1, 2, 3, 4, 5, 6, 7] rfl ?_
                exact ih39 (Int.toNat (65536 - v39_5)) (by omega) _ ht71 v71_5 (v39_6 + 1) v39_5 ⟨by omega, by omega, by omega, by omega, by omega, by omega, by omega, by omega, by omega, by (first | exact rgs_0 hz0 | exact rgs_up hF0 (by assumption : rgS (Int.toNat (mn (Int.toNat x1))) (dr (Int.toNat x1)) (sh fr (60 * x1)) (sh tt (60 * x1)) (Int.toNat v5_3) v39_5 v39_7 v39_6) (by omega) hnm (by assumption : rgE (dr (Int.toNat x1)) (sh fr (60 * x1)) (sh tt (60 * x1)) (Int.toNat v5_3) v39_5 v71_5 v71_8) (by omega))⟩ (by omega)
              · refine r_iload_n (pc := 82) dX12_ring_82 (i := 1) rfl rfl ?_
                refine r_iload (pc := 83) dX12_ring_83 rfl ?_
                refine t_callSI (pc := 85) (as := [.int (iv x1), .int (iv v71_8)]) (st := []) kX12_157 dX12_ring_85 (t_X12_at1x (d := d - 1) (x1 := x1) (x2 := v71_8) (by omega)  ht71 (by omega) (by omega)) rfl (by omega) (Nat.le_of_ble_eq_true rfl) rfl (fun hp15 y17 ht16 by17 => ?_)
                have ey17 : y17 = 60 * x1 + v71_8 := by17
                subst ey17
                refine r_istore (pc := 88) (lv' := [(9, .int (iv (60 * x1 + v71_8))), (0, .ref y), (1, .int (iv x1)), (2, .int (iv v5_2)), (3, .int (iv v5_3)), (4, .int (iv (60 * x1 + v5_3))), (5, .int (iv v71_5)), (6, .int (iv (v39_6 + 1))), (7, .int (iv v39_5)), (8, .int (iv v71_8))]) dX12_ring_88 (by decide) rfl ?_
                have eF8 := sh_at fr (60 * x1) (v := v71_8) (by omega)
                have eT8 := sh_at tt (60 * x1) (v := v71_8) (by omega)
                refine r_iload (pc := 90) dX12_ring_90 rfl ?_
                refine r_iload_n (pc := 92) dX12_ring_92 (i := 3) rfl rfl ?_
                refine t_icmp_eq (pc := 93) (tgt := 173) dX12_ring_93 (by decide) (by omega) (by omega) (fun c93 => ?_) (fun c93 => ?_)
                · have hre := rge_sk (by assumption : rgE (dr (Int.toNat x1)) (sh fr (60 * x1)) (sh tt (60 * x1)) (Int.toNat v5_3) v39_5 v71_5 v71_8) (by omega) (by omega)
                  refine r_iinc (pc := 173) (v := iv (v71_8 + 1)) (lv' := [(8, .int (iv (v71_8 + 1))), (9, .int (iv (60 * x1 + v71_8))), (0, .ref y), (1, .int (iv x1)), (2, .int (iv v5_2)), (3, .int (iv v5_3)), (4, .int (iv (60 * x1 + v5_3))), (5, .int (iv v71_5)), (6, .int (iv (v39_6 + 1))), (7, .int (iv v39_5))]) dX12_ring_173 rfl (iv_add _ _) (by decide) rfl ?_
                  refine r_goto (pc := 176) (tgt := 71) dX12_ring_176 (by decide) ?_
                  refine Rn.pick (lv' := [(0, .ref y), (1, .int (iv x1)), (2, .int (iv v5_2)), (3, .int (iv v5_3)), (4, .int (iv (60 * x1 + v5_3))), (5, .int (iv v71_5)), (6, .int (iv (v39_6 + 1))), (7, .int (iv v39_5)), (8, .int (iv (v71_8 + 1)))]) [2, 3, 4, 5, 6, 7, 8, 9, 0] rfl ?_
                  exact ih71 (Int.toNat (60 - (v71_8 + 1))) (by omega) _ ht16 v71_5 (v71_8 + 1) ⟨by omega, by omega, by omega, by omega, by omega, by omega, by omega, by (first | exact hre | exact rge_0)⟩ (by omega)
                · refine r_iload (pc := 96) dX12_ring_96 rfl ?_
                  refine r_iload (pc := 98) dX12_ring_98 rfl ?_
                  refine r_aload_n (pc := 100) dX12_ring_100 (i := 0) rfl rfl ?_
                  refine t_getE (pc := 101) (.ref (y + 5)) ht16 (rd_of RX_y) fX12_23 dX12_ring_101 rfl ?_
                  refine r_iload (pc := 104) dX12_ring_104 rfl ?_
                  refine t_ialdX (pc := 106) (t0 := 0) ht16 (rd_of RX_from) dX12_ring_106 rfl (by decide) (by omega) (fun b18 => ?_)
                  have rb18 := (show Rfx 7260 0 15 fr by assumption) (Int.toNat (60 * x1 + v71_8)) (by omega)
                  have hq107_19 := shr_le (Int.toNat v39_5) (Int.toNat (fr (Int.toNat (60 * x1 + v71_8))))
                  refine r_ishr (pc := 107) (v := iv ((Int.toNat v39_5 >>> Int.toNat (fr (Int.toNat (60 * x1 + v71_8))) : Nat) : Int)) dX12_ring_107 (shr_e (by omega) (by omega)) ?_
                  refine r_iconst (pc := 108) (v := iv 1) dX12_ring_108 (by decide) ?_
                  refine r_iand (pc := 109) (v := iv (((Int.toNat v39_5 >>> Int.toNat (fr (Int.toNat (60 * x1 + v71_8))) : Nat) : Int) % 2)) dX12_ring_109 (and1_e _ (by omega)) ?_
                  have mb109 := @Me_bit v39_5 (fr (Int.toNat (60 * x1 + v71_8)))
                  refine r_iconst (pc := 110) (v := iv 1) dX12_ring_110 (by decide) ?_
                  refine t_icmp_ne (pc := 111) (tgt := 126) dX12_ring_111 (by decide) (by omega) (by omega) (fun c111 => ?_) (fun c111 => ?_)
                  · have nm111 : ¬ Me v39_5 (Int.toNat (fr (Int.toNat (60 * x1 + v71_8)))) := fun h9 => absurd (Me_bit.mpr h9) (by omega)
                    have h111 : ¬ Me v39_5 (Int.toNat ((sh fr (60 * x1)) (Int.toNat v71_8))) := by rw [← eF8]; exact nm111
                    refine r_iconst (pc := 126) (v := iv 0) dX12_ring_126 (by decide) ?_
                    obtain ⟨z20, hz20, bz20⟩ := or_2 16 v71_5 0 (by omega) (by omega) (by decide)
                    refine r_ior (pc := 127) (v := iv z20) dX12_ring_127 hz20 ?_
                    have mez20 := Me_or hz20 (by omega) (by omega) (by omega)
                    have h1 : ∀ j, Me z20 j ↔ Me v71_5 j ∨ (Me v39_5 (Int.toNat ((sh fr (60 * x1)) (Int.toNat v71_8))) ∧ j = (Int.toNat ((sh tt (60 * x1)) (Int.toNat v71_8)))) := fun j => by
                      rw [mez20 j]
                      exact ⟨fun g => g.elim Or.inl (fun g => absurd g (Me_0 j)), fun g => g.elim Or.inl (fun g => absurd g.1 h111)⟩
                    refine r_istore (pc := 128) (lv' := [(5, .int (iv z20)), (9, .int (iv (60 * x1 + v71_8))), (0, .ref y), (1, .int (iv x1)), (2, .int (iv v5_2)), (3, .int (iv v5_3)), (4, .int (iv (60 * x1 + v5_3))), (6, .int (iv (v39_6 + 1))), (7, .int (iv v39_5)), (8, .int (iv v71_8))]) dX12_ring_128 (by decide) rfl ?_
                    refine r_iload (pc := 130) dX12_ring_130 rfl ?_
                    refine r_aload_n (pc := 132) dX12_ring_132 (i := 0) rfl rfl ?_
                    refine t_getE (pc := 133) (.ref (y + 3)) ht16 (rd_of RX_y) fX12_16 dX12_ring_133 rfl ?_
                    refine r_iload_n (pc := 136) dX12_ring_136 (i := 1) rfl rfl ?_
                    refine t_zaldX (pc := 137) (t0 := 2) ht16 (rd_of RX_directs) dX12_ring_137 rfl (by decide) (by omega) (fun b21 => ?_)
                    have rb21 := (show Rfx 121 0 1 dr by assumption) (Int.toNat x1) (by omega)
                    refine t_if_ne (pc := 138) (tgt := 169) dX12_ring_138 (by decide) (by omega) (fun c138 => ?_) (fun c138 => ?_)
                    · refine r_iconst (pc := 169) (v := iv 0) dX12_ring_169 (by decide) ?_
                      obtain ⟨z22, hz22, bz22⟩ := or_2 16 z20 0 (by omega) (by omega) (by decide)
                      refine r_ior (pc := 170) (v := iv z22) dX12_ring_170 hz22 ?_
                      have mez22 := Me_or hz22 (by omega) (by omega) (by omega)
                      have h2 : ∀ j, Me z22 j ↔ Me z20 j ∨ ((dr (Int.toNat x1)) = 0 ∧ Me v39_5 (Int.toNat ((sh tt (60 * x1)) (Int.toNat v71_8))) ∧ j = (Int.toNat ((sh fr (60 * x1)) (Int.toNat v71_8)))) := fun j => by
                        rw [mez22 j]
                        exact ⟨fun g => g.elim Or.inl (fun g => absurd g (Me_0 j)), fun g => g.elim Or.inl (fun g => absurd g.1 (by omega))⟩
                      have hre := rge_up (by assumption : rgE (dr (Int.toNat x1)) (sh fr (60 * x1)) (sh tt (60 * x1)) (Int.toNat v5_3) v39_5 v71_5 v71_8) (by omega) (by omega) h1 h2
                      refine r_istore (pc := 171) (lv' := [(5, .int (iv z22)), (9, .int (iv (60 * x1 + v71_8))), (0, .ref y), (1, .int (iv x1)), (2, .int (iv v5_2)), (3, .int (iv v5_3)), (4, .int (iv (60 * x1 + v5_3))), (6, .int (iv (v39_6 + 1))), (7, .int (iv v39_5)), (8, .int (iv v71_8))]) dX12_ring_171 (by decide) rfl ?_
                      refine r_iinc (pc := 173) (v := iv (v71_8 + 1)) (lv' := [(8, .int (iv (v71_8 + 1))), (5, .int (iv z22)), (9, .int (iv (60 * x1 + v71_8))), (0, .ref y), (1, .int (iv x1)), (2, .int (iv v5_2)), (3, .int (iv v5_3)), (4, .int (iv (60 * x1 + v5_3))), (6, .int (iv (v39_6 + 1))), (7, .int (iv v39_5))]) dX12_ring_173 rfl (iv_add _ _) (by decide) rfl ?_
                      refine r_goto (pc := 176) (tgt := 71) dX12_ring_176 (by decide) ?_
                      refine Rn.pick (lv' := [(0, .ref y), (1, .int (iv x1)), (2, .int (iv v5_2)), (3, .int (iv v5_3)), (4, .int (iv (60 * x1 + v5_3))), (5, .int (iv z22)), (6, .int (iv (v39_6 + 1))), (7, .int (iv v39_5)), (8, .int (iv (v71_8 + 1)))]) [3, 4, 5, 6, 7, 1, 8, 9, 0] rfl ?_
                      exact ih71 (Int.toNat (60 - (v71_8 + 1))) (by omega) _ ht16 z22 (v71_8 + 1) ⟨by omega, by omega, by omega, by omega, by omega, by omega, by omega, by (first | exact hre | exact rge_0)⟩ (by omega)
                    · refine r_iload (pc := 141) dX12_ring_141 rfl ?_
                      refine r_aload_n (pc := 143) dX12_ring_143 (i := 0) rfl rfl ?_
                      refine t_getE (pc := 144) (.ref (y + 6)) ht16 (rd_of RX_y) fX12_26 dX12_ring_144 rfl ?_
                      refine r_iload (pc := 147) dX12_ring_147 rfl ?_
                      refine t_ialdX (pc := 149) (t0 := 0) ht16 (rd_of RX_to) dX12_ring_149 rfl (by decide) (by omega) (fun b23 => ?_)
                      have rb23 := (show Rfx 7260 0 15 tt by assumption) (Int.toNat (60 * x1 + v71_8)) (by omega)
                      have hq150_24 := shr_le (Int.toNat v39_5) (Int.toNat (tt (Int.toNat (60 * x1 + v71_8))))
                      refine r_ishr (pc := 150) (v := iv ((Int.toNat v39_5 >>> Int.toNat (tt (Int.toNat (60 * x1 + v71_8))) : Nat) : Int)) dX12_ring_150 (shr_e (by omega) (by omega)) ?_
                      refine r_iconst (pc := 151) (v := iv 1) dX12_ring_151 (by decide) ?_
                      refine r_iand (pc := 152) (v := iv (((Int.toNat v39_5 >>> Int.toNat (tt (Int.toNat (60 * x1 + v71_8))) : Nat) : Int) % 2)) dX12_ring_152 (and1_e _ (by omega)) ?_
                      have mb152 := @Me_bit v39_5 (tt (Int.toNat (60 * x1 + v71_8)))
                      refine r_iconst (pc := 153) (v := iv 1) dX12_ring_153 (by decide) ?_
                      refine t_icmp_ne (pc := 154) (tgt := 169) dX12_ring_154 (by decide) (by omega) (by omega) (fun c154 => ?_) (fun c154 => ?_)
                      · have nm154 : ¬ Me v39_5 (Int.toNat (tt (Int.toNat (60 * x1 + v71_8)))) := fun h9 => absurd (Me_bit.mpr h9) (by omega)
                        have h154 : ¬ Me v39_5 (Int.toNat ((sh tt (60 * x1)) (Int.toNat v71_8))) := by rw [← eT8]; exact nm154
                        refine r_iconst (pc := 169) (v := iv 0) dX12_ring_169 (by decide) ?_
                        obtain ⟨z25, hz25, bz25⟩ := or_2 16 z20 0 (by omega) (by omega) (by decide)
                        refine r_ior (pc := 170) (v := iv z25) dX12_ring_170 hz25 ?_
                        have mez25 := Me_or hz25 (by omega) (by omega) (by omega)
                        have h2 : ∀ j, Me z25 j ↔ Me z20 j ∨ ((dr (Int.toNat x1)) = 0 ∧ Me v39_5 (Int.toNat ((sh tt (60 * x1)) (Int.toNat v71_8))) ∧ j = (Int.toNat ((sh fr (60 * x1)) (Int.toNat v71_8)))) := fun j => by
                          rw [mez25 j]
                          exact ⟨fun g => g.elim Or.inl (fun g => absurd g (Me_0 j)), fun g => g.elim Or.inl (fun g => absurd g.2.1 h154)⟩
                        have hre := rge_up (by assumption : rgE (dr (Int.toNat x1)) (sh fr (60 * x1)) (sh tt (60 * x1)) (Int.toNat v5_3) v39_5 v71_5 v71_8) (by omega) (by omega) h1 h2
                        refine r_istore (pc := 171) (lv' := [(5, .int (iv z25)), (9, .int (iv (60 * x1 + v71_8))), (0, .ref y), (1, .int (iv x1)), (2, .int (iv v5_2)), (3, .int (iv v5_3)), (4, .int (iv (60 * x1 + v5_3))), (6, .int (iv (v39_6 + 1))), (7, .int (iv v39_5)), (8, .int (iv v71_8))]) dX12_ring_171 (by decide) rfl ?_
                        refine r_iinc (pc := 173) (v := iv (v71_8 + 1)) (lv' := [(8, .int (iv (v71_8 + 1))), (5, .int (iv z25)), (9, .int (iv (60 * x1 + v71_8))), (0, .ref y), (1, .int (iv x1)), (2, .int (iv v5_2)), (3, .int (iv v5_3)), (4, .int (iv (60 * x1 + v5_3))), (6, .int (iv (v39_6 + 1))), (7, .int (iv v39_5))]) dX12_ring_173 rfl (iv_add _ _) (by decide) rfl ?_
                        refine r_goto (pc := 176) (tgt := 71) dX12_ring_176 (by decide) ?_
                        refine Rn.pick (lv' := [(0, .ref y), (1, .int (iv x1)), (2, .int (iv v5_2)), (3, .int (iv v5_3)), (4, .int (iv (60 * x1 + v5_3))), (5, .int (iv z25)), (6, .int (iv (v39_6 + 1))), (7, .int (iv v39_5)), (8, .int (iv (v71_8 + 1)))]) [3, 4, 5, 6, 7, 1, 8, 9, 0] rfl ?_
                        exact ih71 (Int.toNat (60 - (v71_8 + 1))) (by omega) _ ht16 z25 (v71_8 + 1) ⟨by omega, by omega, by omega, by omega, by omega, by omega, by omega, by (first | exact hre | exact rge_0)⟩ (by omega)
                      · have pm154 : Me v39_5 (Int.toNat (tt (Int.toNat (60 * x1 + v71_8)))) := Me_bit.mp (by omega)
                        have h154 : Me v39_5 (Int.toNat ((sh tt (60 * x1)) (Int.toNat v71_8))) := by rw [← eT8]; exact pm154
                        refine r_iconst (pc := 157) (v := iv 1) dX12_ring_157 (by decide) ?_
                        refine r_aload_n (pc := 158) dX12_ring_158 (i := 0) rfl rfl ?_
                        refine t_getE (pc := 159) (.ref (y + 5)) ht16 (rd_of RX_y) fX12_23 dX12_ring_159 rfl ?_
                        refine r_iload (pc := 162) dX12_ring_162 rfl ?_
                        refine t_ialdX (pc := 164) (t0 := 0) ht16 (rd_of RX_from) dX12_ring_164 rfl (by decide) (by omega) (fun b26 => ?_)
                        have rb26 := (show Rfx 7260 0 15 fr by assumption) (Int.toNat (60 * x1 + v71_8)) (by omega)
                        refine r_ishl (pc := 165) (v := iv ((2 ^ Int.toNat (fr (Int.toNat (60 * x1 + v71_8))) : Nat) : Int)) dX12_ring_165 (shl_e (by omega)) ?_
                        have mp165_27 : 1 ≤ 2 ^ Int.toNat (fr (Int.toNat (60 * x1 + v71_8))) := Nat.one_le_two_pow
                        have mq165_28 : 2 ^ Int.toNat (fr (Int.toNat (60 * x1 + v71_8))) ≤ 2 ^ 15 := Nat.pow_le_pow_right (by omega) (by omega)
                        have ms165 := Me_shl (Int.toNat (fr (Int.toNat (60 * x1 + v71_8))))
                        refine r_goto (pc := 166) (tgt := 170) dX12_ring_166 (by decide) ?_
                        obtain ⟨z29, hz29, bz29⟩ := or_2 16 z20 ((2 ^ Int.toNat (fr (Int.toNat (60 * x1 + v71_8))) : Nat) : Int) (by omega) (by omega) (by decide)
                        refine r_ior (pc := 170) (v := iv z29) dX12_ring_170 hz29 ?_
                        have mez29 := Me_or hz29 (by omega) (by omega) (by omega)
                        have h2 : ∀ j, Me z29 j ↔ Me z20 j ∨ ((dr (Int.toNat x1)) = 0 ∧ Me v39_5 (Int.toNat ((sh tt (60 * x1)) (Int.toNat v71_8))) ∧ j = (Int.toNat ((sh fr (60 * x1)) (Int.toNat v71_8)))) := fun j => by
                          rw [mez29 j, ms165 j, eF8]
                          exact ⟨fun g => g.elim Or.inl (fun g => Or.inr ⟨by omega, h154, g⟩), fun g => g.elim Or.inl (fun g => Or.inr g.2.2)⟩
                        have hre := rge_up (by assumption : rgE (dr (Int.toNat x1)) (sh fr (60 * x1)) (sh tt (60 * x1)) (Int.toNat v5_3) v39_5 v71_5 v71_8) (by omega) (by omega) h1 h2
                        refine r_istore (pc := 171) (lv' := [(5, .int (iv z29)), (9, .int (iv (60 * x1 + v71_8))), (0, .ref y), (1, .int (iv x1)), (2, .int (iv v5_2)), (3, .int (iv v5_3)), (4, .int (iv (60 * x1 + v5_3))), (6, .int (iv (v39_6 + 1))), (7, .int (iv v39_5)), (8, .int (iv v71_8))]) dX12_ring_171 (by decide) rfl ?_
                        refine r_iinc (pc := 173) (v := iv (v71_8 + 1)) (lv' := [(8, .int (iv (v71_8 + 1))), (5, .int (iv z29)), (9, .int (iv (60 * x1 + v71_8))), (0, .ref y), (1, .int (iv x1)), (2, .int (iv v5_2)), (3, .int (iv v5_3)), (4, .int (iv (60 * x1 + v5_3))), (6, .int (iv (v39_6 + 1))), (7, .int (iv v39_5))]) dX12_ring_173 rfl (iv_add _ _) (by decide) rfl ?_
                        refine r_goto (pc := 176) (tgt := 71) dX12_ring_176 (by decide) ?_
                        refine Rn.pick (lv' := [(0, .ref y), (1, .int (iv x1)), (2, .int (iv v5_2)), (3, .int (iv v5_3)), (4, .int (iv (60 * x1 + v5_3))), (5, .int (iv z29)), (6, .int (iv (v39_6 + 1))), (7, .int (iv v39_5)), (8, .int (iv (v71_8 + 1)))]) [3, 4, 5, 6, 7, 1, 8, 9, 0] rfl ?_
                        exact ih71 (Int.toNat (60 - (v71_8 + 1))) (by omega) _ ht16 z29 (v71_8 + 1) ⟨by omega, by omega, by omega, by omega, by omega, by omega, by omega, by (first | exact hre | exact rge_0)⟩ (by omega)
                  · have pm111 : Me v39_5 (Int.toNat (fr (Int.toNat (60 * x1 + v71_8)))) := Me_bit.mp (by omega)
                    have h111 : Me v39_5 (Int.toNat ((sh fr (60 * x1)) (Int.toNat v71_8))) := by rw [← eF8]; exact pm111
                    refine r_iconst (pc := 114) (v := iv 1) dX12_ring_114 (by decide) ?_
                    refine r_aload_n (pc := 115) dX12_ring_115 (i := 0) rfl rfl ?_
                    refine t_getE (pc := 116) (.ref (y + 6)) ht16 (rd_of RX_y) fX12_26 dX12_ring_116 rfl ?_
                    refine r_iload (pc := 119) dX12_ring_119 rfl ?_
                    refine t_ialdX (pc := 121) (t0 := 0) ht16 (rd_of RX_to) dX12_ring_121 rfl (by decide) (by omega) (fun b30 => ?_)
                    have rb30 := (show Rfx 7260 0 15 tt by assumption) (Int.toNat (60 * x1 + v71_8)) (by omega)
                    refine r_ishl (pc := 122) (v := iv ((2 ^ Int.toNat (tt (Int.toNat (60 * x1 + v71_8))) : Nat) : Int)) dX12_ring_122 (shl_e (by omega)) ?_
                    have mp122_31 : 1 ≤ 2 ^ Int.toNat (tt (Int.toNat (60 * x1 + v71_8))) := Nat.one_le_two_pow
                    have mq122_32 : 2 ^ Int.toNat (tt (Int.toNat (60 * x1 + v71_8))) ≤ 2 ^ 15 := Nat.pow_le_pow_right (by omega) (by omega)
                    have ms122 := Me_shl (Int.toNat (tt (Int.toNat (60 * x1 + v71_8))))
                    refine r_goto (pc := 123) (tgt := 127) dX12_ring_123 (by decide) ?_
                    obtain ⟨z33, hz33, bz33⟩ := or_2 16 v71_5 ((2 ^ Int.toNat (tt (Int.toNat (60 * x1 + v71_8))) : Nat) : Int) (by omega) (by omega) (by decide)
                    refine r_ior (pc := 127) (v := iv z33) dX12_ring_127 hz33 ?_
                    have mez33 := Me_or hz33 (by omega) (by omega) (by omega)
                    have h1 : ∀ j, Me z33 j ↔ Me v71_5 j ∨ (Me v39_5 (Int.toNat ((sh fr (60 * x1)) (Int.toNat v71_8))) ∧ j = (Int.toNat ((sh tt (60 * x1)) (Int.toNat v71_8)))) := fun j => by
                      rw [mez33 j, ms122 j, eT8]
                      exact ⟨fun g => g.elim Or.inl (fun g => Or.inr ⟨h111, g⟩), fun g => g.elim Or.inl (fun g => Or.inr g.2)⟩
                    refine r_istore (pc := 128) (lv' := [(5, .int (iv z33)), (9, .int (iv (60 * x1 + v71_8))), (0, .ref y), (1, .int (iv x1)), (2, .int (iv v5_2)), (3, .int (iv v5_3)), (4, .int (iv (60 * x1 + v5_3))), (6, .int (iv (v39_6 + 1))), (7, .int (iv v39_5)), (8, .int (iv v71_8))]) dX12_ring_128 (by decide) rfl ?_
                    refine r_iload (pc := 130) dX12_ring_130 rfl ?_
                    refine r_aload_n (pc := 132) dX12_ring_132 (i := 0) rfl rfl ?_
                    refine t_getE (pc := 133) (.ref (y + 3)) ht16 (rd_of RX_y) fX12_16 dX12_ring_133 rfl ?_
                    refine r_iload_n (pc := 136) dX12_ring_136 (i := 1) rfl rfl ?_
                    refine t_zaldX (pc := 137) (t0 := 2) ht16 (rd_of RX_directs) dX12_ring_137 rfl (by decide) (by omega) (fun b34 => ?_)
                    have rb34 := (show Rfx 121 0 1 dr by assumption) (Int.toNat x1) (by omega)
                    refine t_if_ne (pc := 138) (tgt := 169) dX12_ring_138 (by decide) (by omega) (fun c138 => ?_) (fun c138 => ?_)
                    · refine r_iconst (pc := 169) (v := iv 0) dX12_ring_169 (by decide) ?_
                      obtain ⟨z35, hz35, bz35⟩ := or_2 16 z33 0 (by omega) (by omega) (by decide)
                      refine r_ior (pc := 170) (v := iv z35) dX12_ring_170 hz35 ?_
                      have mez35 := Me_or hz35 (by omega) (by omega) (by omega)
                      have h2 : ∀ j, Me z35 j ↔ Me z33 j ∨ ((dr (Int.toNat x1)) = 0 ∧ Me v39_5 (Int.toNat ((sh tt (60 * x1)) (Int.toNat v71_8))) ∧ j = (Int.toNat ((sh fr (60 * x1)) (Int.toNat v71_8)))) := fun j => by
                        rw [mez35 j]
                        exact ⟨fun g => g.elim Or.inl (fun g => absurd g (Me_0 j)), fun g => g.elim Or.inl (fun g => absurd g.1 (by omega))⟩
                      have hre := rge_up (by assumption : rgE (dr (Int.toNat x1)) (sh fr (60 * x1)) (sh tt (60 * x1)) (Int.toNat v5_3) v39_5 v71_5 v71_8) (by omega) (by omega) h1 h2
                      refine r_istore (pc := 171) (lv' := [(5, .int (iv z35)), (9, .int (iv (60 * x1 + v71_8))), (0, .ref y), (1, .int (iv x1)), (2, .int (iv v5_2)), (3, .int (iv v5_3)), (4, .int (iv (60 * x1 + v5_3))), (6, .int (iv (v39_6 + 1))), (7, .int (iv v39_5)), (8, .int (iv v71_8))]) dX12_ring_171 (by decide) rfl ?_
                      refine r_iinc (pc := 173) (v := iv (v71_8 + 1)) (lv' := [(8, .int (iv (v71_8 + 1))), (5, .int (iv z35)), (9, .int (iv (60 * x1 + v71_8))), (0, .ref y), (1, .int (iv x1)), (2, .int (iv v5_2)), (3, .int (iv v5_3)), (4, .int (iv (60 * x1 + v5_3))), (6, .int (iv (v39_6 + 1))), (7, .int (iv v39_5))]) dX12_ring_173 rfl (iv_add _ _) (by decide) rfl ?_
                      refine r_goto (pc := 176) (tgt := 71) dX12_ring_176 (by decide) ?_
                      refine Rn.pick (lv' := [(0, .ref y), (1, .int (iv x1)), (2, .int (iv v5_2)), (3, .int (iv v5_3)), (4, .int (iv (60 * x1 + v5_3))), (5, .int (iv z35)), (6, .int (iv (v39_6 + 1))), (7, .int (iv v39_5)), (8, .int (iv (v71_8 + 1)))]) [3, 4, 5, 6, 7, 1, 8, 9, 0] rfl ?_
                      exact ih71 (Int.toNat (60 - (v71_8 + 1))) (by omega) _ ht16 z35 (v71_8 + 1) ⟨by omega, by omega, by omega, by omega, by omega, by omega, by omega, by (first | exact hre | exact rge_0)⟩ (by omega)
                    · refine r_iload (pc := 141) dX12_ring_141 rfl ?_
                      refine r_aload_n (pc := 143) dX12_ring_143 (i := 0) rfl rfl ?_
                      refine t_getE (pc := 144) (.ref (y + 6)) ht16 (rd_of RX_y) fX12_26 dX12_ring_144 rfl ?_
                      refine r_iload (pc := 147) dX12_ring_147 rfl ?_
                      refine t_ialdX (pc := 149) (t0 := 0) ht16 (rd_of RX_to) dX12_ring_149 rfl (by decide) (by omega) (fun b36 => ?_)
                      have rb36 := (show Rfx 7260 0 15 tt by assumption) (Int.toNat (60 * x1 + v71_8)) (by omega)
                      have hq150_37 := shr_le (Int.toNat v39_5) (Int.toNat (tt (Int.toNat (60 * x1 + v71_8))))
                      refine r_ishr (pc := 150) (v := iv ((Int.toNat v39_5 >>> Int.toNat (tt (Int.toNat (60 * x1 + v71_8))) : Nat) : Int)) dX12_ring_150 (shr_e (by omega) (by omega)) ?_
                      refine r_iconst (pc := 151) (v := iv 1) dX12_ring_151 (by decide) ?_
                      refine r_iand (pc := 152) (v := iv (((Int.toNat v39_5 >>> Int.toNat (tt (Int.toNat (60 * x1 + v71_8))) : Nat) : Int) % 2)) dX12_ring_152 (and1_e _ (by omega)) ?_
                      have mb152 := @Me_bit v39_5 (tt (Int.toNat (60 * x1 + v71_8)))
                      refine r_iconst (pc := 153) (v := iv 1) dX12_ring_153 (by decide) ?_
                      refine t_icmp_ne (pc := 154) (tgt := 169) dX12_ring_154 (by decide) (by omega) (by omega) (fun c154 => ?_) (fun c154 => ?_)
                      · have nm154 : ¬ Me v39_5 (Int.toNat (tt (Int.toNat (60 * x1 + v71_8)))) := fun h9 => absurd (Me_bit.mpr h9) (by omega)
                        have h154 : ¬ Me v39_5 (Int.toNat ((sh tt (60 * x1)) (Int.toNat v71_8))) := by rw [← eT8]; exact nm154
                        refine r_iconst (pc := 169) (v := iv 0) dX12_ring_169 (by decide) ?_
                        obtain ⟨z38, hz38, bz38⟩ := or_2 16 z33 0 (by omega) (by omega) (by decide)
                        refine r_ior (pc := 170) (v := iv z38) dX12_ring_170 hz38 ?_
                        have mez38 := Me_or hz38 (by omega) (by omega) (by omega)
                        have h2 : ∀ j, Me z38 j ↔ Me z33 j ∨ ((dr (Int.toNat x1)) = 0 ∧ Me v39_5 (Int.toNat ((sh tt (60 * x1)) (Int.toNat v71_8))) ∧ j = (Int.toNat ((sh fr (60 * x1)) (Int.toNat v71_8)))) := fun j => by
                          rw [mez38 j]
                          exact ⟨fun g => g.elim Or.inl (fun g => absurd g (Me_0 j)), fun g => g.elim Or.inl (fun g => absurd g.2.1 h154)⟩
                        have hre := rge_up (by assumption : rgE (dr (Int.toNat x1)) (sh fr (60 * x1)) (sh tt (60 * x1)) (Int.toNat v5_3) v39_5 v71_5 v71_8) (by omega) (by omega) h1 h2
                        refine r_istore (pc := 171) (lv' := [(5, .int (iv z38)), (9, .int (iv (60 * x1 + v71_8))), (0, .ref y), (1, .int (iv x1)), (2, .int (iv v5_2)), (3, .int (iv v5_3)), (4, .int (iv (60 * x1 + v5_3))), (6, .int (iv (v39_6 + 1))), (7, .int (iv v39_5)), (8, .int (iv v71_8))]) dX12_ring_171 (by decide) rfl ?_
                        refine r_iinc (pc := 173) (v := iv (v71_8 + 1)) (lv' := [(8, .int (iv (v71_8 + 1))), (5, .int (iv z38)), (9, .int (iv (60 * x1 + v71_8))), (0, .ref y), (1, .int (iv x1)), (2, .int (iv v5_2)), (3, .int (iv v5_3)), (4, .int (iv (60 * x1 + v5_3))), (6, .int (iv (v39_6 + 1))), (7, .int (iv v39_5))]) dX12_ring_173 rfl (iv_add _ _) (by decide) rfl ?_
                        refine r_goto (pc := 176) (tgt := 71) dX12_ring_176 (by decide) ?_
                        refine Rn.pick (lv' := [(0, .ref y), (1, .int (iv x1)), (2, .int (iv v5_2)), (3, .int (iv v5_3)), (4, .int (iv (60 * x1 + v5_3))), (5, .int (iv z38)), (6, .int (iv (v39_6 + 1))), (7, .int (iv v39_5)), (8, .int (iv (v71_8 + 1)))]) [3, 4, 5, 6, 7, 1, 8, 9, 0] rfl ?_
                        exact ih71 (Int.toNat (60 - (v71_8 + 1))) (by omega) _ ht16 z38 (v71_8 + 1) ⟨by omega, by omega, by omega, by omega, by omega, by omega, by omega, by (first | exact hre | exact rge_0)⟩ (by omega)
                      · have pm154 : Me v39_5 (Int.toNat (tt (Int.toNat (60 * x1 + v71_8)))) := Me_bit.mp (by omega)
                        have h154 : Me v39_5 (Int.toNat ((sh tt (60 * x1)) (Int.toNat v71_8))) := by rw [← eT8]; exact pm154
                        refine r_iconst (pc := 157) (v := iv 1) dX12_ring_157 (by decide) ?_
                        refine r_aload_n (pc := 158) dX12_ring_158 (i := 0) rfl rfl ?_
                        refine t_getE (pc := 159) (.ref (y + 5)) ht16 (rd_of RX_y) fX12_23 dX12_ring_159 rfl ?_
                        refine r_iload (pc := 162) dX12_ring_162 rfl ?_
                        refine t_ialdX (pc := 164) (t0 := 0) ht16 (rd_of RX_from) dX12_ring_164 rfl (by decide) (by omega) (fun b39 => ?_)
                        have rb39 := (show Rfx 7260 0 15 fr by assumption) (Int.toNat (60 * x1 + v71_8)) (by omega)
                        refine r_ishl (pc := 165) (v := iv ((2 ^ Int.toNat (fr (Int.toNat (60 * x1 + v71_8))) : Nat) : Int)) dX12_ring_165 (shl_e (by omega)) ?_
                        have mp165_40 : 1 ≤ 2 ^ Int.toNat (fr (Int.toNat (60 * x1 + v71_8))) := Nat.one_le_two_pow
                        have mq165_41 : 2 ^ Int.toNat (fr (Int.toNat (60 * x1 + v71_8))) ≤ 2 ^ 15 := Nat.pow_le_pow_right (by omega) (by omega)
                        have ms165 := Me_shl (Int.toNat (fr (Int.toNat (60 * x1 + v71_8))))
                        refine r_goto (pc := 166) (tgt := 170) dX12_ring_166 (by decide) ?_
                        obtain ⟨z42, hz42, bz42⟩ := or_2 16 z33 ((2 ^ Int.toNat (fr (Int.toNat (60 * x1 + v71_8))) : Nat) : Int) (by omega) (by omega) (by decide)
                        refine r_ior (pc := 170) (v := iv z42) dX12_ring_170 hz42 ?_
                        have mez42 := Me_or hz42 (by omega) (by omega) (by omega)
                        have h2 : ∀ j, Me z42 j ↔ Me z33 j ∨ ((dr (Int.toNat x1)) = 0 ∧ Me v39_5 (Int.toNat ((sh tt (60 * x1)) (Int.toNat v71_8))) ∧ j = (Int.toNat ((sh fr (60 * x1)) (Int.toNat v71_8)))) := fun j => by
                          rw [mez42 j, ms165 j, eF8]
                          exact ⟨fun g => g.elim Or.inl (fun g => Or.inr ⟨by omega, h154, g⟩), fun g => g.elim Or.inl (fun g => Or.inr g.2.2)⟩
                        have hre := rge_up (by assumption : rgE (dr (Int.toNat x1)) (sh fr (60 * x1)) (sh tt (60 * x1)) (Int.toNat v5_3) v39_5 v71_5 v71_8) (by omega) (by omega) h1 h2
                        refine r_istore (pc := 171) (lv' := [(5, .int (iv z42)), (9, .int (iv (60 * x1 + v71_8))), (0, .ref y), (1, .int (iv x1)), (2, .int (iv v5_2)), (3, .int (iv v5_3)), (4, .int (iv (60 * x1 + v5_3))), (6, .int (iv (v39_6 + 1))), (7, .int (iv v39_5)), (8, .int (iv v71_8))]) dX12_ring_171 (by decide) rfl ?_
                        refine r_iinc (pc := 173) (v := iv (v71_8 + 1)) (lv' := [(8, .int (iv (v71_8 + 1))), (5, .int (iv z42)), (9, .int (iv (60 * x1 + v71_8))), (0, .ref y), (1, .int (iv x1)), (2, .int (iv v5_2)), (3, .int (iv v5_3)), (4, .int (iv (60 * x1 + v5_3))), (6, .int (iv (v39_6 + 1))), (7, .int (iv v39_5))]) dX12_ring_173 rfl (iv_add _ _) (by decide) rfl ?_
                        refine r_goto (pc := 176) (tgt := 71) dX12_ring_176 (by decide) ?_
                        refine Rn.pick (lv' := [(0, .ref y), (1, .int (iv x1)), (2, .int (iv v5_2)), (3, .int (iv v5_3)), (4, .int (iv (60 * x1 + v5_3))), (5, .int (iv z42)), (6, .int (iv (v39_6 + 1))), (7, .int (iv v39_5)), (8, .int (iv (v71_8 + 1)))]) [3, 4, 5, 6, 7, 1, 8, 9, 0] rfl ?_
                        exact ih71 (Int.toNat (60 - (v71_8 + 1))) (by omega) _ ht16 z42 (v71_8 + 1) ⟨by omega, by omega, by omega, by omega, by omega, by omega, by omega, by (first | exact hre | exact rge_0)⟩ (by omega)
            refine Rn.pick (lv' := [(0, .ref y), (1, .int (iv x1)), (2, .int (iv v5_2)), (3, .int (iv v5_3)), (4, .int (iv (60 * x1 + v5_3))), (5, .int (iv v39_5)), (6, .int (iv (v39_6 + 1))), (7, .int (iv v39_5)), (8, .int (iv 0))]) [3, 4, 5, 6, 7, 8, 1, 2, 0] rfl ?_
            exact B71 (Int.toNat (60 - 0)) _ ht39 v39_5 0 ⟨by omega, by omega, by omega, by omega, by omega, by omega, by omega, by (first | exact hre | exact rge_0)⟩ (by omega)
      refine Rn.pick (lv' := [(0, .ref y), (1, .int (iv x1)), (2, .int (iv v5_2)), (3, .int (iv v5_3)), (4, .int (iv (60 * x1 + v5_3))), (5, .int (iv ((2 ^ Int.toNat (tt (Int.toNat (60 * x1 + v5_3))) : Nat) : Int))), (6, .int (iv 0)), (7, .int (iv 0))]) [4, 5, 6, 7, 3, 2, 1, 0] rfl ?_
      exact B39 (Int.toNat (65536 - 0)) _ ht3 ((2 ^ Int.toNat (tt (Int.toNat (60 * x1 + v5_3))) : Nat) : Int) 0 0 ⟨by omega, by omega, by omega, by omega, by omega, by omega, by omega, by omega, by omega, by (first | exact rgs_0 hz0 | exact rgs_up hF0 (by assumption : rgS (Int.toNat (mn (Int.toNat x1))) (dr (Int.toNat x1)) (sh fr (60 * x1)) (sh tt (60 * x1)) (Int.toNat v5_3) v39_5 v39_7 v39_6) (by omega) hnm (by assumption : rgE (dr (Int.toNat x1)) (sh fr (60 * x1)) (sh tt (60 * x1)) (Int.toNat v5_3) v39_5 v71_5 v71_8) (by omega))⟩ (by omega)
  refine Rn.pick (lv' := [(0, .ref y), (1, .int (iv x1)), (2, .int (iv 99)), (3, .int (iv 0))]) [2, 3, 1, 0] rfl ?_
  exact B5 (Int.toNat (60 - 0)) _ ht 99 0 ⟨by omega, by omega, by omega, by omega, by omega, by (first | exact hls | exact lsI_0)⟩ (by omega)
