def mpQ (lb qi : Nat → Int) (h v p u : Int) : Prop := (p < 0 → ∀ w : Nat, (w : Int) < u → lb w ≠ lb v.toNat) ∧ (0 ≤ p → ∃ c : Nat, (c : Int) < u ∧ lb c = lb v.toNat ∧ (∀ w, w < c → lb w ≠ lb v.toNat) ∧ p = sh qi (16 * h) c)
theorem mp_0 {lb qi : Nat → Int} {h v : Int} : mpQ lb qi h v (-1) 0 := ⟨fun _ w hw => by omega, fun h9 => by omega⟩
theorem mp_y {lb qi : Nat → Int} {h v p u : Int} (hq : mpQ lb qi h v p u) (hp : p < 0) (hu : 0 ≤ u) (he : lb u.toNat = lb v.toNat) (hr : 0 ≤ qi (16 * h + u).toNat) : mpQ lb qi h v (qi (16 * h + u).toNat) (u + 1) :=
  ⟨fun h9 => by omega, fun _ => ⟨u.toNat, by omega, he, fun w hw => hq.1 hp w (by omega), sh_at qi (16 * h) hu⟩⟩
theorem mp_n {lb qi : Nat → Int} {h v p u : Int} (hq : mpQ lb qi h v p u) (hp : p < 0) (hu : 0 ≤ u) (he : lb u.toNat ≠ lb v.toNat) : mpQ lb qi h v (-1) (u + 1) :=
  ⟨fun _ w hw => by
    by_cases e : w = u.toNat
    · subst e; exact he
    · exact hq.1 hp w (by omega), fun h9 => by omega⟩
theorem nu2_0 {E : Nat → Nat → Prop} {f : Nat → Int} : nuP2 E f 0 := fun v hv => absurd hv (Nat.not_lt_zero v)
theorem nu2_up {lb qi : Nat → Int} {h v p u c x c1 : Int} (hn : nuP2 (fun a b => lb a = lb b) (sh qi (16 * h)) v.toNat) (hc : c = (cnP (fsP (fun a b => lb a = lb b)) v.toNat : Int)) (hq : mpQ lb qi h v p u) (hu : 0 ≤ p ∨ v ≤ u) (hu2 : u ≤ v) (h0 : 0 ≤ v) (hh : 0 ≤ h) (hx : (p < 0 → x = c) ∧ (0 ≤ p → x = p)) (hc1 : (p < 0 → c1 = c + 1) ∧ (0 ≤ p → c1 = c)) : nuP2 (fun a b => lb a = lb b) (sh (fup qi (Int.toNat (16 * h + v)) x) (16 * h)) (v + 1).toNat ∧ c1 = (cnP (fsP (fun a b => lb a = lb b)) (v + 1).toNat : Int) := by
  have old : ∀ w : Nat, (w : Int) < v → sh (fup qi (Int.toNat (16 * h + v)) x) (16 * h) w = sh qi (16 * h) w := fun w hw => by
    show fup qi _ x _ = _
    rw [fup_o _ _ (by omega)]; rfl
  have new : sh (fup qi (Int.toNat (16 * h + v)) x) (16 * h) v.toNat = x := by
    show fup qi _ x (16 * h + ((v.toNat : Nat) : Int)).toNat = x
    rw [Int.toNat_of_nonneg h0, fup_s]
  rw [tn1 h0]
  constructor
  · intro w hw
    by_cases e : w = v.toNat
    · subst e
      by_cases hp : p < 0
      · right
        refine ⟨fun z hz h9 => hq.1 hp z (by omega) h9, ?_⟩
        rw [new, hx.1 hp, hc]
      · left
        obtain ⟨k, k1, k2, k3, k4⟩ := hq.2 (by omega)
        refine ⟨k, by omega, k2, fun z hz h9 => k3 z hz h9, ?_⟩
        rw [new, old k (by omega), hx.2 (by omega), k4]
    · rcases hn w (by omega) with ⟨k, k1, k2, k3, k4⟩ | ⟨k1, k2⟩
      · left
        refine ⟨k, k1, k2, k3, ?_⟩
        rw [old w (by omega), old k (by omega)]; exact k4
      · right
        exact ⟨k1, by rw [old w (by omega)]; exact k2⟩
  · by_cases hp : p < 0
    · have hf : fsP (fun a b => lb a = lb b) v.toNat := fun z hz h9 => hq.1 hp z (by omega) h9
      rw [cnP_y hf, hc1.1 hp, hc]; rfl
    · obtain ⟨k, k1, k2, k3, k4⟩ := hq.2 (by omega)
      have hf : ¬ fsP (fun a b => lb a = lb b) v.toNat := fun h9 => h9 k (by omega) k2
      rw [cnP_n hf, hc1.2 (by omega), hc]
/-- a set hangs together just if what hangs together with its lowest node is all of it -/
theorem tg_cn {be : Nat → Int} {n : Nat} {s r : Int} (hJ : SymJ be n) (h0 : 0 < s) (hr0 : 0 ≤ r) (h : tgP be s r) : r = s ↔ cnS (JB be) (fun i => Me s i) := by
  obtain ⟨i, q1, q2, q3⟩ := h.2 h0
  have hsy : ∀ a b, JB be a b → JB be b a := fun a b q => (hJ a b q).1
  have stay : ∀ j, RC (tgR be s) (fun x => x = i) j → Me s j := fun j hj => hj (Me s) (fun x hx => by rw [hx]; exact q1) (fun _ _ _ hr => hr.2)
  have eqr : ∀ j, RC (tgR be s) (fun x => x = i) j ↔ RC (wi (JB be) (fun i => Me s i)) (fun x => x = i) j := fun j => by
    constructor
    · intro hj
      exact (hj (fun x => Me s x ∧ RC (wi (JB be) (fun i => Me s i)) (fun x => x = i) x) (fun x hx => by rw [hx]; exact ⟨q1, RC_in rfl⟩) (fun a b ha hr => ⟨hr.2, RC_st ha.2 ⟨hr.1, ha.1, hr.2⟩⟩)).2
    · exact RC_mono (fun a b q => ⟨q.1, q.2.2⟩) (fun _ q => q)
  constructor
  · intro e
    refine cn_hub hsy (h := i) (fun y hy => ?_)
    rw [← eqr y, ← q3 y, e]; exact hy
  · intro hc
    apply Me_ext hr0 (by omega)
    intro j
    rw [q3 j]
    exact ⟨stay j, fun hj => (eqr j).mpr (hc i j q1 hj)⟩
theorem bc_two {x : Int} : ∀ {k : Nat}, (∃ u w, u < k ∧ w < k ∧ Me x u ∧ Me x w ∧ u ≠ w) → 1 < bcI x k := by
  have one : ∀ {k u : Nat}, u < k → Me x u → 1 ≤ bcI x k := by
    intro k u hu hm
    have h1 : bcI x (u + 1) ≤ bcI x k := bc_mono x (by omega)
    have e : bcI x (u + 1) = bcI x u + ((x.toNat >>> u : Nat) : Int) % 2 := rfl
    have h2 : ((x.toNat >>> ((u : Int)).toNat : Nat) : Int) % 2 ≠ 0 := Me_bit.mpr hm
    rw [Int.toNat_natCast] at h2
    have h3 := bc_le x u
    omega
  intro k ⟨u, w, h1, h2, h3, h4, h5⟩
  have key : ∀ {a b : Nat}, a < b → b < k → Me x a → Me x b → 1 < bcI x k := by
    intro a b hab hb ha hmb
    have h1 : bcI x (b + 1) ≤ bcI x k := bc_mono x (by omega)
    have e : bcI x (b + 1) = bcI x b + ((x.toNat >>> b : Nat) : Int) % 2 := rfl
    have h2 : ((x.toNat >>> ((b : Int)).toNat : Nat) : Int) % 2 ≠ 0 := Me_bit.mpr hmb
    rw [Int.toNat_natCast] at h2
    have h3 := one hab ha
    omega
  rcases Nat.lt_or_ge u w with g | g
  · exact key g h2 h3 h4
  · exact key (show w < u by omega) h1 h4 h3
theorem bc_ntwo {x : Int} : ∀ {k : Nat}, (¬ ∃ u w, u < k ∧ w < k ∧ Me x u ∧ Me x w ∧ u ≠ w) → bcI x k ≤ 1 := by
  have zero : ∀ {k : Nat}, (∀ u, u < k → ¬ Me x u) → bcI x k = 0 := by
    intro k
    induction k with
    | zero => intro _; rfl
    | succ k ih =>
      intro h
      have e : bcI x (k + 1) = bcI x k + ((x.toNat >>> k : Nat) : Int) % 2 := rfl
      have h2 : ¬ ((x.toNat >>> ((k : Int)).toNat : Nat) : Int) % 2 ≠ 0 := fun h9 => h k (by omega) (Me_bit.mp h9)
      rw [Int.toNat_natCast] at h2
      rw [e, ih (fun u hu => h u (by omega))]; omega
  intro k
  induction k with
  | zero => intro _; show (0 : Int) ≤ 1; omega
  | succ k ih =>
    intro h
    have e : bcI x (k + 1) = bcI x k + ((x.toNat >>> k : Nat) : Int) % 2 := rfl
    have h1 := ih (fun ⟨u, w, q1, q2, q3⟩ => h ⟨u, w, by omega, by omega, q3⟩)
    by_cases hm : Me x k
    · have h2 := zero (k := k) (fun u hu hmu => h ⟨u, k, by omega, by omega, hmu, hm, by omega⟩)
      rw [e, h2]; omega
    · have h2 : ¬ ((x.toNat >>> ((k : Int)).toNat : Nat) : Int) % 2 ≠ 0 := fun h9 => hm (Me_bit.mp h9)
      rw [Int.toNat_natCast] at h2
      rw [e]; omega
/-- in the midst of asking whether a set is solid: without each node below v it hangs together -/
def slP (J : Nat → Nat → Prop) (s v is : Int) : Prop := (is = 1 ∧ (∃ u w, Me s u ∧ Me s w ∧ u ≠ w) ∧ cnS J (fun i => Me s i) ∧ ∀ x : Nat, (x : Int) < v → Me s x → cnS J (mi (fun i => Me s i) x)) ∨ (is = 0 ∧ ¬ soP J (fun i => Me s i))
theorem sl_no {J : Nat → Nat → Prop} {s v : Int} (h : slP J s v 1) (h0 : 0 ≤ v) (hn : ¬ Me s v.toNat) : slP J s (v + 1) 1 := by
  rcases h with ⟨-, h1, h2, h3⟩ | ⟨h1, -⟩
  · refine Or.inl ⟨rfl, h1, h2, fun x hx hm => ?_⟩
    by_cases e : x = v.toNat
    · subst e; exact absurd hm hn
    · exact h3 x (by omega) hm
  · omega
theorem mi_Me {s z : Int} {x : Nat} (hz : ∀ i, Me z i ↔ Me s i ∧ ¬ i = x) : (fun i => Me z i) = mi (fun i => Me s i) x := funext (fun i => propext ((hz i).trans ⟨fun q => ⟨q.1, q.2⟩, fun q => ⟨q.1, q.2⟩⟩))
theorem sl_yes {J : Nat → Nat → Prop} {s v : Int} (h : slP J s v 1) (h0 : 0 ≤ v) (hc : cnS J (mi (fun i => Me s i) v.toNat)) : slP J s (v + 1) 1 := by
  rcases h with ⟨-, h1, h2, h3⟩ | ⟨h1, -⟩
  · refine Or.inl ⟨rfl, h1, h2, fun x hx hm => ?_⟩
    by_cases e : x = v.toNat
    · subst e; exact hc
    · exact h3 x (by omega) hm
  · omega
theorem sl_bad {J : Nat → Nat → Prop} {s v : Int} {x : Nat} (hm : Me s x) (hc : ¬ cnS J (mi (fun i => Me s i) x)) : slP J s v 0 := Or.inr ⟨rfl, fun h9 => hc (h9.2.2 x hm)⟩
theorem sl_end {J : Nat → Nat → Prop} {s v is : Int} {n : Nat} (h : slP J s v is) (hv : (n : Int) ≤ v ∨ is = 0) (hs : ∀ i, Me s i → i < n) : (is = 1 ∧ soP J (fun i => Me s i)) ∨ (is = 0 ∧ ¬ soP J (fun i => Me s i)) := by
  rcases h with ⟨h0, h1, h2, h3⟩ | h1
  · exact Or.inl ⟨h0, h1, h2, fun x hx => h3 x (by have := hs x hx; omega) hx⟩
  · exact Or.inr h1
/-- sets below S: which are solid -/
def sdP (J : Nat → Nat → Prop) (S : Int) (sd : Nat → Int) : Prop := ∀ s : Int, 0 ≤ s → s < S → (sd s.toNat = 1 ∧ soP J (fun i => Me s i)) ∨ (sd s.toNat = 0 ∧ ¬ soP J (fun i => Me s i))
theorem sd_up {J : Nat → Nat → Prop} {S is : Int} {sd : Nat → Int} (h : sdP J S sd) (h0 : 0 ≤ S) (hi : (is = 1 ∧ soP J (fun i => Me S i)) ∨ (is = 0 ∧ ¬ soP J (fun i => Me S i))) : sdP J (S + 1) (fup sd S.toNat is) := by
  intro s h1 h2
  by_cases e : s = S
  · subst e; rw [fup_s]; exact hi
  · rw [fup_o _ _ (by omega)]; exact h s h1 (by omega)
/-- a solid set that is greater -/
def biP (J : Nat → Nat → Prop) (n : Nat) (s : Int) : Prop := ∃ t : Int, 0 ≤ t ∧ t.toNat < 2 ^ n ∧ soP J (fun i => Me t i) ∧ (∀ i, Me s i → Me t i) ∧ t ≠ s
def blQ (J : Nat → Nat → Prop) (n : Nat) (S : Int) (bl : Nat → Int) : Prop := ∀ s : Int, S < s → s.toNat < 2 ^ n → (bl s.toNat = 1 ∧ biP J n s) ∨ (bl s.toNat = 0 ∧ ¬ biP J n s)
/-- in the midst of looking whether a greater one is solid -/
def lyP (J : Nat → Nat → Prop) (n : Nat) (s v ly : Int) : Prop := (ly = 1 ∧ biP J n s) ∨ (ly = 0 ∧ ∀ t : Int, 0 ≤ t → t.toNat < 2 ^ n → soP J (fun i => Me t i) → (∀ i, Me s i → Me t i) → ∀ i : Nat, (i : Int) < v → Me t i → Me s i)
theorem ly_0 (J : Nat → Nat → Prop) (n : Nat) (s : Int) : lyP J n s 0 0 := Or.inr ⟨rfl, fun _ _ _ _ _ i hi => by omega⟩
theorem ly_1 {J : Nat → Nat → Prop} {n : Nat} {s v ly : Int} (h : lyP J n s v ly) (h1 : ly ≠ 0) : lyP J n s (v + 1) 1 := h.elim (fun q => Or.inl ⟨rfl, q.2⟩) (fun q => absurd q.1 h1)
theorem ly_same {J : Nat → Nat → Prop} {n : Nat} {s v : Int} (h : lyP J n s v 0) (h0 : 0 ≤ v) (hm : Me s v.toNat) : lyP J n s (v + 1) 0 := by
  rcases h with ⟨h1, -⟩ | ⟨-, h2⟩
  · omega
  · refine Or.inr ⟨rfl, fun t a b c d i hi hti => ?_⟩
    by_cases e : i = v.toNat
    · subst e; exact hm
    · exact h2 t a b c d i (by omega) hti
theorem ly_big {J : Nat → Nat → Prop} {n : Nat} {s v z : Int} (hz : ∀ i, Me z i ↔ Me s i ∨ i = v.toNat) (hz0 : 0 ≤ z) (hzn : z.toNat < 2 ^ n) (hne : z ≠ s) (hb : soP J (fun i => Me z i) ∨ biP J n z) (hs0 : 0 ≤ s) : lyP J n s (v + 1) 1 := by
  refine Or.inl ⟨rfl, ?_⟩
  rcases hb with q | ⟨t, t1, t2, t3, t4, t5⟩
  · exact ⟨z, hz0, hzn, q, fun i hi => (hz i).mpr (Or.inl hi), hne⟩
  · refine ⟨t, t1, t2, t3, fun i hi => t4 i ((hz i).mpr (Or.inl hi)), fun e => ?_⟩
    have hsub : ∀ i, Me z i → Me s i := fun i hi => by rw [← e]; exact t4 i hi
    exact hne (Me_ext hz0 hs0 (fun i => ⟨hsub i, fun hi => (hz i).mpr (Or.inl hi)⟩))
theorem ly_not {J : Nat → Nat → Prop} {n : Nat} {s v z : Int} (h : lyP J n s v 0) (h0 : 0 ≤ v) (hz : ∀ i, Me z i ↔ Me s i ∨ i = v.toNat) (hz0 : 0 ≤ z) (h1 : ¬ soP J (fun i => Me z i)) (h2 : ¬ biP J n z) : lyP J n s (v + 1) 0 := by
  rcases h with ⟨q1, -⟩ | ⟨-, q2⟩
  · omega
  · refine Or.inr ⟨rfl, fun t a b c d i hi hti => ?_⟩
    by_cases e : i = v.toNat
    · subst e
      exfalso
      have sub : ∀ j, Me z j → Me t j := fun j hj => ((hz j).mp hj).elim (d j) (fun e9 => e9 ▸ hti)
      by_cases et : t = z
      · subst et; exact h1 c
      · exact h2 ⟨t, a, b, c, sub, et⟩
    · exact q2 t a b c d i (by omega) hti
theorem ly_end {J : Nat → Nat → Prop} {n : Nat} {s v ly : Int} (h : lyP J n s v ly) (hv : (n : Int) ≤ v) (hs0 : 0 ≤ s) : (ly = 1 ∧ biP J n s) ∨ (ly = 0 ∧ ¬ biP J n s) := by
  rcases h with q | ⟨q1, q2⟩
  · exact Or.inl q
  · refine Or.inr ⟨q1, fun ⟨t, t1, t2, t3, t4, t5⟩ => t5 ?_⟩
    apply Me_ext t1 hs0
    intro i
    refine ⟨fun hi => ?_, t4 i⟩
    have hin : i < n := by
      rcases Nat.lt_or_ge i n with g | g
      · exact g
      · have h4 : t.toNat.testBit i = true := hi
        rw [Nat.testBit_lt_two_pow (Nat.lt_of_lt_of_le t2 (Nat.pow_le_pow_right (by omega) g))] at h4
        cases h4
    exact q2 t t1 t2 t3 t4 i (by omega) hi
theorem bl_up {J : Nat → Nat → Prop} {n : Nat} {S ly : Int} {bl : Nat → Int} (h : blQ J n S bl) (hS : 0 < S) (hl : (ly = 1 ∧ biP J n S) ∨ (ly = 0 ∧ ¬ biP J n S)) : blQ J n (S - 1) (fup bl S.toNat ly) := by
  intro s h1 h2
  by_cases e : s = S
  · subst e; rw [fup_s]; exact hl
  · rw [fup_o _ _ (by omega)]; exact h s (by omega) h2
/-- blocks that were counted: sets above S -/
def bkP (J : Nat → Nat → Prop) (n : Nat) (u s : Nat) : Prop := mxS J n s ∧ s.testBit u = true
def bcP (J : Nat → Nat → Prop) (n : Nat) (N v S : Int) (cl : Nat → Int64) : Prop := ∀ u : Nat, (u : Int) < N → 0 ≤ (cl u).toInt ∧ ((u : Int) < v → (cl u).toInt + (cnP (bkP J n u) S.toNat : Int) = (cnP (bkP J n u) (2 ^ n) : Int)) ∧ (v ≤ (u : Int) → (cl u).toInt + (cnP (bkP J n u) (S.toNat + 1) : Int) = (cnP (bkP J n u) (2 ^ n) : Int))
theorem mx_iff {J : Nat → Nat → Prop} {n : Nat} {s : Int} (h0 : 0 ≤ s) (h1 : s.toNat < 2 ^ n) : mxS J n s.toNat ↔ soP J (fun i => Me s i) ∧ ¬ biP J n s := by
  constructor
  · rintro ⟨-, a2, a3⟩
    refine ⟨a2, fun ⟨t, t1, t2, t3, t4, t5⟩ => t5 ?_⟩
    have := a3 t.toNat t2 t3 t4
    omega
  · rintro ⟨a1, a2⟩
    refine ⟨h1, a1, fun t t1 t2 t3 => ?_⟩
    apply Classical.byContradiction
    intro h9
    exact a2 ⟨(t : Int), by omega, by rw [Int.toNat_natCast]; exact t1, (by show soP J (fun i => ((t : Int)).toNat.testBit i = true); rw [Int.toNat_natCast]; exact t2), (fun i hi => by show ((t : Int)).toNat.testBit i = true; rw [Int.toNat_natCast]; exact t3 i hi), fun e => h9 (by omega)⟩
theorem bc_0 {J : Nat → Nat → Prop} {n : Nat} {N : Int} {cl : Nat → Int64} (h : eqB cl (fun _ => 0) N) : bcP J n N 0 (((2 ^ n : Nat) : Int) - 1) cl := by
  intro u hu
  have e : (0 : Int64).toInt = 0 := by decide
  have hp : 1 ≤ 2 ^ n := Nat.one_le_two_pow
  rw [h u hu, e]
  refine ⟨by omega, fun h9 => by omega, fun _ => ?_⟩
  rw [show (((2 ^ n : Nat) : Int) - 1).toNat + 1 = 2 ^ n by omega]; omega
theorem bc_st {J : Nat → Nat → Prop} {n : Nat} {N v S : Int} {cl : Nat → Int64} (h : bcP J n N v S cl) (hm : mxS J n S.toNat) (h0 : 0 ≤ v) (hv : v < N) (hn : n ≤ 16) : bcP J n N (v + 1) S (fuj cl v.toNat (cl v.toNat + (iv (((S.toNat >>> v.toNat : Nat) : Int) % 2)).toInt64)) := by
  intro u hu
  by_cases e : u = v.toNat
  · subst e
    rw [fuj_s]
    obtain ⟨q1, -, q3⟩ := h _ hu
    have q4 := q3 (by omega)
    have hb := @Me_bit S v
    have el := iv_long (x := ((S.toNat >>> v.toNat : Nat) : Int) % 2) (by omega)
    have hlt : 2 ^ n ≤ 2 ^ 16 := Nat.pow_le_pow_right (by omega) hn
    have hle := cnP_le (bkP J n v.toNat) (2 ^ n)
    have es : (cl v.toNat + (iv (((S.toNat >>> v.toNat : Nat) : Int) % 2)).toInt64).toInt = (cl v.toNat).toInt + ((S.toNat >>> v.toNat : Nat) : Int) % 2 := by
      rw [l_add (by omega), el]
    rw [es]
    refine ⟨by omega, fun _ => ?_, fun h9 => by omega⟩
    by_cases hbit : ((S.toNat >>> v.toNat : Nat) : Int) % 2 ≠ 0
    · have : bkP J n v.toNat S.toNat := ⟨hm, hb.mp hbit⟩
      rw [cnP_y this] at q4
      omega
    · have : ¬ bkP J n v.toNat S.toNat := fun h9 => hbit (hb.mpr h9.2)
      rw [cnP_n this] at q4
      omega
  · rw [fuj_o _ _ e]
    obtain ⟨q1, q2, q3⟩ := h u hu
    exact ⟨q1, fun h9 => q2 (by omega), fun h9 => q3 (by omega)⟩
theorem bc_end {J : Nat → Nat → Prop} {n : Nat} {N v S : Int} {cl : Nat → Int64} (h : bcP J n N v S cl) (hS : 0 < S) (hv : (mxS J n S.toNat ∧ N ≤ v) ∨ (¬ mxS J n S.toNat ∧ v = 0)) : bcP J n N 0 (S - 1) cl := by
  intro u hu
  obtain ⟨q1, q2, q3⟩ := h u hu
  refine ⟨q1, fun h9 => by omega, fun _ => ?_⟩
  rw [show (S - 1).toNat + 1 = S.toNat by omega]
  rcases hv with ⟨-, h1⟩ | ⟨h1, h2⟩
  · exact q2 (by omega)
  · have q4 := q3 (by omega)
    rw [cnP_n (fun h9 : bkP J n u S.toNat => h1 h9.1)] at q4
    exact q4
theorem bc_fin {J : Nat → Nat → Prop} {n : Nat} {N : Int} {cl : Nat → Int64} (h : bcP J n N 0 0 cl) (u : Nat) (hu : (u : Int) < N) : (cl u).toInt = (cnP (bkP J n u) (2 ^ n) : Int) := by
  have q := (h u hu).2.2 (by omega)
  have hz : ¬ bkP J n u 0 := fun h9 => by
    have := h9.2
    simp at this
  have e : cnP (bkP J n u) ((0 : Int).toNat + 1) = 0 := by
    show cnP (bkP J n u) (0 + 1) = 0
    rw [cnP_n hz]; rfl
  rw [e] at q; omega
theorem Me_bd {s : Int} {n i : Nat} (h : Me s i) (h1 : s.toNat < 2 ^ n) : i < n := by
  rcases Nat.lt_or_ge i n with g | g
  · exact g
  · have h4 : s.toNat.testBit i = true := h
    rw [Nat.testBit_lt_two_pow (Nat.lt_of_lt_of_le h1 (Nat.pow_le_pow_right (by omega) g))] at h4
    cases h4
theorem or_bd {s z b : Int} {n v : Nat} (hz : ∀ i, Me z i ↔ Me s i ∨ Me b i) (hb : ∀ i, Me b i ↔ i = v) (h1 : s.toNat < 2 ^ n) (hv : v < n) (hz0 : 0 ≤ z ∧ z ≤ 65535) : z.toNat < 2 ^ n := by
  apply Nat.lt_pow_two_of_testBit
  intro i hi
  cases h : z.toNat.testBit i
  · rfl
  · exfalso
    rcases (hz i).mp h with q | q
    · have := Me_bd q h1
      omega
    · have := (hb i).mp q
      omega
theorem sl_eq {s z b : Int} {v : Nat} (hz : ∀ i, Me z i ↔ Me s i ∧ ¬ Me b i) (hb : ∀ i, Me b i ↔ i = v) (e : z = s) : ¬ Me s v := fun h => by
  rw [← e] at h
  exact ((hz v).mp h).2 ((hb v).mpr rfl)
theorem sl_ne {s z b : Int} {v : Nat} (hz : ∀ i, Me z i ↔ Me s i ∧ ¬ Me b i) (hb : ∀ i, Me b i ↔ i = v) (h0 : 0 ≤ z) (h1 : 0 ≤ s) (e : z ≠ s) : Me s v := by
  apply Classical.byContradiction
  intro h
  refine e (Me_ext h0 h1 (fun i => ⟨fun q => ((hz i).mp q).1, fun q => (hz i).mpr ⟨q, fun h9 => ?_⟩⟩))
  have := (hb i).mp h9
  subst this; exact h q
theorem sl_pos {J : Nat → Nat → Prop} {s z b v0 : Int} {v : Nat} (h : slP J s v0 1) (hz : ∀ i, Me z i ↔ Me s i ∧ ¬ Me b i) (hb : ∀ i, Me b i ↔ i = v) (h0 : 0 ≤ z) : 0 < z := by
  rcases h with ⟨-, ⟨u, w, q1, q2, q3⟩, -, -⟩ | ⟨h1, -⟩
  · have : ∃ x, Me z x := by
      by_cases e : u = v
      · exact ⟨w, (hz w).mpr ⟨q2, fun h9 => q3 (e.trans ((hb w).mp h9).symm)⟩⟩
      · exact ⟨u, (hz u).mpr ⟨q1, fun h9 => e ((hb u).mp h9)⟩⟩
    obtain ⟨x, hx⟩ := this
    apply Classical.byContradiction
    intro h9
    have e : z = 0 := by omega
    rw [e] at hx; exact Me_0 x hx
  · omega
set_option maxHeartbeats 4000000 in
set_option maxRecDepth 100000 in
theorem x_X12_same {D : va_G} {cI cJ cZ cT : ClassId} {lo b L : Nat} {xs : Nat → Int32} {hp : MH} {n d : Nat} {Γ : TG} {y : Nat} {rf cn nm : Int} {so sz dr mn fr tt wt co : Nat → Int} {nu : Nat → Int64} {sa : Nat → Int} {wo : Nat → Int64} {ln : Nat → Int} {hw : Nat → Int64} {ro qi qc nf nt nw nc : Nat → Int} {cl nx : Nat → Int64} {ie be sd bl : Nat → Int} {bs wy ra rb : Nat → Int64} {lb bg os js ls : Nat → Int} {sp : Nat → Int64} {jw go : Nat → Int} {de : Nat → Int64} {yb ah im : Nat → Int} {x1 : Int} {Po9 : Option Value → MH → Nat → Prop} (hd0 : 1 ≤ d) (hR_many : Rfx 121 0 60 mn) (hR_sizes : Rfx 121 0 16 sz) (hR_from : Rfx 7260 0 15 fr) (hR_to : Rfx 7260 0 15 tt) (hR_directs : Rfx 121 0 1 dr) (hR_outs : Rfx 16 0 65535 os) (hR_ins : Rfx 16 0 65535 js) (hR_label : Rfx 16 0 65535 lb) (ht : Tw (RX Γ cI cJ cZ y rf cn nm so sz dr mn fr tt wt co nu sa wo ln hw ro qi qc nf nt nw nc cl nx ie be sd bl bs wy ra rb lb bg os js ls sp jw go de yb ah im) hp) (hx1 : 0 ≤ x1 ∧ x1 ≤ 120) (hEn : enP fr tt mn sz x1) (hPo : ∀ r hp1 n1, (n1 = n ∧ ∃ (o1 : Nat → Int) (j1 : Nat → Int) (l1 : Nat → Int), Tw (RX Γ cI cJ cZ y rf cn nm so sz dr mn fr tt wt co nu sa wo ln hw ro qi qc nf nt nw nc cl nx ie be sd bl bs wy ra rb l1 bg o1 j1 ls sp jw go de yb ah im) hp1 ∧ r = none ∧ (Rfx 16 0 65535 o1) ∧ (Rfx 16 0 65535 j1) ∧ (Rfx 16 0 65535 l1) ∧ (sbP o1 (Int.toNat (mn (Int.toNat x1))) (dr (Int.toNat x1)) (sh fr (60 * x1)) (sh tt (60 * x1)) (sz (Int.toNat x1))) ∧ (sbP j1 (Int.toNat (mn (Int.toNat x1))) (dr (Int.toNat x1)) (sh tt (60 * x1)) (sh fr (60 * x1)) (sz (Int.toNat x1))) ∧ (lqP (fun u v => o1 u = o1 v ∧ j1 u = j1 v) l1 (sz (Int.toNat x1)))) → Po9 r hp1 n1) : Mt (gG D cI cJ cZ cT lo b L xs) mX12_same d 0 0 [.ref y, .int (iv x1)] hp n Po9 := by
  refine Mt.of rfl (Nat.le_of_ble_eq_true rfl) ?_
  refine Rn.pick (lv' := [(0, .ref y), (1, .int (iv x1))]) [0, 1] rfl ?_
  have rmn := hR_many (Int.toNat x1) (by omega)
  have rsz := hR_sizes (Int.toNat x1) (by omega)
  have rdr := hR_directs (Int.toNat x1) (by omega)
  refine r_aload_n (pc := 0) dX12_same_0 (i := 0) rfl rfl ?_
  refine t_getE (pc := 1) (.ref (y + 2)) ht (rd_of RX_y) fX12_13 dX12_same_1 rfl ?_
  refine r_iload_n (pc := 4) dX12_same_4 (i := 1) rfl rfl ?_
  refine t_ialdX (pc := 5) (t0 := 0) ht (rd_of RX_sizes) dX12_same_5 rfl (by decide) (by omega) (fun b1 => ?_)
  have rb1 := (show Rfx 121 0 16 sz by assumption) (Int.toNat x1) (by omega)
  refine r_istore_n (pc := 6) (lv' := [(2, .int (iv (sz (Int.toNat x1)))), (0, .ref y), (1, .int (iv x1))]) dX12_same_6 (i := 2) rfl (by decide) rfl ?_
  refine r_iconst (pc := 7) (v := iv 0) dX12_same_7 (by decide) ?_
  refine r_istore_n (pc := 8) (lv' := [(3, .int (iv 0)), (2, .int (iv (sz (Int.toNat x1)))), (0, .ref y), (1, .int (iv x1))]) dX12_same_8 (i := 3) rfl (by decide) rfl ?_
  have B9 : ∀ k : Nat, ∀ os9 : Nat → Int, ∀ js9 : Nat → Int, ∀ hp9 : MH, Tw (RX Γ cI cJ cZ y rf cn nm so sz dr mn fr tt wt co nu sa wo ln hw ro qi qc nf nt nw nc cl nx ie be sd bl bs wy ra rb lb bg os9 js9 ls sp jw go de yb ah im) hp9 → ∀  (v9_3 : Int), 0 ≤ v9_3 ∧ v9_3 ≤ 16 ∧ (Rfx 16 0 65535 os9) ∧ (Rfx 16 0 65535 js9) ∧ (v9_3 ≤ (sz (Int.toNat x1))) ∧ (∀ u : Nat, (u : Int) < v9_3 → os9 u = 0) ∧ (∀ u : Nat, (u : Int) < v9_3 → js9 u = 0) → 16 - v9_3 ≤ (k : Int) → Rn (gG D cI cJ cZ cT lo b L xs) mX12_same d 9 [(0, .ref y), (1, .int (iv x1)), (2, .int (iv (sz (Int.toNat x1)))), (3, .int (iv v9_3))] [] hp9 n 0 0 Po9 := by
    refine lpS _ ?_
    intro k9 ih9 os9 js9 hp9 ht9 v9_3 hf9 hm9
    obtain ⟨hf9_0, hf9_1, ha9_2, ha9_3, hf9_4, ha9_5, ha9_6⟩ := hf9
    refine r_iload_n (pc := 9) dX12_same_9 (i := 3) rfl rfl ?_
    refine r_iload_n (pc := 10) dX12_same_10 (i := 2) rfl rfl ?_
    refine t_icmp_ge (pc := 11) (tgt := 34) dX12_same_11 (by decide) (by omega) (by omega) (fun c11 => ?_) (fun c11 => ?_)
    · refine r_iconst (pc := 34) (v := iv 0) dX12_same_34 (by decide) ?_
      refine r_istore_n (pc := 35) (lv' := [(3, .int (iv 0)), (0, .ref y), (1, .int (iv x1)), (2, .int (iv (sz (Int.toNat x1))))]) dX12_same_35 (i := 3) rfl (by decide) rfl ?_
      have B36 : ∀ k : Nat, ∀ os36 : Nat → Int, ∀ js36 : Nat → Int, ∀ hp36 : MH, Tw (RX Γ cI cJ cZ y rf cn nm so sz dr mn fr tt wt co nu sa wo ln hw ro qi qc nf nt nw nc cl nx ie be sd bl bs wy ra rb lb bg os36 js36 ls sp jw go de yb ah im) hp36 → ∀  (v36_3 : Int), 0 ≤ v36_3 ∧ v36_3 ≤ 60 ∧ (Rfx 16 0 65535 os36) ∧ (Rfx 16 0 65535 js36) ∧ (v36_3 ≤ (mn (Int.toNat x1))) ∧ (sbP os36 (Int.toNat v36_3) (dr (Int.toNat x1)) (sh fr (60 * x1)) (sh tt (60 * x1)) (sz (Int.toNat x1))) ∧ (sbP js36 (Int.toNat v36_3) (dr (Int.toNat x1)) (sh tt (60 * x1)) (sh fr (60 * x1)) (sz (Int.toNat x1))) → 60 - v36_3 ≤ (k : Int) → Rn (gG D cI cJ cZ cT lo b L xs) mX12_same d 36 [(0, .ref y), (1, .int (iv x1)), (2, .int (iv (sz (Int.toNat x1)))), (3, .int (iv v36_3))] [] hp36 n 0 0 Po9 := by
        refine lpS _ ?_
        intro k36 ih36 os36 js36 hp36 ht36 v36_3 hf36 hm36
        obtain ⟨hf36_0, hf36_1, ha36_2, ha36_3, hf36_4, ha36_5, ha36_6⟩ := hf36
        refine r_iload_n (pc := 36) dX12_same_36 (i := 3) rfl rfl ?_
        refine r_aload_n (pc := 37) dX12_same_37 (i := 0) rfl rfl ?_
        refine t_getE (pc := 38) (.ref (y + 4)) ht36 (rd_of RX_y) fX12_20 dX12_same_38 rfl ?_
        refine r_iload_n (pc := 41) dX12_same_41 (i := 1) rfl rfl ?_
        refine t_ialdX (pc := 42) (t0 := 0) ht36 (rd_of RX_many) dX12_same_42 rfl (by decide) (by omega) (fun b2 => ?_)
        have rb2 := (show Rfx 121 0 60 mn by assumption) (Int.toNat x1) (by omega)
        refine t_icmp_ge (pc := 43) (tgt := 181) dX12_same_43 (by decide) (by omega) (by omega) (fun c43 => ?_) (fun c43 => ?_)
        · refine r_iconst (pc := 181) (v := iv 0) dX12_same_181 (by decide) ?_
          refine r_istore_n (pc := 182) (lv' := [(3, .int (iv 0)), (0, .ref y), (1, .int (iv x1)), (2, .int (iv (sz (Int.toNat x1))))]) dX12_same_182 (i := 3) rfl (by decide) rfl ?_
          have B183 : ∀ k : Nat, ∀ lb183 : Nat → Int, ∀ hp183 : MH, Tw (RX Γ cI cJ cZ y rf cn nm so sz dr mn fr tt wt co nu sa wo ln hw ro qi qc nf nt nw nc cl nx ie be sd bl bs wy ra rb lb183 bg os36 js36 ls sp jw go de yb ah im) hp183 → ∀  (v183_3 : Int), 0 ≤ v183_3 ∧ v183_3 ≤ 16 ∧ (Rfx 16 0 65535 lb183) ∧ (v183_3 ≤ (sz (Int.toNat x1))) ∧ (lqP (fun u v => os36 u = os36 v ∧ js36 u = js36 v) lb183 v183_3) → 16 - v183_3 ≤ (k : Int) → Rn (gG D cI cJ cZ cT lo b L xs) mX12_same d 183 [(0, .ref y), (2, .int (iv (sz (Int.toNat x1)))), (3, .int (iv v183_3))] [] hp183 n 0 0 Po9 := by
            refine lpS _ ?_
            intro k183 ih183 lb183 hp183 ht183 v183_3 hf183 hm183
            obtain ⟨hf183_0, hf183_1, ha183_2, hf183_3, ha183_4⟩ := hf183
            refine r_iload_n (pc := 183) dX12_same_183 (i := 3) rfl rfl ?_
            refine r_iload_n (pc := 184) dX12_same_184 (i := 2) rfl rfl ?_
            refine t_icmp_ge (pc := 185) (tgt := 266) dX12_same_185 (by decide) (by omega) (by omega) (fun c185 => ?_) (fun c185 => ?_)
            · exact r_vret (pc := 266) dX12_same_266 rfl (hPo _ _ _ ⟨rfl, os36, js36, lb183, ht183, rfl, (by assumption), (by assumption), (by assumption), (by (rw [← show v36_3 = (mn (Int.toNat x1)) by omega]; assumption)), (by (rw [← show v36_3 = (mn (Int.toNat x1)) by omega]; assumption)), (by (rw [← show v183_3 = (sz (Int.toNat x1)) by omega]; assumption))⟩)
            · refine r_aload_n (pc := 188) dX12_same_188 (i := 0) rfl rfl ?_
              refine t_getE (pc := 189) (.ref (y + 31)) ht183 (rd_of RX_y) fX12_103 dX12_same_189 rfl ?_
              refine r_iload_n (pc := 192) dX12_same_192 (i := 3) rfl rfl ?_
              refine r_iload_n (pc := 193) dX12_same_193 (i := 3) rfl rfl ?_
              refine t_iastX (pc := 194) (t0 := 0) ht183 RX_label dX12_same_194 rfl (by decide) (by omega) (by omega) (fun hp3 ht4 => ?_)
              have ht5 := RXw_lb ht4
              have hqht5 : Rfx 16 0 65535 (fup lb183 (Int.toNat v183_3) v183_3) := Rfx_up (by assumption) (by omega)
              refine r_iload_n (pc := 195) dX12_same_195 (i := 3) rfl rfl ?_
              refine r_iconst (pc := 196) (v := iv 1) dX12_same_196 (by decide) ?_
              refine r_isub (pc := 197) (v := iv (v183_3 - 1)) dX12_same_197 (iv_sub _ _) ?_
              refine r_istore (pc := 198) (lv' := [(4, .int (iv (v183_3 - 1))), (0, .ref y), (2, .int (iv (sz (Int.toNat x1)))), (3, .int (iv v183_3))]) dX12_same_198 (by decide) rfl ?_
              have B200 : ∀ k : Nat, ∀ lb200 : Nat → Int, ∀ hp200 : MH, Tw (RX Γ cI cJ cZ y rf cn nm so sz dr mn fr tt wt co nu sa wo ln hw ro qi qc nf nt nw nc cl nx ie be sd bl bs wy ra rb lb200 bg os36 js36 ls sp jw go de yb ah im) hp200 → ∀  (v200_4 : Int), (-1) ≤ v200_4 ∧ v200_4 ≤ 14 ∧ v200_4 ≤ v183_3 - 1 ∧ (Rfx 16 0 65535 lb200) ∧ (v200_4 ≤ v183_3) ∧ (lcP (fun u v => os36 u = os36 v ∧ js36 u = js36 v) (lb200 (Int.toNat v183_3)) v183_3 v200_4) ∧ (exI lb200 lb183 (Int.toNat v183_3)) → v200_4 - (-1) ≤ (k : Int) → Rn (gG D cI cJ cZ cT lo b L xs) mX12_same d 200 [(0, .ref y), (2, .int (iv (sz (Int.toNat x1)))), (3, .int (iv v183_3)), (4, .int (iv v200_4))] [] hp200 n 0 0 Po9 := by
                refine lpS _ ?_
                intro k200 ih200 lb200 hp200 ht200 v200_4 hf200 hm200
                obtain ⟨hf200_0, hf200_1, hf200_2, ha200_3, hf200_4, ha200_5, ha200_6⟩ := hf200
                refine r_iload (pc := 200) dX12_same_200 rfl ?_
                refine t_if_lt (pc := 202) (tgt := 260) dX12_same_202 (by decide) (by omega) (fun c202 => ?_) (fun c202 => ?_)
                · refine r_iinc (pc := 260) (v := iv (v183_3 + 1)) (lv' := [(3, .int (iv (v183_3 + 1))), (0, .ref y), (2, .int (iv (sz (Int.toNat x1)))), (4, .int (iv v200_4))]) dX12_same_260 rfl (iv_add _ _) (by decide) rfl ?_
                  refine r_goto (pc := 263) (tgt := 183) dX12_same_263 (by decide) ?_
                  refine Rn.pick (lv' := [(0, .ref y), (2, .int (iv (sz (Int.toNat x1)))), (3, .int (iv (v183_3 + 1)))]) [1, 2, 0] rfl ?_
                  exact ih183 (Int.toNat (16 - (v183_3 + 1))) (by omega) lb200 _ ht200 (v183_3 + 1) ⟨by omega, by omega, by assumption, by omega, by (first | assumption | (intro u hu; omega) | exact lq_up (u := v200_4) (by assumption) (by omega) (by omega) (by assumption) (by omega) (by assumption))⟩ (by omega)
                · refine r_aload_n (pc := 205) dX12_same_205 (i := 0) rfl rfl ?_
                  refine t_getE (pc := 206) (.ref (y + 31)) ht200 (rd_of RX_y) fX12_103 dX12_same_206 rfl ?_
                  refine r_iload_n (pc := 209) dX12_same_209 (i := 3) rfl rfl ?_
                  refine r_aload_n (pc := 210) dX12_same_210 (i := 0) rfl rfl ?_
                  refine t_getE (pc := 211) (.ref (y + 33)) ht200 (rd_of RX_y) fX12_109 dX12_same_211 rfl ?_
                  refine r_iload (pc := 214) dX12_same_214 rfl ?_
                  refine t_ialdX (pc := 216) (t0 := 0) ht200 (rd_of RX_outs) dX12_same_216 rfl (by decide) (by omega) (fun b6 => ?_)
                  have rb6 := (show Rfx 16 0 65535 os36 by assumption) (Int.toNat v200_4) (by omega)
                  refine r_aload_n (pc := 217) dX12_same_217 (i := 0) rfl rfl ?_
                  refine t_getE (pc := 218) (.ref (y + 33)) ht200 (rd_of RX_y) fX12_109 dX12_same_218 rfl ?_
                  refine r_iload_n (pc := 221) dX12_same_221 (i := 3) rfl rfl ?_
                  refine t_ialdX (pc := 222) (t0 := 0) ht200 (rd_of RX_outs) dX12_same_222 rfl (by decide) (by omega) (fun b7 => ?_)
                  have rb7 := (show Rfx 16 0 65535 os36 by assumption) (Int.toNat v183_3) (by omega)
                  refine t_icmp_ne (pc := 223) (tgt := 247) dX12_same_223 (by decide) (by omega) (by omega) (fun c223 => ?_) (fun c223 => ?_)
                  · refine r_aload_n (pc := 247) dX12_same_247 (i := 0) rfl rfl ?_
                    refine t_getE (pc := 248) (.ref (y + 31)) ht200 (rd_of RX_y) fX12_103 dX12_same_248 rfl ?_
                    refine r_iload_n (pc := 251) dX12_same_251 (i := 3) rfl rfl ?_
                    refine t_ialdX (pc := 252) (t0 := 0) ht200 (rd_of RX_label) dX12_same_252 rfl (by decide) (by omega) (fun b8 => ?_)
                    have rb8 := (show Rfx 16 0 65535 lb200 by assumption) (Int.toNat v183_3) (by omega)
                    refine t_iastX (pc := 253) (t0 := 0) ht200 RX_label dX12_same_253 rfl (by decide) (by omega) (by omega) (fun hp9 ht10 => ?_)
                    have ht11 := RXw_lb ht10
                    have hqht11 : Rfx 16 0 65535 (fup lb200 (Int.toNat v183_3) (lb200 (Int.toNat v183_3))) := Rfx_up (by assumption) (by omega)
                    refine r_iinc (pc := 254) (v := iv (v200_4 - 1)) (lv' := [(4, .int (iv (v200_4 - 1))), (0, .ref y), (2, .int (iv (sz (Int.toNat x1)))), (3, .int (iv v183_3))]) dX12_same_254 rfl ((iv_add _ _).trans (congrArg iv (show v200_4 + (-1) = v200_4 - 1 by omega))) (by decide) rfl ?_
                    refine r_goto (pc := 257) (tgt := 200) dX12_same_257 (by decide) ?_
                    refine Rn.pick (lv' := [(0, .ref y), (2, .int (iv (sz (Int.toNat x1)))), (3, .int (iv v183_3)), (4, .int (iv (v200_4 - 1)))]) [1, 2, 3, 0] rfl ?_
                    exact ih200 (Int.toNat ((v200_4 - 1) - (-1))) (by omega) (fup lb200 (Int.toNat v183_3) (lb200 (Int.toNat v183_3))) _ ht11 (v200_4 - 1) ⟨by omega, by omega, by omega, by assumption, by omega, by (first | (rw [fup_s]; exact lc_0 ⟨rfl, rfl⟩ (by omega)) | (rw [fup_s]; exact lc_y (by assumption) (by omega) ⟨by omega, by omega⟩) | (rw [fup_s]; exact lc_n (by assumption) (by omega) (fun h9 => by have h7 := h9.1; have h8 := h9.2; omega))), by (first | exact exI_up (by assumption) | exact exI_u _ _ _)⟩ (by omega)
                  · refine r_aload_n (pc := 226) dX12_same_226 (i := 0) rfl rfl ?_
                    refine t_getE (pc := 227) (.ref (y + 34)) ht200 (rd_of RX_y) fX12_112 dX12_same_227 rfl ?_
                    refine r_iload (pc := 230) dX12_same_230 rfl ?_
                    refine t_ialdX (pc := 232) (t0 := 0) ht200 (rd_of RX_ins) dX12_same_232 rfl (by decide) (by omega) (fun b12 => ?_)
                    have rb12 := (show Rfx 16 0 65535 js36 by assumption) (Int.toNat v200_4) (by omega)
                    refine r_aload_n (pc := 233) dX12_same_233 (i := 0) rfl rfl ?_
                    refine t_getE (pc := 234) (.ref (y + 34)) ht200 (rd_of RX_y) fX12_112 dX12_same_234 rfl ?_
                    refine r_iload_n (pc := 237) dX12_same_237 (i := 3) rfl rfl ?_
                    refine t_ialdX (pc := 238) (t0 := 0) ht200 (rd_of RX_ins) dX12_same_238 rfl (by decide) (by omega) (fun b13 => ?_)
                    have rb13 := (show Rfx 16 0 65535 js36 by assumption) (Int.toNat v183_3) (by omega)
                    refine t_icmp_ne (pc := 239) (tgt := 247) dX12_same_239 (by decide) (by omega) (by omega) (fun c239 => ?_) (fun c239 => ?_)
                    · refine r_aload_n (pc := 247) dX12_same_247 (i := 0) rfl rfl ?_
                      refine t_getE (pc := 248) (.ref (y + 31)) ht200 (rd_of RX_y) fX12_103 dX12_same_248 rfl ?_
                      refine r_iload_n (pc := 251) dX12_same_251 (i := 3) rfl rfl ?_
                      refine t_ialdX (pc := 252) (t0 := 0) ht200 (rd_of RX_label) dX12_same_252 rfl (by decide) (by omega) (fun b14 => ?_)
                      have rb14 := (show Rfx 16 0 65535 lb200 by assumption) (Int.toNat v183_3) (by omega)
                      refine t_iastX (pc := 253) (t0 := 0) ht200 RX_label dX12_same_253 rfl (by decide) (by omega) (by omega) (fun hp15 ht16 => ?_)
                      have ht17 := RXw_lb ht16
                      have hqht17 : Rfx 16 0 65535 (fup lb200 (Int.toNat v183_3) (lb200 (Int.toNat v183_3))) := Rfx_up (by assumption) (by omega)
                      refine r_iinc (pc := 254) (v := iv (v200_4 - 1)) (lv' := [(4, .int (iv (v200_4 - 1))), (0, .ref y), (2, .int (iv (sz (Int.toNat x1)))), (3, .int (iv v183_3))]) dX12_same_254 rfl ((iv_add _ _).trans (congrArg iv (show v200_4 + (-1) = v200_4 - 1 by omega))) (by decide) rfl ?_
                      refine r_goto (pc := 257) (tgt := 200) dX12_same_257 (by decide) ?_
                      refine Rn.pick (lv' := [(0, .ref y), (2, .int (iv (sz (Int.toNat x1)))), (3, .int (iv v183_3)), (4, .int (iv (v200_4 - 1)))]) [1, 2, 3, 0] rfl ?_
                      exact ih200 (Int.toNat ((v200_4 - 1) - (-1))) (by omega) (fup lb200 (Int.toNat v183_3) (lb200 (Int.toNat v183_3))) _ ht17 (v200_4 - 1) ⟨by omega, by omega, by omega, by assumption, by omega, by (first | (rw [fup_s]; exact lc_0 ⟨rfl, rfl⟩ (by omega)) | (rw [fup_s]; exact lc_y (by assumption) (by omega) ⟨by omega, by omega⟩) | (rw [fup_s]; exact lc_n (by assumption) (by omega) (fun h9 => by have h7 := h9.1; have h8 := h9.2; omega))), by (first | exact exI_up (by assumption) | exact exI_u _ _ _)⟩ (by omega)
                    · refine r_iload (pc := 242) dX12_same_242 rfl ?_
                      refine r_goto (pc := 244) (tgt := 253) dX12_same_244 (by decide) ?_
                      refine t_iastX (pc := 253) (t0 := 0) ht200 RX_label dX12_same_253 rfl (by decide) (by omega) (by omega) (fun hp18 ht19 => ?_)
                      have ht20 := RXw_lb ht19
                      have hqht20 : Rfx 16 0 65535 (fup lb200 (Int.toNat v183_3) v200_4) := Rfx_up (by assumption) (by omega)
                      refine r_iinc (pc := 254) (v := iv (v200_4 - 1)) (lv' := [(4, .int (iv (v200_4 - 1))), (0, .ref y), (2, .int (iv (sz (Int.toNat x1)))), (3, .int (iv v183_3))]) dX12_same_254 rfl ((iv_add _ _).trans (congrArg iv (show v200_4 + (-1) = v200_4 - 1 by omega))) (by decide) rfl ?_
                      refine r_goto (pc := 257) (tgt := 200) dX12_same_257 (by decide) ?_
                      refine Rn.pick (lv' := [(0, .ref y), (2, .int (iv (sz (Int.toNat x1)))), (3, .int (iv v183_3)), (4, .int (iv (v200_4 - 1)))]) [1, 2, 3, 0] rfl ?_
                      exact ih200 (Int.toNat ((v200_4 - 1) - (-1))) (by omega) (fup lb200 (Int.toNat v183_3) v200_4) _ ht20 (v200_4 - 1) ⟨by omega, by omega, by omega, by assumption, by omega, by (first | (rw [fup_s]; exact lc_0 ⟨rfl, rfl⟩ (by omega)) | (rw [fup_s]; exact lc_y (by assumption) (by omega) ⟨by omega, by omega⟩) | (rw [fup_s]; exact lc_n (by assumption) (by omega) (fun h9 => by have h7 := h9.1; have h8 := h9.2; omega))), by (first | exact exI_up (by assumption) | exact exI_u _ _ _)⟩ (by omega)
              refine Rn.pick (lv' := [(0, .ref y), (2, .int (iv (sz (Int.toNat x1)))), (3, .int (iv v183_3)), (4, .int (iv (v183_3 - 1)))]) [1, 2, 3, 0] rfl ?_
              exact B200 (Int.toNat ((v183_3 - 1) - (-1))) (fup lb183 (Int.toNat v183_3) v183_3) _ ht5 (v183_3 - 1) ⟨by omega, by omega, by omega, by assumption, by omega, by (first | (rw [fup_s]; exact lc_0 ⟨rfl, rfl⟩ (by omega)) | (rw [fup_s]; exact lc_y (by assumption) (by omega) ⟨by omega, by omega⟩) | (rw [fup_s]; exact lc_n (by assumption) (by omega) (fun h9 => by have h7 := h9.1; have h8 := h9.2; omega))), by (first | exact exI_up (by assumption) | exact exI_u _ _ _)⟩ (by omega)
          refine Rn.pick (lv' := [(0, .ref y), (2, .int (iv (sz (Int.toNat x1)))), (3, .int (iv 0))]) [1, 3, 0] rfl ?_
          exact B183 (Int.toNat (16 - 0)) lb _ ht36 0 ⟨by omega, by omega, by assumption, by omega, by (first | assumption | (intro u hu; omega) | exact lq_up (u := v200_4) (by assumption) (by omega) (by omega) (by assumption) (by omega) (by assumption))⟩ (by omega)
        · refine r_iload_n (pc := 46) dX12_same_46 (i := 1) rfl rfl ?_
          refine r_iload_n (pc := 47) dX12_same_47 (i := 3) rfl rfl ?_
          refine t_callSI (pc := 48) (as := [.int (iv x1), .int (iv v36_3)]) (st := []) kX12_157 dX12_same_48 (t_X12_at1x (d := d - 1) (x1 := x1) (x2 := v36_3) (by omega)  ht36 (by omega) (by omega)) rfl (by omega) (Nat.le_of_ble_eq_true rfl) rfl (fun hp21 y23 ht22 by23 => ?_)
          have ey23 : y23 = 60 * x1 + v36_3 := by23
          subst ey23
          refine r_istore (pc := 51) (lv' := [(4, .int (iv (60 * x1 + v36_3))), (0, .ref y), (1, .int (iv x1)), (2, .int (iv (sz (Int.toNat x1)))), (3, .int (iv v36_3))]) dX12_same_51 (by decide) rfl ?_
          refine r_aload_n (pc := 53) dX12_same_53 (i := 0) rfl rfl ?_
          refine t_getE (pc := 54) (.ref (y + 5)) ht22 (rd_of RX_y) fX12_23 dX12_same_54 rfl ?_
          refine r_iload (pc := 57) dX12_same_57 rfl ?_
          refine t_ialdX (pc := 59) (t0 := 0) ht22 (rd_of RX_from) dX12_same_59 rfl (by decide) (by omega) (fun b24 => ?_)
          have rb24 := (show Rfx 7260 0 15 fr by assumption) (Int.toNat (60 * x1 + v36_3)) (by omega)
          refine r_aload_n (pc := 60) dX12_same_60 (i := 0) rfl rfl ?_
          refine t_getE (pc := 61) (.ref (y + 6)) ht22 (rd_of RX_y) fX12_26 dX12_same_61 rfl ?_
          refine r_iload (pc := 64) dX12_same_64 rfl ?_
          refine t_ialdX (pc := 66) (t0 := 0) ht22 (rd_of RX_to) dX12_same_66 rfl (by decide) (by omega) (fun b25 => ?_)
          have rb25 := (show Rfx 7260 0 15 tt by assumption) (Int.toNat (60 * x1 + v36_3)) (by omega)
          refine t_icmp_eq (pc := 67) (tgt := 175) dX12_same_67 (by decide) (by omega) (by omega) (fun c67 => ?_) (fun c67 => ?_)
          · refine r_iinc (pc := 175) (v := iv (v36_3 + 1)) (lv' := [(3, .int (iv (v36_3 + 1))), (4, .int (iv (60 * x1 + v36_3))), (0, .ref y), (1, .int (iv x1)), (2, .int (iv (sz (Int.toNat x1))))]) dX12_same_175 rfl (iv_add _ _) (by decide) rfl ?_
            refine r_goto (pc := 178) (tgt := 36) dX12_same_178 (by decide) ?_
            refine Rn.pick (lv' := [(0, .ref y), (1, .int (iv x1)), (2, .int (iv (sz (Int.toNat x1)))), (3, .int (iv (v36_3 + 1)))]) [2, 3, 4, 0] rfl ?_
            exact ih36 (Int.toNat (60 - (v36_3 + 1))) (by omega) os36 js36 _ ht22 (v36_3 + 1) ⟨by omega, by omega, by assumption, by assumption, by omega, by (first | exact sb_0 (by assumption) (by omega) | assumption | exact sb_no (by assumption) (by omega) (by rw [← sh_at fr (60 * x1) (v := v36_3) (by omega), ← sh_at tt (60 * x1) (v := v36_3) (by omega)]; omega)), by (first | exact sb_0 (by assumption) (by omega) | assumption | exact sb_no (by assumption) (by omega) (by rw [← sh_at fr (60 * x1) (v := v36_3) (by omega), ← sh_at tt (60 * x1) (v := v36_3) (by omega)]; omega))⟩ (by omega)
          · refine r_aload_n (pc := 70) dX12_same_70 (i := 0) rfl rfl ?_
            refine t_getE (pc := 71) (.ref (y + 33)) ht22 (rd_of RX_y) fX12_109 dX12_same_71 rfl ?_
            refine r_aload_n (pc := 74) dX12_same_74 (i := 0) rfl rfl ?_
            refine t_getE (pc := 75) (.ref (y + 5)) ht22 (rd_of RX_y) fX12_23 dX12_same_75 rfl ?_
            refine r_iload (pc := 78) dX12_same_78 rfl ?_
            refine t_ialdX (pc := 80) (t0 := 0) ht22 (rd_of RX_from) dX12_same_80 rfl (by decide) (by omega) (fun b26 => ?_)
            have rb26 := (show Rfx 7260 0 15 fr by assumption) (Int.toNat (60 * x1 + v36_3)) (by omega)
            refine r_dup2_11 (pc := 81) dX12_same_81 rfl rfl ?_
            refine t_ialdX (pc := 82) (t0 := 0) ht22 (rd_of RX_outs) dX12_same_82 rfl (by decide) (by omega) (fun b27 => ?_)
            have rb27 := (show Rfx 16 0 65535 os36 by assumption) (Int.toNat (fr (Int.toNat (60 * x1 + v36_3)))) (by omega)
            refine r_iconst (pc := 83) (v := iv 1) dX12_same_83 (by decide) ?_
            refine r_aload_n (pc := 84) dX12_same_84 (i := 0) rfl rfl ?_
            refine t_getE (pc := 85) (.ref (y + 6)) ht22 (rd_of RX_y) fX12_26 dX12_same_85 rfl ?_
            refine r_iload (pc := 88) dX12_same_88 rfl ?_
            refine t_ialdX (pc := 90) (t0 := 0) ht22 (rd_of RX_to) dX12_same_90 rfl (by decide) (by omega) (fun b28 => ?_)
            have rb28 := (show Rfx 7260 0 15 tt by assumption) (Int.toNat (60 * x1 + v36_3)) (by omega)
            refine r_ishl (pc := 91) (v := iv ((2 ^ Int.toNat (tt (Int.toNat (60 * x1 + v36_3))) : Nat) : Int)) dX12_same_91 (shl_e (by omega)) ?_
            have mp91_29 : 1 ≤ 2 ^ Int.toNat (tt (Int.toNat (60 * x1 + v36_3))) := Nat.one_le_two_pow
            have mq91_30 : 2 ^ Int.toNat (tt (Int.toNat (60 * x1 + v36_3))) ≤ 2 ^ 15 := Nat.pow_le_pow_right (by omega) (by omega)
            have ms91 := Me_shl (Int.toNat (tt (Int.toNat (60 * x1 + v36_3))))
            obtain ⟨z31, hz31, bz31⟩ := or_2 16 (os36 (Int.toNat (fr (Int.toNat (60 * x1 + v36_3))))) ((2 ^ Int.toNat (tt (Int.toNat (60 * x1 + v36_3))) : Nat) : Int) (by omega) (by omega) (by decide)
            refine r_ior (pc := 92) (v := iv z31) dX12_same_92 hz31 ?_
            have mez31 := Me_or hz31 (by omega) (by omega) (by omega)
            refine t_iastX (pc := 93) (t0 := 0) ht22 RX_outs dX12_same_93 rfl (by decide) (by omega) (by omega) (fun hp32 ht33 => ?_)
            have ht34 := RXw_os ht33
            have hqht34 : Rfx 16 0 65535 (fup os36 (Int.toNat (fr (Int.toNat (60 * x1 + v36_3)))) z31) := Rfx_up (by assumption) (by omega)
            refine r_aload_n (pc := 94) dX12_same_94 (i := 0) rfl rfl ?_
            refine t_getE (pc := 95) (.ref (y + 34)) ht34 (rd_of RX_y) fX12_112 dX12_same_95 rfl ?_
            refine r_aload_n (pc := 98) dX12_same_98 (i := 0) rfl rfl ?_
            refine t_getE (pc := 99) (.ref (y + 6)) ht34 (rd_of RX_y) fX12_26 dX12_same_99 rfl ?_
            refine r_iload (pc := 102) dX12_same_102 rfl ?_
            refine t_ialdX (pc := 104) (t0 := 0) ht34 (rd_of RX_to) dX12_same_104 rfl (by decide) (by omega) (fun b35 => ?_)
            have rb35 := (show Rfx 7260 0 15 tt by assumption) (Int.toNat (60 * x1 + v36_3)) (by omega)
            refine r_dup2_11 (pc := 105) dX12_same_105 rfl rfl ?_
            refine t_ialdX (pc := 106) (t0 := 0) ht34 (rd_of RX_ins) dX12_same_106 rfl (by decide) (by omega) (fun b36 => ?_)
            have rb36 := (show Rfx 16 0 65535 js36 by assumption) (Int.toNat (tt (Int.toNat (60 * x1 + v36_3)))) (by omega)
            refine r_iconst (pc := 107) (v := iv 1) dX12_same_107 (by decide) ?_
            refine r_aload_n (pc := 108) dX12_same_108 (i := 0) rfl rfl ?_
            refine t_getE (pc := 109) (.ref (y + 5)) ht34 (rd_of RX_y) fX12_23 dX12_same_109 rfl ?_
            refine r_iload (pc := 112) dX12_same_112 rfl ?_
            refine t_ialdX (pc := 114) (t0 := 0) ht34 (rd_of RX_from) dX12_same_114 rfl (by decide) (by omega) (fun b37 => ?_)
            have rb37 := (show Rfx 7260 0 15 fr by assumption) (Int.toNat (60 * x1 + v36_3)) (by omega)
            refine r_ishl (pc := 115) (v := iv ((2 ^ Int.toNat (fr (Int.toNat (60 * x1 + v36_3))) : Nat) : Int)) dX12_same_115 (shl_e (by omega)) ?_
            have mp115_38 : 1 ≤ 2 ^ Int.toNat (fr (Int.toNat (60 * x1 + v36_3))) := Nat.one_le_two_pow
            have mq115_39 : 2 ^ Int.toNat (fr (Int.toNat (60 * x1 + v36_3))) ≤ 2 ^ 15 := Nat.pow_le_pow_right (by omega) (by omega)
            have ms115 := Me_shl (Int.toNat (fr (Int.toNat (60 * x1 + v36_3))))
            obtain ⟨z40, hz40, bz40⟩ := or_2 16 (js36 (Int.toNat (tt (Int.toNat (60 * x1 + v36_3))))) ((2 ^ Int.toNat (fr (Int.toNat (60 * x1 + v36_3))) : Nat) : Int) (by omega) (by omega) (by decide)
            refine r_ior (pc := 116) (v := iv z40) dX12_same_116 hz40 ?_
            have mez40 := Me_or hz40 (by omega) (by omega) (by omega)
            refine t_iastX (pc := 117) (t0 := 0) ht34 RX_ins dX12_same_117 rfl (by decide) (by omega) (by omega) (fun hp41 ht42 => ?_)
            have ht43 := RXw_js ht42
            have hqht43 : Rfx 16 0 65535 (fup js36 (Int.toNat (tt (Int.toNat (60 * x1 + v36_3)))) z40) := Rfx_up (by assumption) (by omega)
            refine r_aload_n (pc := 118) dX12_same_118 (i := 0) rfl rfl ?_
            refine t_getE (pc := 119) (.ref (y + 3)) ht43 (rd_of RX_y) fX12_16 dX12_same_119 rfl ?_
            refine r_iload_n (pc := 122) dX12_same_122 (i := 1) rfl rfl ?_
            refine t_zaldX (pc := 123) (t0 := 2) ht43 (rd_of RX_directs) dX12_same_123 rfl (by decide) (by omega) (fun b44 => ?_)
            have rb44 := (show Rfx 121 0 1 dr by assumption) (Int.toNat x1) (by omega)
            refine t_if_ne (pc := 124) (tgt := 175) dX12_same_124 (by decide) (by omega) (fun c124 => ?_) (fun c124 => ?_)
            · have hso : sbP (fup os36 (Int.toNat (fr (Int.toNat (60 * x1 + v36_3)))) z31) (Int.toNat (v36_3 + 1)) (dr (Int.toNat x1)) (sh fr (60 * x1)) (sh tt (60 * x1)) (sz (Int.toNat x1)) := sb_up1 (k := v36_3) (a := (fr (Int.toNat (60 * x1 + v36_3)))) (b := (tt (Int.toNat (60 * x1 + v36_3)))) (by assumption) (by omega) (sh_at fr (60 * x1) (v := v36_3) (by omega)) (sh_at tt (60 * x1) (v := v36_3) (by omega)) (by omega) (by omega) (by omega) (by omega) mez31 ms91
              have hsj : sbP (fup js36 (Int.toNat (tt (Int.toNat (60 * x1 + v36_3)))) z40) (Int.toNat (v36_3 + 1)) (dr (Int.toNat x1)) (sh tt (60 * x1)) (sh fr (60 * x1)) (sz (Int.toNat x1)) := sb_up1 (k := v36_3) (a := (tt (Int.toNat (60 * x1 + v36_3)))) (b := (fr (Int.toNat (60 * x1 + v36_3)))) (by assumption) (by omega) (sh_at tt (60 * x1) (v := v36_3) (by omega)) (sh_at fr (60 * x1) (v := v36_3) (by omega)) (by omega) (by omega) (by omega) (by omega) mez40 ms115
              refine r_iinc (pc := 175) (v := iv (v36_3 + 1)) (lv' := [(3, .int (iv (v36_3 + 1))), (4, .int (iv (60 * x1 + v36_3))), (0, .ref y), (1, .int (iv x1)), (2, .int (iv (sz (Int.toNat x1))))]) dX12_same_175 rfl (iv_add _ _) (by decide) rfl ?_
              refine r_goto (pc := 178) (tgt := 36) dX12_same_178 (by decide) ?_
              refine Rn.pick (lv' := [(0, .ref y), (1, .int (iv x1)), (2, .int (iv (sz (Int.toNat x1)))), (3, .int (iv (v36_3 + 1)))]) [2, 3, 4, 0] rfl ?_
              exact ih36 (Int.toNat (60 - (v36_3 + 1))) (by omega) (fup os36 (Int.toNat (fr (Int.toNat (60 * x1 + v36_3)))) z31) (fup js36 (Int.toNat (tt (Int.toNat (60 * x1 + v36_3)))) z40) _ ht43 (v36_3 + 1) ⟨by omega, by omega, by assumption, by assumption, by omega, by (first | exact sb_0 (by assumption) (by omega) | assumption | exact sb_no (by assumption) (by omega) (by rw [← sh_at fr (60 * x1) (v := v36_3) (by omega), ← sh_at tt (60 * x1) (v := v36_3) (by omega)]; omega)), by (first | exact sb_0 (by assumption) (by omega) | assumption | exact sb_no (by assumption) (by omega) (by rw [← sh_at fr (60 * x1) (v := v36_3) (by omega), ← sh_at tt (60 * x1) (v := v36_3) (by omega)]; omega))⟩ (by omega)
            · refine r_aload_n (pc := 127) dX12_same_127 (i := 0) rfl rfl ?_
              refine t_getE (pc := 128) (.ref (y + 33)) ht43 (rd_of RX_y) fX12_109 dX12_same_128 rfl ?_
              refine r_aload_n (pc := 131) dX12_same_131 (i := 0) rfl rfl ?_
              refine t_getE (pc := 132) (.ref (y + 6)) ht43 (rd_of RX_y) fX12_26 dX12_same_132 rfl ?_
              refine r_iload (pc := 135) dX12_same_135 rfl ?_
              refine t_ialdX (pc := 137) (t0 := 0) ht43 (rd_of RX_to) dX12_same_137 rfl (by decide) (by omega) (fun b45 => ?_)
              have rb45 := (show Rfx 7260 0 15 tt by assumption) (Int.toNat (60 * x1 + v36_3)) (by omega)
              refine r_dup2_11 (pc := 138) dX12_same_138 rfl rfl ?_
              refine t_ialdX (pc := 139) (t0 := 0) ht43 (rd_of RX_outs) dX12_same_139 rfl (by decide) (by omega) (fun b46 => ?_)
              have rb46 := (show Rfx 16 0 65535 (fup os36 (Int.toNat (fr (Int.toNat (60 * x1 + v36_3)))) z31) by assumption) (Int.toNat (tt (Int.toNat (60 * x1 + v36_3)))) (by omega)
              refine r_iconst (pc := 140) (v := iv 1) dX12_same_140 (by decide) ?_
              refine r_aload_n (pc := 141) dX12_same_141 (i := 0) rfl rfl ?_
              refine t_getE (pc := 142) (.ref (y + 5)) ht43 (rd_of RX_y) fX12_23 dX12_same_142 rfl ?_
              refine r_iload (pc := 145) dX12_same_145 rfl ?_
              refine t_ialdX (pc := 147) (t0 := 0) ht43 (rd_of RX_from) dX12_same_147 rfl (by decide) (by omega) (fun b47 => ?_)
              have rb47 := (show Rfx 7260 0 15 fr by assumption) (Int.toNat (60 * x1 + v36_3)) (by omega)
              refine r_ishl (pc := 148) (v := iv ((2 ^ Int.toNat (fr (Int.toNat (60 * x1 + v36_3))) : Nat) : Int)) dX12_same_148 (shl_e (by omega)) ?_
              have mp148_48 : 1 ≤ 2 ^ Int.toNat (fr (Int.toNat (60 * x1 + v36_3))) := Nat.one_le_two_pow
              have mq148_49 : 2 ^ Int.toNat (fr (Int.toNat (60 * x1 + v36_3))) ≤ 2 ^ 15 := Nat.pow_le_pow_right (by omega) (by omega)
              have ms148 := Me_shl (Int.toNat (fr (Int.toNat (60 * x1 + v36_3))))
              obtain ⟨z50, hz50, bz50⟩ := or_2 16 ((fup os36 (Int.toNat (fr (Int.toNat (60 * x1 + v36_3)))) z31) (Int.toNat (tt (Int.toNat (60 * x1 + v36_3))))) ((2 ^ Int.toNat (fr (Int.toNat (60 * x1 + v36_3))) : Nat) : Int) (by omega) (by omega) (by decide)
              refine r_ior (pc := 149) (v := iv z50) dX12_same_149 hz50 ?_
              have mez50 := Me_or hz50 (by omega) (by omega) (by omega)
              refine t_iastX (pc := 150) (t0 := 0) ht43 RX_outs dX12_same_150 rfl (by decide) (by omega) (by omega) (fun hp51 ht52 => ?_)
              have ht53 := RXw_os ht52
              have hqht53 : Rfx 16 0 65535 (fup (fup os36 (Int.toNat (fr (Int.toNat (60 * x1 + v36_3)))) z31) (Int.toNat (tt (Int.toNat (60 * x1 + v36_3)))) z50) := Rfx_up (by assumption) (by omega)
              refine r_aload_n (pc := 151) dX12_same_151 (i := 0) rfl rfl ?_
              refine t_getE (pc := 152) (.ref (y + 34)) ht53 (rd_of RX_y) fX12_112 dX12_same_152 rfl ?_
              refine r_aload_n (pc := 155) dX12_same_155 (i := 0) rfl rfl ?_
              refine t_getE (pc := 156) (.ref (y + 5)) ht53 (rd_of RX_y) fX12_23 dX12_same_156 rfl ?_
              refine r_iload (pc := 159) dX12_same_159 rfl ?_
              refine t_ialdX (pc := 161) (t0 := 0) ht53 (rd_of RX_from) dX12_same_161 rfl (by decide) (by omega) (fun b54 => ?_)
              have rb54 := (show Rfx 7260 0 15 fr by assumption) (Int.toNat (60 * x1 + v36_3)) (by omega)
              refine r_dup2_11 (pc := 162) dX12_same_162 rfl rfl ?_
              refine t_ialdX (pc := 163) (t0 := 0) ht53 (rd_of RX_ins) dX12_same_163 rfl (by decide) (by omega) (fun b55 => ?_)
              have rb55 := (show Rfx 16 0 65535 (fup js36 (Int.toNat (tt (Int.toNat (60 * x1 + v36_3)))) z40) by assumption) (Int.toNat (fr (Int.toNat (60 * x1 + v36_3)))) (by omega)
              refine r_iconst (pc := 164) (v := iv 1) dX12_same_164 (by decide) ?_
              refine r_aload_n (pc := 165) dX12_same_165 (i := 0) rfl rfl ?_
              refine t_getE (pc := 166) (.ref (y + 6)) ht53 (rd_of RX_y) fX12_26 dX12_same_166 rfl ?_
              refine r_iload (pc := 169) dX12_same_169 rfl ?_
              refine t_ialdX (pc := 171) (t0 := 0) ht53 (rd_of RX_to) dX12_same_171 rfl (by decide) (by omega) (fun b56 => ?_)
              have rb56 := (show Rfx 7260 0 15 tt by assumption) (Int.toNat (60 * x1 + v36_3)) (by omega)
              refine r_ishl (pc := 172) (v := iv ((2 ^ Int.toNat (tt (Int.toNat (60 * x1 + v36_3))) : Nat) : Int)) dX12_same_172 (shl_e (by omega)) ?_
              have mp172_57 : 1 ≤ 2 ^ Int.toNat (tt (Int.toNat (60 * x1 + v36_3))) := Nat.one_le_two_pow
              have mq172_58 : 2 ^ Int.toNat (tt (Int.toNat (60 * x1 + v36_3))) ≤ 2 ^ 15 := Nat.pow_le_pow_right (by omega) (by omega)
              have ms172 := Me_shl (Int.toNat (tt (Int.toNat (60 * x1 + v36_3))))
              obtain ⟨z59, hz59, bz59⟩ := or_2 16 ((fup js36 (Int.toNat (tt (Int.toNat (60 * x1 + v36_3)))) z40) (Int.toNat (fr (Int.toNat (60 * x1 + v36_3))))) ((2 ^ Int.toNat (tt (Int.toNat (60 * x1 + v36_3))) : Nat) : Int) (by omega) (by omega) (by decide)
              refine r_ior (pc := 173) (v := iv z59) dX12_same_173 hz59 ?_
              have mez59 := Me_or hz59 (by omega) (by omega) (by omega)
              refine t_iastX (pc := 174) (t0 := 0) ht53 RX_ins dX12_same_174 rfl (by decide) (by omega) (by omega) (fun hp60 ht61 => ?_)
              have ht62 := RXw_js ht61
              have hqht62 : Rfx 16 0 65535 (fup (fup js36 (Int.toNat (tt (Int.toNat (60 * x1 + v36_3)))) z40) (Int.toNat (fr (Int.toNat (60 * x1 + v36_3)))) z59) := Rfx_up (by assumption) (by omega)
              have hso : sbP (fup (fup os36 (Int.toNat (fr (Int.toNat (60 * x1 + v36_3)))) z31) (Int.toNat (tt (Int.toNat (60 * x1 + v36_3)))) z50) (Int.toNat (v36_3 + 1)) (dr (Int.toNat x1)) (sh fr (60 * x1)) (sh tt (60 * x1)) (sz (Int.toNat x1)) := sb_up2 (k := v36_3) (a := (fr (Int.toNat (60 * x1 + v36_3)))) (b := (tt (Int.toNat (60 * x1 + v36_3)))) (by assumption) (by omega) (sh_at fr (60 * x1) (v := v36_3) (by omega)) (sh_at tt (60 * x1) (v := v36_3) (by omega)) (by omega) (by omega) (by omega) (by omega) mez31 ms91 mez50 ms148
              have hsj : sbP (fup (fup js36 (Int.toNat (tt (Int.toNat (60 * x1 + v36_3)))) z40) (Int.toNat (fr (Int.toNat (60 * x1 + v36_3)))) z59) (Int.toNat (v36_3 + 1)) (dr (Int.toNat x1)) (sh tt (60 * x1)) (sh fr (60 * x1)) (sz (Int.toNat x1)) := sb_up2 (k := v36_3) (a := (tt (Int.toNat (60 * x1 + v36_3)))) (b := (fr (Int.toNat (60 * x1 + v36_3)))) (by assumption) (by omega) (sh_at tt (60 * x1) (v := v36_3) (by omega)) (sh_at fr (60 * x1) (v := v36_3) (by omega)) (by omega) (by omega) (by omega) (by omega) mez40 ms115 mez59 ms172
              refine r_iinc (pc := 175) (v := iv (v36_3 + 1)) (lv' := [(3, .int (iv (v36_3 + 1))), (4, .int (iv (60 * x1 + v36_3))), (0, .ref y), (1, .int (iv x1)), (2, .int (iv (sz (Int.toNat x1))))]) dX12_same_175 rfl (iv_add _ _) (by decide) rfl ?_
              refine r_goto (pc := 178) (tgt := 36) dX12_same_178 (by decide) ?_
              refine Rn.pick (lv' := [(0, .ref y), (1, .int (iv x1)), (2, .int (iv (sz (Int.toNat x1)))), (3, .int (iv (v36_3 + 1)))]) [2, 3, 4, 0] rfl ?_
              exact ih36 (Int.toNat (60 - (v36_3 + 1))) (by omega) (fup (fup os36 (Int.toNat (fr (Int.toNat (60 * x1 + v36_3)))) z31) (Int.toNat (tt (Int.toNat (60 * x1 + v36_3)))) z50) (fup (fup js36 (Int.toNat (tt (Int.toNat (60 * x1 + v36_3)))) z40) (Int.toNat (fr (Int.toNat (60 * x1 + v36_3)))) z59) _ ht62 (v36_3 + 1) ⟨by omega, by omega, by assumption, by assumption, by omega, by (first | exact sb_0 (by assumption) (by omega) | assumption | exact sb_no (by assumption) (by omega) (by rw [← sh_at fr (60 * x1) (v := v36_3) (by omega), ← sh_at tt (60 * x1) (v := v36_3) (by omega)]; omega)), by (first | exact sb_0 (by assumption) (by omega) | assumption | exact sb_no (by assumption) (by omega) (by rw [← sh_at fr (60 * x1) (v := v36_3) (by omega), ← sh_at tt (60 * x1) (v := v36_3) (by omega)]; omega))⟩ (by omega)
      refine Rn.pick (lv' := [(0, .ref y), (1, .int (iv x1)), (2, .int (iv (sz (Int.toNat x1)))), (3, .int (iv 0))]) [1, 2, 3, 0] rfl ?_
      exact B36 (Int.toNat (60 - 0)) os9 js9 _ ht9 0 ⟨by omega, by omega, by assumption, by assumption, by omega, by (first | exact sb_0 (by assumption) (by omega) | assumption | exact sb_no (by assumption) (by omega) (by rw [← sh_at fr (60 * x1) (v := v36_3) (by omega), ← sh_at tt (60 * x1) (v := v36_3) (by omega)]; omega)), by (first | exact sb_0 (by assumption) (by omega) | assumption | exact sb_no (by assumption) (by omega) (by rw [← sh_at fr (60 * x1) (v := v36_3) (by omega), ← sh_at tt (60 * x1) (v := v36_3) (by omega)]; omega))⟩ (by omega)
    · refine r_aload_n (pc := 14) dX12_same_14 (i := 0) rfl rfl ?_
      refine t_getE (pc := 15) (.ref (y + 33)) ht9 (rd_of RX_y) fX12_109 dX12_same_15 rfl ?_
      refine r_iload_n (pc := 18) dX12_same_18 (i := 3) rfl rfl ?_
      refine r_iconst (pc := 19) (v := iv 0) dX12_same_19 (by decide) ?_
      refine t_iastX (pc := 20) (t0 := 0) ht9 RX_outs dX12_same_20 rfl (by decide) (by omega) (by omega) (fun hp63 ht64 => ?_)
      have ht65 := RXw_os ht64
      have hqht65 : Rfx 16 0 65535 (fup os9 (Int.toNat v9_3) 0) := Rfx_up (by assumption) (by omega)
      refine r_aload_n (pc := 21) dX12_same_21 (i := 0) rfl rfl ?_
      refine t_getE (pc := 22) (.ref (y + 34)) ht65 (rd_of RX_y) fX12_112 dX12_same_22 rfl ?_
      refine r_iload_n (pc := 25) dX12_same_25 (i := 3) rfl rfl ?_
      refine r_iconst (pc := 26) (v := iv 0) dX12_same_26 (by decide) ?_
      refine t_iastX (pc := 27) (t0 := 0) ht65 RX_ins dX12_same_27 rfl (by decide) (by omega) (by omega) (fun hp66 ht67 => ?_)
      have ht68 := RXw_js ht67
      have hqht68 : Rfx 16 0 65535 (fup js9 (Int.toNat v9_3) 0) := Rfx_up (by assumption) (by omega)
      refine r_iinc (pc := 28) (v := iv (v9_3 + 1)) (lv' := [(3, .int (iv (v9_3 + 1))), (0, .ref y), (1, .int (iv x1)), (2, .int (iv (sz (Int.toNat x1))))]) dX12_same_28 rfl (iv_add _ _) (by decide) rfl ?_
      refine r_goto (pc := 31) (tgt := 9) dX12_same_31 (by decide) ?_
      refine Rn.pick (lv' := [(0, .ref y), (1, .int (iv x1)), (2, .int (iv (sz (Int.toNat x1)))), (3, .int (iv (v9_3 + 1)))]) [1, 2, 3, 0] rfl ?_
      exact ih9 (Int.toNat (16 - (v9_3 + 1))) (by omega) (fup os9 (Int.toNat v9_3) 0) (fup js9 (Int.toNat v9_3) 0) _ ht68 (v9_3 + 1) ⟨by omega, by omega, by assumption, by assumption, by omega, by (first | (intro u hu; omega) | exact fup_c (by assumption) (by omega)), by (first | (intro u hu; omega) | exact fup_c (by assumption) (by omega))⟩ (by omega)
  refine Rn.pick (lv' := [(0, .ref y), (1, .int (iv x1)), (2, .int (iv (sz (Int.toNat x1)))), (3, .int (iv 0))]) [2, 3, 1, 0] rfl ?_
  exact B9 (Int.toNat (16 - 0)) os js _ ht 0 ⟨by omega, by omega, by assumption, by assumption, by omega, by (first | (intro u hu; omega) | exact fup_c (by assumption) (by omega)), by (first | (intro u hu; omega) | exact fup_c (by assumption) (by omega))⟩ (by omega)
set_option maxHeartbeats 4000000 in
set_option maxRecDepth 100000 in
theorem x_X12_madeParts {D : va_G} {cI cJ cZ cT : ClassId} {lo b L : Nat} {xs : Nat → Int32} {hp : MH} {n d : Nat} {Γ : TG} {y : Nat} {rf cn nm : Int} {so sz dr mn fr tt wt co : Nat → Int} {nu : Nat → Int64} {sa : Nat → Int} {wo : Nat → Int64} {ln : Nat → Int} {hw : Nat → Int64} {ro qi qc nf nt nw nc : Nat → Int} {cl nx : Nat → Int64} {ie be sd bl : Nat → Int} {bs wy ra rb : Nat → Int64} {lb bg os js ls : Nat → Int} {sp : Nat → Int64} {jw go : Nat → Int} {de : Nat → Int64} {yb ah im : Nat → Int} {x1 : Int} {Po9 : Option Value → MH → Nat → Prop} (hd0 : 2 ≤ d) (hcn : 0 ≤ cn ∧ cn ≤ 120) (hR_sorts : Rfx 121 0 4 so) (hrf : -2147483648 ≤ rf ∧ rf ≤ 2147483647) (hR_sizes : Rfx 121 0 16 sz) (hR_inPart : Rfx 1936 0 15 qi) (hR_partCount : Rfx 121 0 16 qc) (ht : Tw (RX Γ cI cJ cZ y rf cn nm so sz dr mn fr tt wt co nu sa wo ln hw ro qi qc nf nt nw nc cl nx ie be sd bl bs wy ra rb lb bg os js ls sp jw go de yb ah im) hp) (hx1 : 1 ≤ x1 ∧ x1 ≤ 16) (hPo : ∀ r hp1 n1, (n1 = n ∧ ∃ (h : Int) (v : Int) (c1 : Int) (s1 : Nat → Int) (z1 : Nat → Int) (i1 : Nat → Int) (p1 : Nat → Int), Tw (RX Γ cI cJ cZ y v c1 nm s1 z1 dr mn fr tt wt co nu sa wo ln hw ro i1 p1 nf nt nw nc cl nx ie be sd bl bs wy ra rb lb bg os js ls sp jw go de yb ah im) hp1 ∧ r = some (.int (iv h)) ∧ (cn = 120 → h = -4 ∧ v = -4 ∧ c1 = cn) ∧ (cn = 120 → s1 = so ∧ z1 = sz ∧ i1 = qi ∧ p1 = qc) ∧ (cn < 120 → h = cn ∧ v = rf ∧ c1 = cn + 1) ∧ (cn < 120 → s1 = fup so (Int.toNat cn) 4 ∧ z1 = fup sz (Int.toNat cn) x1) ∧ (Rfx 1936 0 15 i1) ∧ (Rfx 121 0 16 p1) ∧ (cn < 120 → fqP i1 qi cn ∧ pqP i1 cn x1 (p1 (Int.toNat cn)) ∧ ∀ g : Nat, g ≠ Int.toNat cn → p1 g = qc g) ∧ (cn < 120 → nuP2 (fun a b => lb a = lb b) (sh i1 (16 * cn)) (Int.toNat x1) ∧ p1 (Int.toNat cn) = (cnP (fsP (fun a b => lb a = lb b)) (Int.toNat x1) : Int))) → Po9 r hp1 n1) : Mt (gG D cI cJ cZ cT lo b L xs) mX12_madeParts d 0 0 [.ref y, .int (iv x1)] hp n Po9 := by
  refine Mt.of rfl (Nat.le_of_ble_eq_true rfl) ?_
  refine Rn.pick (lv' := [(0, .ref y), (1, .int (iv x1))]) [0, 1] rfl ?_
  refine r_aload_n (pc := 0) dX12_madeParts_0 (i := 0) rfl rfl ?_
  refine r_iconst (pc := 1) (v := iv 4) dX12_madeParts_1 (by decide) ?_
  obtain ⟨fs5, hfs5⟩ := t_obj ht (rd_of RX_y)
  refine r_callV (pc := 2) (as := [.int (iv 4)]) (st := []) kX12_168 rfl dX12_madeParts_2 hfs5 (x_X12_keep (d := d - 1) (x1 := 4) (by omega) (by omega) (by assumption) (by omega) ht (by omega) (fun _ _ _ h => h)) rfl (by omega) (Nat.le_of_ble_eq_true rfl) (Nat.zero_le _) (Nat.zero_le _) rfl (fun r2 hp1 n3 hq4 => ?_)
  obtain ⟨hnn3, v_7, c1_8, s1_9, h_10, ht6, hrr2, hhq40, hhq41, hhq42, hhq43⟩ := hq4
  subst n3 r2
  have hhq40 : -4 ≤ h_10 ∧ h_10 ≤ 119 ∧ 0 ≤ c1_8 ∧ c1_8 ≤ 120 ∧ -2147483648 ≤ v_7 ∧ v_7 ≤ 2147483647 := hhq40
  have hhq41 : (cn = 120 ∧ h_10 = -4 ∧ v_7 = -4 ∧ c1_8 = cn) ∨ (cn < 120 ∧ h_10 = cn ∧ v_7 = rf ∧ c1_8 = cn + 1) := hhq41
  have hhq42 : cn = 120 → s1_9 = so := hhq42
  have hhq43 : cn < 120 → s1_9 = fup so (Int.toNat cn) 4 := hhq43
  change Rn _ _ _ 5 _ [.int (iv h_10)] _ _ _ _ _
  refine r_istore_n (pc := 5) (lv' := [(2, .int (iv h_10)), (0, .ref y), (1, .int (iv x1))]) dX12_madeParts_5 (i := 2) rfl (by decide) rfl ?_
  refine r_iload_n (pc := 6) dX12_madeParts_6 (i := 2) rfl rfl ?_
  refine t_if_ge (pc := 7) (tgt := 12) dX12_madeParts_7 (by decide) (by omega) (fun c7 => ?_) (fun c7 => ?_)
  · have ek : cn < 120 ∧ h_10 = cn ∧ v_7 = rf ∧ c1_8 = cn + 1 := by omega
    have es : s1_9 = fup so (Int.toNat cn) 4 := hhq43 (by omega)
    rw [ek.2.2.1, ek.2.2.2, es] at ht6
    have hRso : Rfx 121 0 4 (fup so (Int.toNat cn) 4) := Rfx_up (by assumption) (by omega)
    refine r_aload_n (pc := 12) dX12_madeParts_12 (i := 0) rfl rfl ?_
    refine t_getE (pc := 13) (.ref (y + 2)) ht6 (rd_of RX_y) fX12_13 dX12_madeParts_13 rfl ?_
    refine r_iload_n (pc := 16) dX12_madeParts_16 (i := 2) rfl rfl ?_
    refine r_iload_n (pc := 17) dX12_madeParts_17 (i := 1) rfl rfl ?_
    refine t_iastX (pc := 18) (t0 := 0) ht6 RX_sizes dX12_madeParts_18 rfl (by decide) (by omega) (by omega) (fun hp11 ht12 => ?_)
    have ht13 := RXw_sz ht12
    have hqht13 : Rfx 121 0 16 (fup sz (Int.toNat h_10) x1) := Rfx_up (by assumption) (by omega)
    refine r_iconst (pc := 19) (v := iv 0) dX12_madeParts_19 (by decide) ?_
    refine r_istore_n (pc := 20) (lv' := [(3, .int (iv 0)), (2, .int (iv h_10)), (0, .ref y), (1, .int (iv x1))]) dX12_madeParts_20 (i := 3) rfl (by decide) rfl ?_
    refine r_iconst (pc := 21) (v := iv 0) dX12_madeParts_21 (by decide) ?_
    refine r_istore (pc := 22) (lv' := [(4, .int (iv 0)), (3, .int (iv 0)), (2, .int (iv h_10)), (0, .ref y), (1, .int (iv x1))]) dX12_madeParts_22 (by decide) rfl ?_
    have hpq0 := pq_0 qi h_10 0
    have hfq0 : fqP qi qi h_10 := fun _ _ => rfl
    have B24 : ∀ k : Nat, ∀ qi24 : Nat → Int, ∀ hp24 : MH, Tw (RX Γ cI cJ cZ y rf (cn + 1) nm (fup so (Int.toNat cn) 4) (fup sz (Int.toNat h_10) x1) dr mn fr tt wt co nu sa wo ln hw ro qi24 qc nf nt nw nc cl nx ie be sd bl bs wy ra rb lb bg os js ls sp jw go de yb ah im) hp24 → ∀  (v24_3 : Int) (v24_4 : Int), 0 ≤ v24_3 ∧ v24_3 ≤ 16 ∧ 0 ≤ v24_4 ∧ v24_4 ≤ 16 ∧ (Rfx 1936 0 15 qi24) ∧ (v24_3 ≤ v24_4) ∧ (v24_4 ≤ x1) ∧ (pqP qi24 h_10 v24_4 v24_3) ∧ (fqP qi24 qi h_10) ∧ (nuP2 (fun a b => lb a = lb b) (sh qi24 (16 * h_10)) (Int.toNat v24_4)) ∧ (v24_3 = (cnP (fsP (fun a b => lb a = lb b)) (Int.toNat v24_4) : Int)) → 16 - v24_4 ≤ (k : Int) → Rn (gG D cI cJ cZ cT lo b L xs) mX12_madeParts d 24 [(0, .ref y), (1, .int (iv x1)), (2, .int (iv h_10)), (3, .int (iv v24_3)), (4, .int (iv v24_4))] [] hp24 n 0 0 Po9 := by
      refine lpS _ ?_
      intro k24 ih24 qi24 hp24 ht24 v24_3 v24_4 hf24 hm24
      obtain ⟨hf24_0, hf24_1, hf24_2, hf24_3, ha24_4, hf24_5, hf24_6, ha24_7, ha24_8, ha24_9, ha24_10⟩ := hf24
      refine r_iload (pc := 24) dX12_madeParts_24 rfl ?_
      refine r_iload_n (pc := 26) dX12_madeParts_26 (i := 1) rfl rfl ?_
      refine t_icmp_ge (pc := 27) (tgt := 131) dX12_madeParts_27 (by decide) (by omega) (by omega) (fun c27 => ?_) (fun c27 => ?_)
      · refine r_aload_n (pc := 131) dX12_madeParts_131 (i := 0) rfl rfl ?_
        refine t_getE (pc := 132) (.ref (y + 16)) ht24 (rd_of RX_y) fX12_57 dX12_madeParts_132 rfl ?_
        refine r_iload_n (pc := 135) dX12_madeParts_135 (i := 2) rfl rfl ?_
        refine r_iload_n (pc := 136) dX12_madeParts_136 (i := 3) rfl rfl ?_
        refine t_iastX (pc := 137) (t0 := 0) ht24 RX_partCount dX12_madeParts_137 rfl (by decide) (by omega) (by omega) (fun hp14 ht15 => ?_)
        have ht16 := RXw_qc ht15
        have hqht16 : Rfx 121 0 16 (fup qc (Int.toNat h_10) v24_3) := Rfx_up (by assumption) (by omega)
        refine r_iload_n (pc := 138) dX12_madeParts_138 (i := 2) rfl rfl ?_
        exact r_iret (pc := 139) dX12_madeParts_139 rfl (hPo _ _ _ ⟨rfl, h_10, rf, (cn + 1), (fup so (Int.toNat cn) 4), (fup sz (Int.toNat h_10) x1), qi24, (fup qc (Int.toNat h_10) v24_3), ht16, rfl, (by omega), (by (first | (intro h9; exfalso; omega) | (intro _; exact ⟨rfl, rfl, rfl, rfl⟩))), (by omega), (by (first | (intro h9; exfalso; omega) | (intro h9; have e1 : h_10 = cn := (by omega); exact ⟨rfl, by rw [e1]⟩))), (by assumption), (by assumption), (by (intro h9; have e1 : cn = h_10 := (by omega); have e2 : v24_4 = x1 := (by omega); rw [e1, ← e2]; exact ⟨by assumption, by rw [fup_s]; assumption, fun g hg => by rw [fup_o _ _ hg]⟩)), (by (intro h9; have e1 : h_10 = cn := (by omega); have e2 : v24_4 = x1 := (by omega); rw [← e1, ← e2]; exact ⟨by assumption, by rw [fup_s]; assumption⟩))⟩)
      · refine r_iconst (pc := 30) (v := iv (-1)) dX12_madeParts_30 (by decide) ?_
        refine r_istore (pc := 31) (lv' := [(5, .int (iv (-1))), (0, .ref y), (1, .int (iv x1)), (2, .int (iv h_10)), (3, .int (iv v24_3)), (4, .int (iv v24_4))]) dX12_madeParts_31 (by decide) rfl ?_
        refine r_iconst (pc := 33) (v := iv 0) dX12_madeParts_33 (by decide) ?_
        refine r_istore (pc := 34) (lv' := [(6, .int (iv 0)), (5, .int (iv (-1))), (0, .ref y), (1, .int (iv x1)), (2, .int (iv h_10)), (3, .int (iv v24_3)), (4, .int (iv v24_4))]) dX12_madeParts_34 (by decide) rfl ?_
        have B36 : ∀ k : Nat, ∀ hp36 : MH, Tw (RX Γ cI cJ cZ y rf (cn + 1) nm (fup so (Int.toNat cn) 4) (fup sz (Int.toNat h_10) x1) dr mn fr tt wt co nu sa wo ln hw ro qi24 qc nf nt nw nc cl nx ie be sd bl bs wy ra rb lb bg os js ls sp jw go de yb ah im) hp36 → ∀  (v36_5 : Int) (v36_6 : Int), (-1) ≤ v36_5 ∧ v36_5 ≤ 15 ∧ 0 ≤ v36_6 ∧ v36_6 ≤ 15 ∧ (v36_5 < v24_3 ∨ v36_5 < 0) ∧ (v36_6 ≤ v24_4) ∧ (mpQ lb qi24 h_10 v24_4 v36_5 v36_6) → 15 - v36_6 ≤ (k : Int) → Rn (gG D cI cJ cZ cT lo b L xs) mX12_madeParts d 36 [(0, .ref y), (1, .int (iv x1)), (2, .int (iv h_10)), (3, .int (iv v24_3)), (4, .int (iv v24_4)), (5, .int (iv v36_5)), (6, .int (iv v36_6))] [] hp36 n 0 0 Po9 := by
          refine lpS _ ?_
          intro k36 ih36 hp36 ht36 v36_5 v36_6 hf36 hm36
          obtain ⟨hf36_0, hf36_1, hf36_2, hf36_3, hf36_4, hf36_5, ha36_6⟩ := hf36
          refine r_iload (pc := 36) dX12_madeParts_36 rfl ?_
          refine r_iload (pc := 38) dX12_madeParts_38 rfl ?_
          refine t_icmp_ge (pc := 40) (tgt := 89) dX12_madeParts_40 (by decide) (by omega) (by omega) (fun c40 => ?_) (fun c40 => ?_)
          · refine r_aload_n (pc := 89) dX12_madeParts_89 (i := 0) rfl rfl ?_
            refine t_getE (pc := 90) (.ref (y + 15)) ht36 (rd_of RX_y) fX12_54 dX12_madeParts_90 rfl ?_
            refine r_bipush (pc := 93) (v := iv 16) dX12_madeParts_93 (by decide) ?_
            refine r_iload_n (pc := 95) dX12_madeParts_95 (i := 2) rfl rfl ?_
            refine r_imul (pc := 96) (v := iv (16 * h_10)) dX12_madeParts_96 (iv_mul _ _) ?_
            refine r_iload (pc := 97) dX12_madeParts_97 rfl ?_
            refine r_iadd (pc := 99) (v := iv ((16 * h_10) + v24_4)) dX12_madeParts_99 (iv_add _ _) ?_
            refine r_iload (pc := 100) dX12_madeParts_100 rfl ?_
            refine t_if_ge (pc := 102) (tgt := 109) dX12_madeParts_102 (by decide) (by omega) (fun c102 => ?_) (fun c102 => ?_)
            · refine r_iload (pc := 109) dX12_madeParts_109 rfl ?_
              refine t_iastX (pc := 111) (t0 := 0) ht36 RX_inPart dX12_madeParts_111 rfl (by decide) (by omega) (by omega) (fun hp17 ht18 => ?_)
              have ht19 := RXw_qi ht18
              have hqht19 : Rfx 1936 0 15 (fup qi24 (Int.toNat ((16 * h_10) + v24_4)) v36_5) := Rfx_up (by assumption) (by omega)
              refine r_iload_n (pc := 112) dX12_madeParts_112 (i := 3) rfl rfl ?_
              refine r_iload (pc := 113) dX12_madeParts_113 rfl ?_
              refine t_if_ge (pc := 115) (tgt := 122) dX12_madeParts_115 (by decide) (by omega) (fun c115 => ?_) (fun c115 => ?_)
              · refine r_iconst (pc := 122) (v := iv 0) dX12_madeParts_122 (by decide) ?_
                refine r_iadd (pc := 123) (v := iv (v24_3 + 0)) dX12_madeParts_123 (iv_add _ _) ?_
                refine r_istore_n (pc := 124) (lv' := [(3, .int (iv (v24_3 + 0))), (0, .ref y), (1, .int (iv x1)), (2, .int (iv h_10)), (4, .int (iv v24_4)), (5, .int (iv v36_5)), (6, .int (iv v36_6))]) dX12_madeParts_124 (i := 3) rfl (by decide) rfl ?_
                refine r_iinc (pc := 125) (v := iv (v24_4 + 1)) (lv' := [(4, .int (iv (v24_4 + 1))), (3, .int (iv (v24_3 + 0))), (0, .ref y), (1, .int (iv x1)), (2, .int (iv h_10)), (5, .int (iv v36_5)), (6, .int (iv v36_6))]) dX12_madeParts_125 rfl (iv_add _ _) (by decide) rfl ?_
                have hpq125 : pqP (fup qi24 (Int.toNat ((16 * h_10) + v24_4)) v36_5) h_10 (v24_4 + 1) (v24_3 + 0) := pq_up (by assumption) (by omega) (by omega) (by omega) (by omega)
                have hfq125 : fqP (fup qi24 (Int.toNat ((16 * h_10) + v24_4)) v36_5) qi h_10 := fq_up (by assumption) (by omega) (by omega)
                have hnu125 := nu2_up (lb := lb) (qi := qi24) (h := h_10) (v := v24_4) (p := v36_5) (u := v36_6) (c := v24_3) (x := v36_5) (c1 := v24_3 + 0) (by assumption) (by assumption) (by assumption) (by omega) (by omega) (by omega) (by omega) (by omega) (by omega)
                have hnuA := hnu125.1
                have hnuB := hnu125.2
                refine r_goto (pc := 128) (tgt := 24) dX12_madeParts_128 (by decide) ?_
                refine Rn.pick (lv' := [(0, .ref y), (1, .int (iv x1)), (2, .int (iv h_10)), (3, .int (iv (v24_3 + 0))), (4, .int (iv (v24_4 + 1)))]) [2, 3, 4, 1, 0] rfl ?_
                exact ih24 (Int.toNat (16 - (v24_4 + 1))) (by omega) (fup qi24 (Int.toNat ((16 * h_10) + v24_4)) v36_5) _ ht19 (v24_3 + 0) (v24_4 + 1) ⟨by omega, by omega, by omega, by omega, by assumption, by omega, by omega, by assumption, by assumption, by (first | assumption | exact nu2_0), by (first | assumption | rfl)⟩ (by omega)
              · exfalso
                omega
            · refine r_iload_n (pc := 105) dX12_madeParts_105 (i := 3) rfl rfl ?_
              refine r_goto (pc := 106) (tgt := 111) dX12_madeParts_106 (by decide) ?_
              refine t_iastX (pc := 111) (t0 := 0) ht36 RX_inPart dX12_madeParts_111 rfl (by decide) (by omega) (by omega) (fun hp20 ht21 => ?_)
              have ht22 := RXw_qi ht21
              have hqht22 : Rfx 1936 0 15 (fup qi24 (Int.toNat ((16 * h_10) + v24_4)) v24_3) := Rfx_up (by assumption) (by omega)
              refine r_iload_n (pc := 112) dX12_madeParts_112 (i := 3) rfl rfl ?_
              refine r_iload (pc := 113) dX12_madeParts_113 rfl ?_
              refine t_if_ge (pc := 115) (tgt := 122) dX12_madeParts_115 (by decide) (by omega) (fun c115 => ?_) (fun c115 => ?_)
              · exfalso
                omega
              · refine r_iconst (pc := 118) (v := iv 1) dX12_madeParts_118 (by decide) ?_
                refine r_goto (pc := 119) (tgt := 123) dX12_madeParts_119 (by decide) ?_
                refine r_iadd (pc := 123) (v := iv (v24_3 + 1)) dX12_madeParts_123 (iv_add _ _) ?_
                refine r_istore_n (pc := 124) (lv' := [(3, .int (iv (v24_3 + 1))), (0, .ref y), (1, .int (iv x1)), (2, .int (iv h_10)), (4, .int (iv v24_4)), (5, .int (iv v36_5)), (6, .int (iv v36_6))]) dX12_madeParts_124 (i := 3) rfl (by decide) rfl ?_
                refine r_iinc (pc := 125) (v := iv (v24_4 + 1)) (lv' := [(4, .int (iv (v24_4 + 1))), (3, .int (iv (v24_3 + 1))), (0, .ref y), (1, .int (iv x1)), (2, .int (iv h_10)), (5, .int (iv v36_5)), (6, .int (iv v36_6))]) dX12_madeParts_125 rfl (iv_add _ _) (by decide) rfl ?_
                have hpq125 : pqP (fup qi24 (Int.toNat ((16 * h_10) + v24_4)) v24_3) h_10 (v24_4 + 1) (v24_3 + 1) := pq_up (by assumption) (by omega) (by omega) (by omega) (by omega)
                have hfq125 : fqP (fup qi24 (Int.toNat ((16 * h_10) + v24_4)) v24_3) qi h_10 := fq_up (by assumption) (by omega) (by omega)
                have hnu125 := nu2_up (lb := lb) (qi := qi24) (h := h_10) (v := v24_4) (p := v36_5) (u := v36_6) (c := v24_3) (x := v24_3) (c1 := v24_3 + 1) (by assumption) (by assumption) (by assumption) (by omega) (by omega) (by omega) (by omega) (by omega) (by omega)
                have hnuA := hnu125.1
                have hnuB := hnu125.2
                refine r_goto (pc := 128) (tgt := 24) dX12_madeParts_128 (by decide) ?_
                refine Rn.pick (lv' := [(0, .ref y), (1, .int (iv x1)), (2, .int (iv h_10)), (3, .int (iv (v24_3 + 1))), (4, .int (iv (v24_4 + 1)))]) [2, 3, 4, 1, 0] rfl ?_
                exact ih24 (Int.toNat (16 - (v24_4 + 1))) (by omega) (fup qi24 (Int.toNat ((16 * h_10) + v24_4)) v24_3) _ ht22 (v24_3 + 1) (v24_4 + 1) ⟨by omega, by omega, by omega, by omega, by assumption, by omega, by omega, by assumption, by assumption, by (first | assumption | exact nu2_0), by (first | assumption | rfl)⟩ (by omega)
          · refine r_iload (pc := 43) dX12_madeParts_43 rfl ?_
            refine t_if_ge (pc := 45) (tgt := 89) dX12_madeParts_45 (by decide) (by omega) (fun c45 => ?_) (fun c45 => ?_)
            · refine r_aload_n (pc := 89) dX12_madeParts_89 (i := 0) rfl rfl ?_
              refine t_getE (pc := 90) (.ref (y + 15)) ht36 (rd_of RX_y) fX12_54 dX12_madeParts_90 rfl ?_
              refine r_bipush (pc := 93) (v := iv 16) dX12_madeParts_93 (by decide) ?_
              refine r_iload_n (pc := 95) dX12_madeParts_95 (i := 2) rfl rfl ?_
              refine r_imul (pc := 96) (v := iv (16 * h_10)) dX12_madeParts_96 (iv_mul _ _) ?_
              refine r_iload (pc := 97) dX12_madeParts_97 rfl ?_
              refine r_iadd (pc := 99) (v := iv ((16 * h_10) + v24_4)) dX12_madeParts_99 (iv_add _ _) ?_
              refine r_iload (pc := 100) dX12_madeParts_100 rfl ?_
              refine t_if_ge (pc := 102) (tgt := 109) dX12_madeParts_102 (by decide) (by omega) (fun c102 => ?_) (fun c102 => ?_)
              · refine r_iload (pc := 109) dX12_madeParts_109 rfl ?_
                refine t_iastX (pc := 111) (t0 := 0) ht36 RX_inPart dX12_madeParts_111 rfl (by decide) (by omega) (by omega) (fun hp23 ht24 => ?_)
                have ht25 := RXw_qi ht24
                have hqht25 : Rfx 1936 0 15 (fup qi24 (Int.toNat ((16 * h_10) + v24_4)) v36_5) := Rfx_up (by assumption) (by omega)
                refine r_iload_n (pc := 112) dX12_madeParts_112 (i := 3) rfl rfl ?_
                refine r_iload (pc := 113) dX12_madeParts_113 rfl ?_
                refine t_if_ge (pc := 115) (tgt := 122) dX12_madeParts_115 (by decide) (by omega) (fun c115 => ?_) (fun c115 => ?_)
                · refine r_iconst (pc := 122) (v := iv 0) dX12_madeParts_122 (by decide) ?_
                  refine r_iadd (pc := 123) (v := iv (v24_3 + 0)) dX12_madeParts_123 (iv_add _ _) ?_
                  refine r_istore_n (pc := 124) (lv' := [(3, .int (iv (v24_3 + 0))), (0, .ref y), (1, .int (iv x1)), (2, .int (iv h_10)), (4, .int (iv v24_4)), (5, .int (iv v36_5)), (6, .int (iv v36_6))]) dX12_madeParts_124 (i := 3) rfl (by decide) rfl ?_
                  refine r_iinc (pc := 125) (v := iv (v24_4 + 1)) (lv' := [(4, .int (iv (v24_4 + 1))), (3, .int (iv (v24_3 + 0))), (0, .ref y), (1, .int (iv x1)), (2, .int (iv h_10)), (5, .int (iv v36_5)), (6, .int (iv v36_6))]) dX12_madeParts_125 rfl (iv_add _ _) (by decide) rfl ?_
                  have hpq125 : pqP (fup qi24 (Int.toNat ((16 * h_10) + v24_4)) v36_5) h_10 (v24_4 + 1) (v24_3 + 0) := pq_up (by assumption) (by omega) (by omega) (by omega) (by omega)
                  have hfq125 : fqP (fup qi24 (Int.toNat ((16 * h_10) + v24_4)) v36_5) qi h_10 := fq_up (by assumption) (by omega) (by omega)
                  have hnu125 := nu2_up (lb := lb) (qi := qi24) (h := h_10) (v := v24_4) (p := v36_5) (u := v36_6) (c := v24_3) (x := v36_5) (c1 := v24_3 + 0) (by assumption) (by assumption) (by assumption) (by omega) (by omega) (by omega) (by omega) (by omega) (by omega)
                  have hnuA := hnu125.1
                  have hnuB := hnu125.2
                  refine r_goto (pc := 128) (tgt := 24) dX12_madeParts_128 (by decide) ?_
                  refine Rn.pick (lv' := [(0, .ref y), (1, .int (iv x1)), (2, .int (iv h_10)), (3, .int (iv (v24_3 + 0))), (4, .int (iv (v24_4 + 1)))]) [2, 3, 4, 1, 0] rfl ?_
                  exact ih24 (Int.toNat (16 - (v24_4 + 1))) (by omega) (fup qi24 (Int.toNat ((16 * h_10) + v24_4)) v36_5) _ ht25 (v24_3 + 0) (v24_4 + 1) ⟨by omega, by omega, by omega, by omega, by assumption, by omega, by omega, by assumption, by assumption, by (first | assumption | exact nu2_0), by (first | assumption | rfl)⟩ (by omega)
                · exfalso
                  omega
              · exfalso
                omega
            · refine r_aload_n (pc := 48) dX12_madeParts_48 (i := 0) rfl rfl ?_
              refine t_getE (pc := 49) (.ref (y + 31)) ht36 (rd_of RX_y) fX12_103 dX12_madeParts_49 rfl ?_
              refine r_iload (pc := 52) dX12_madeParts_52 rfl ?_
              refine t_ialdX (pc := 54) (t0 := 0) ht36 (rd_of RX_label) dX12_madeParts_54 rfl (by decide) (by omega) (fun b26 => ?_)
              refine r_aload_n (pc := 55) dX12_madeParts_55 (i := 0) rfl rfl ?_
              refine t_getE (pc := 56) (.ref (y + 31)) ht36 (rd_of RX_y) fX12_103 dX12_madeParts_56 rfl ?_
              refine r_iload (pc := 59) dX12_madeParts_59 rfl ?_
              refine t_ialdX (pc := 61) (t0 := 0) ht36 (rd_of RX_label) dX12_madeParts_61 rfl (by decide) (by omega) (fun b27 => ?_)
              refine t_icmp_ne (pc := 62) (tgt := 80) dX12_madeParts_62 (by decide) (by omega) (by omega) (fun c62 => ?_) (fun c62 => ?_)
              · refine r_iconst (pc := 80) (v := iv (-1)) dX12_madeParts_80 (by decide) ?_
                refine r_istore (pc := 81) (lv' := [(5, .int (iv (-1))), (0, .ref y), (1, .int (iv x1)), (2, .int (iv h_10)), (3, .int (iv v24_3)), (4, .int (iv v24_4)), (6, .int (iv v36_6))]) dX12_madeParts_81 (by decide) rfl ?_
                refine r_iinc (pc := 83) (v := iv (v36_6 + 1)) (lv' := [(6, .int (iv (v36_6 + 1))), (5, .int (iv (-1))), (0, .ref y), (1, .int (iv x1)), (2, .int (iv h_10)), (3, .int (iv v24_3)), (4, .int (iv v24_4))]) dX12_madeParts_83 rfl (iv_add _ _) (by decide) rfl ?_
                refine r_goto (pc := 86) (tgt := 36) dX12_madeParts_86 (by decide) ?_
                refine Rn.pick (lv' := [(0, .ref y), (1, .int (iv x1)), (2, .int (iv h_10)), (3, .int (iv v24_3)), (4, .int (iv v24_4)), (5, .int (iv (-1))), (6, .int (iv (v36_6 + 1)))]) [2, 3, 4, 5, 6, 1, 0] rfl ?_
                exact ih36 (Int.toNat (15 - (v36_6 + 1))) (by omega) _ ht36 (-1) (v36_6 + 1) ⟨by omega, by omega, by omega, by omega, by omega, by omega, by (first | exact mp_0 | exact mp_y (by assumption) (by omega) (by omega) (by omega) (by omega) | exact mp_n (by assumption) (by omega) (by omega) (by omega))⟩ (by omega)
              · refine r_aload_n (pc := 65) dX12_madeParts_65 (i := 0) rfl rfl ?_
                refine t_getE (pc := 66) (.ref (y + 15)) ht36 (rd_of RX_y) fX12_54 dX12_madeParts_66 rfl ?_
                refine r_bipush (pc := 69) (v := iv 16) dX12_madeParts_69 (by decide) ?_
                refine r_iload_n (pc := 71) dX12_madeParts_71 (i := 2) rfl rfl ?_
                refine r_imul (pc := 72) (v := iv (16 * h_10)) dX12_madeParts_72 (iv_mul _ _) ?_
                refine r_iload (pc := 73) dX12_madeParts_73 rfl ?_
                refine r_iadd (pc := 75) (v := iv ((16 * h_10) + v36_6)) dX12_madeParts_75 (iv_add _ _) ?_
                refine t_ialdX (pc := 76) (t0 := 0) ht36 (rd_of RX_inPart) dX12_madeParts_76 rfl (by decide) (by omega) (fun b28 => ?_)
                have rb28 := (show Rfx 1936 0 15 qi24 by assumption) (Int.toNat ((16 * h_10) + v36_6)) (by omega)
                have hpq76 := (show pqP qi24 h_10 v24_4 v24_3 by assumption) v36_6 (by omega) (by omega)
                refine r_goto (pc := 77) (tgt := 81) dX12_madeParts_77 (by decide) ?_
                refine r_istore (pc := 81) (lv' := [(5, .int (iv (qi24 (Int.toNat ((16 * h_10) + v36_6))))), (0, .ref y), (1, .int (iv x1)), (2, .int (iv h_10)), (3, .int (iv v24_3)), (4, .int (iv v24_4)), (6, .int (iv v36_6))]) dX12_madeParts_81 (by decide) rfl ?_
                refine r_iinc (pc := 83) (v := iv (v36_6 + 1)) (lv' := [(6, .int (iv (v36_6 + 1))), (5, .int (iv (qi24 (Int.toNat ((16 * h_10) + v36_6))))), (0, .ref y), (1, .int (iv x1)), (2, .int (iv h_10)), (3, .int (iv v24_3)), (4, .int (iv v24_4))]) dX12_madeParts_83 rfl (iv_add _ _) (by decide) rfl ?_
                refine r_goto (pc := 86) (tgt := 36) dX12_madeParts_86 (by decide) ?_
                refine Rn.pick (lv' := [(0, .ref y), (1, .int (iv x1)), (2, .int (iv h_10)), (3, .int (iv v24_3)), (4, .int (iv v24_4)), (5, .int (iv (qi24 (Int.toNat ((16 * h_10) + v36_6))))), (6, .int (iv (v36_6 + 1)))]) [2, 3, 4, 5, 6, 1, 0] rfl ?_
                exact ih36 (Int.toNat (15 - (v36_6 + 1))) (by omega) _ ht36 (qi24 (Int.toNat ((16 * h_10) + v36_6))) (v36_6 + 1) ⟨by omega, by omega, by omega, by omega, by omega, by omega, by (first | exact mp_0 | exact mp_y (by assumption) (by omega) (by omega) (by omega) (by omega) | exact mp_n (by assumption) (by omega) (by omega) (by omega))⟩ (by omega)
        refine Rn.pick (lv' := [(0, .ref y), (1, .int (iv x1)), (2, .int (iv h_10)), (3, .int (iv v24_3)), (4, .int (iv v24_4)), (5, .int (iv (-1))), (6, .int (iv 0))]) [2, 3, 4, 5, 6, 1, 0] rfl ?_
        exact B36 (Int.toNat (15 - 0)) _ ht24 (-1) 0 ⟨by omega, by omega, by omega, by omega, by omega, by omega, by (first | exact mp_0 | exact mp_y (by assumption) (by omega) (by omega) (by omega) (by omega) | exact mp_n (by assumption) (by omega) (by omega) (by omega))⟩ (by omega)
    refine Rn.pick (lv' := [(0, .ref y), (1, .int (iv x1)), (2, .int (iv h_10)), (3, .int (iv 0)), (4, .int (iv 0))]) [3, 4, 2, 1, 0] rfl ?_
    exact B24 (Int.toNat (16 - 0)) qi _ ht13 0 0 ⟨by omega, by omega, by omega, by omega, by assumption, by omega, by omega, by assumption, by assumption, by (first | assumption | exact nu2_0), by (first | assumption | rfl)⟩ (by omega)
  · have ek : cn = 120 ∧ h_10 = -4 ∧ v_7 = -4 ∧ c1_8 = cn := by omega
    have es : s1_9 = so := hhq42 (by omega)
    rw [ek.2.2.1, ek.2.2.2, es] at ht6
    refine r_iload_n (pc := 10) dX12_madeParts_10 (i := 2) rfl rfl ?_
    exact r_iret (pc := 11) dX12_madeParts_11 rfl (hPo _ _ _ ⟨rfl, h_10, (-4), cn, so, sz, qi, qc, ht6, rfl, (by omega), (by (first | (intro h9; exfalso; omega) | (intro _; exact ⟨rfl, rfl, rfl, rfl⟩))), (by omega), (by (first | (intro h9; exfalso; omega) | (intro h9; have e1 : h_10 = cn := (by omega); exact ⟨rfl, by rw [e1]⟩))), (by assumption), (by assumption), (by (intro h9; exfalso; omega)), (by (intro h9; exfalso; omega))⟩)
set_option maxHeartbeats 4000000 in
set_option maxRecDepth 100000 in
theorem x_X12_blocks {D : va_G} {cI cJ cZ cT : ClassId} {lo b L : Nat} {xs : Nat → Int32} {hp : MH} {n d : Nat} {Γ : TG} {y : Nat} {rf cn nm : Int} {so sz dr mn fr tt wt co : Nat → Int} {nu : Nat → Int64} {sa : Nat → Int} {wo : Nat → Int64} {ln : Nat → Int} {hw : Nat → Int64} {ro qi qc nf nt nw nc : Nat → Int} {cl nx : Nat → Int64} {ie be sd bl : Nat → Int} {bs wy ra rb : Nat → Int64} {lb bg os js ls : Nat → Int} {sp : Nat → Int64} {jw go : Nat → Int} {de : Nat → Int64} {yb ah im : Nat → Int} {x1 : Int} {Po9 : Option Value → MH → Nat → Prop} (hd0 : 2 ≤ d) (hR_many : Rfx 121 0 60 mn) (hR_sizes : Rfx 121 0 16 sz) (hR_from : Rfx 7260 0 15 fr) (hR_to : Rfx 7260 0 15 tt) (hR_beside : Rfx 16 0 65535 be) (hR_solid : Rfx 65536 0 1 sd) (hR_below : Rfx 65536 0 1 bl) (ht : Tw (RX Γ cI cJ cZ y rf cn nm so sz dr mn fr tt wt co nu sa wo ln hw ro qi qc nf nt nw nc cl nx ie be sd bl bs wy ra rb lb bg os js ls sp jw go de yb ah im) hp) (hx1 : 0 ≤ x1 ∧ x1 ≤ 120) (hEn : enP fr tt mn sz x1) (h0c : eqB cl (fun _ => 0) (sz (Int.toNat x1))) (hn1 : 1 ≤ (sz (Int.toNat x1))) (hPo : ∀ r hp1 n1, (n1 = n ∧ ∃ (k1 : Nat → Int64) (b1 : Nat → Int) (d1 : Nat → Int) (e1 : Nat → Int), Tw (RX Γ cI cJ cZ y rf cn nm so sz dr mn fr tt wt co nu sa wo ln hw ro qi qc nf nt nw nc k1 nx ie b1 d1 e1 bs wy ra rb lb bg os js ls sp jw go de yb ah im) hp1 ∧ r = none ∧ (Rfx 16 0 65535 b1) ∧ (Rfx 65536 0 1 d1) ∧ (Rfx 65536 0 1 e1) ∧ (jbP b1 (Int.toNat (mn (Int.toNat x1))) (sh fr (60 * x1)) (sh tt (60 * x1)) (fun k => (k : Int) ≠ -1)) ∧ (∀ u : Nat, (u : Int) < (sz (Int.toNat x1)) → (k1 u).toInt = (cnP (bkP (JB b1) (Int.toNat (sz (Int.toNat x1))) u) (2 ^ (Int.toNat (sz (Int.toNat x1)))) : Int))) → Po9 r hp1 n1) : Mt (gG D cI cJ cZ cT lo b L xs) mX12_blocks d 0 0 [.ref y, .int (iv x1)] hp n Po9 := by
  refine Mt.of rfl (Nat.le_of_ble_eq_true rfl) ?_
  refine Rn.pick (lv' := [(0, .ref y), (1, .int (iv x1))]) [0, 1] rfl ?_
  have rmn := hR_many (Int.toNat x1) (by omega)
  have rsz := hR_sizes (Int.toNat x1) (by omega)
  have hFT := enF hEn (by assumption) (by assumption) (by omega) (by omega)
  have hp2 : 1 ≤ 2 ^ Int.toNat (sz (Int.toNat x1)) := Nat.one_le_two_pow
  have hp3 : 2 ^ Int.toNat (sz (Int.toNat x1)) ≤ 2 ^ 16 := Nat.pow_le_pow_right (by omega) (by omega)
  refine r_aload_n (pc := 0) dX12_blocks_0 (i := 0) rfl rfl ?_
  refine t_getE (pc := 1) (.ref (y + 2)) ht (rd_of RX_y) fX12_13 dX12_blocks_1 rfl ?_
  refine r_iload_n (pc := 4) dX12_blocks_4 (i := 1) rfl rfl ?_
  refine t_ialdX (pc := 5) (t0 := 0) ht (rd_of RX_sizes) dX12_blocks_5 rfl (by decide) (by omega) (fun b1 => ?_)
  have rb1 := (show Rfx 121 0 16 sz by assumption) (Int.toNat x1) (by omega)
  refine r_istore_n (pc := 6) (lv' := [(2, .int (iv (sz (Int.toNat x1)))), (0, .ref y), (1, .int (iv x1))]) dX12_blocks_6 (i := 2) rfl (by decide) rfl ?_
  refine r_aload_n (pc := 7) dX12_blocks_7 (i := 0) rfl rfl ?_
  refine r_iload_n (pc := 8) dX12_blocks_8 (i := 1) rfl rfl ?_
  refine r_iconst (pc := 9) (v := iv (-1)) dX12_blocks_9 (by decide) ?_
  obtain ⟨fs6, hfs6⟩ := t_obj ht (rd_of RX_y)
  refine r_callV (pc := 10) (as := [.int (iv x1), .int (iv (-1))]) (st := []) kX12_234 rfl dX12_blocks_10 hfs6 (x_X12_joinsOf (d := d - 1) (x1 := x1) (x2 := (-1)) (by omega) (by assumption) (by assumption) (by assumption) (by assumption) (by assumption) ht (by omega) (by omega) (by assumption) (fun _ _ _ h => h)) rfl (by omega) (Nat.le_of_ble_eq_true rfl) (Nat.zero_le _) (Nat.zero_le _) rfl (fun r3 hp2 n4 hq5 => ?_)
  obtain ⟨hnn4, b1_8, ht7, hrr3, hhq50, hhq51⟩ := hq5
  subst n4 r3
  have hhq50 : Rfx 16 0 65535 b1_8 := hhq50
  have hhq51 : jbP b1_8 (Int.toNat (mn (Int.toNat x1))) (sh fr (60 * x1)) (sh tt (60 * x1)) (fun k => (k : Int) ≠ (-1)) := hhq51
  change Rn _ _ _ 13 _ [] _ _ _ _ _
  obtain ⟨be13, ebe⟩ : ∃ be13, be13 = b1_8 := ⟨_, rfl⟩
  have hjb13 := hhq51
  rw [← ebe] at hjb13
  have hJ := jb_sym hjb13 hFT (by omega)
  refine r_iconst (pc := 13) (v := iv 0) dX12_blocks_13 (by decide) ?_
  refine r_istore_n (pc := 14) (lv' := [(3, .int (iv 0)), (2, .int (iv (sz (Int.toNat x1)))), (0, .ref y), (1, .int (iv x1))]) dX12_blocks_14 (i := 3) rfl (by decide) rfl ?_
  have B15 : ∀ k : Nat, ∀ sd15 : Nat → Int, ∀ hp15 : MH, Tw (RX Γ cI cJ cZ y rf cn nm so sz dr mn fr tt wt co nu sa wo ln hw ro qi qc nf nt nw nc cl nx ie b1_8 sd15 bl bs wy ra rb lb bg os js ls sp jw go de yb ah im) hp15 → ∀  (v15_3 : Int), 0 ≤ v15_3 ∧ v15_3 ≤ 65536 ∧ (Rfx 65536 0 1 sd15) ∧ (v15_3 ≤ ((2 ^ Int.toNat (sz (Int.toNat x1)) : Nat) : Int)) ∧ (sdP (JB be13) v15_3 sd15) → 65536 - v15_3 ≤ (k : Int) → Rn (gG D cI cJ cZ cT lo b L xs) mX12_blocks d 15 [(0, .ref y), (2, .int (iv (sz (Int.toNat x1)))), (3, .int (iv v15_3))] [] hp15 n 0 0 Po9 := by
    refine lpS _ ?_
    intro k15 ih15 sd15 hp15 ht15 v15_3 hf15 hm15
    obtain ⟨hf15_0, hf15_1, ha15_2, hf15_3, ha15_4⟩ := hf15
    refine r_iload_n (pc := 15) dX12_blocks_15 (i := 3) rfl rfl ?_
    refine r_iconst (pc := 16) (v := iv 1) dX12_blocks_16 (by decide) ?_
    refine r_iload_n (pc := 17) dX12_blocks_17 (i := 2) rfl rfl ?_
    refine r_ishl (pc := 18) (v := iv ((2 ^ Int.toNat (sz (Int.toNat x1)) : Nat) : Int)) dX12_blocks_18 (shl_e (by omega)) ?_
    have mp18_9 : 1 ≤ 2 ^ Int.toNat (sz (Int.toNat x1)) := Nat.one_le_two_pow
    have mq18_10 : 2 ^ Int.toNat (sz (Int.toNat x1)) ≤ 2 ^ 16 := Nat.pow_le_pow_right (by omega) (by omega)
    have ms18 := Me_shl (Int.toNat (sz (Int.toNat x1)))
    refine t_icmp_ge (pc := 19) (tgt := 114) dX12_blocks_19 (by decide) (by omega) (by omega) (fun c19 => ?_) (fun c19 => ?_)
    · refine r_iconst (pc := 114) (v := iv 1) dX12_blocks_114 (by decide) ?_
      refine r_iload_n (pc := 115) dX12_blocks_115 (i := 2) rfl rfl ?_
      refine r_ishl (pc := 116) (v := iv ((2 ^ Int.toNat (sz (Int.toNat x1)) : Nat) : Int)) dX12_blocks_116 (shl_e (by omega)) ?_
      have mp116_11 : 1 ≤ 2 ^ Int.toNat (sz (Int.toNat x1)) := Nat.one_le_two_pow
      have mq116_12 : 2 ^ Int.toNat (sz (Int.toNat x1)) ≤ 2 ^ 16 := Nat.pow_le_pow_right (by omega) (by omega)
      have ms116 := Me_shl (Int.toNat (sz (Int.toNat x1)))
      refine r_iconst (pc := 117) (v := iv 1) dX12_blocks_117 (by decide) ?_
      refine r_isub (pc := 118) (v := iv (((2 ^ Int.toNat (sz (Int.toNat x1)) : Nat) : Int) - 1)) dX12_blocks_118 (iv_sub _ _) ?_
      refine r_istore_n (pc := 119) (lv' := [(3, .int (iv (((2 ^ Int.toNat (sz (Int.toNat x1)) : Nat) : Int) - 1))), (0, .ref y), (2, .int (iv (sz (Int.toNat x1))))]) dX12_blocks_119 (i := 3) rfl (by decide) rfl ?_
      have hsd : sdP (JB be13) ((2 ^ Int.toNat (sz (Int.toNat x1)) : Nat) : Int) sd15 := by rw [← show v15_3 = ((2 ^ Int.toNat (sz (Int.toNat x1)) : Nat) : Int) by omega]; assumption
      have B120 : ∀ k : Nat, ∀ cl120 : Nat → Int64, ∀ bl120 : Nat → Int, ∀ hp120 : MH, Tw (RX Γ cI cJ cZ y rf cn nm so sz dr mn fr tt wt co nu sa wo ln hw ro qi qc nf nt nw nc cl120 nx ie b1_8 sd15 bl120 bs wy ra rb lb bg os js ls sp jw go de yb ah im) hp120 → ∀  (v120_3 : Int), 0 ≤ v120_3 ∧ v120_3 ≤ 65535 ∧ v120_3 ≤ ((2 ^ Int.toNat (sz (Int.toNat x1)) : Nat) : Int) - 1 ∧ (Rfx 65536 0 1 bl120) ∧ (v120_3 ≤ ((2 ^ Int.toNat (sz (Int.toNat x1)) : Nat) : Int) - 1) ∧ (blQ (JB be13) (Int.toNat (sz (Int.toNat x1))) v120_3 bl120) ∧ (bcP (JB be13) (Int.toNat (sz (Int.toNat x1))) (sz (Int.toNat x1)) 0 v120_3 cl120) → v120_3 ≤ (k : Int) → Rn (gG D cI cJ cZ cT lo b L xs) mX12_blocks d 120 [(0, .ref y), (2, .int (iv (sz (Int.toNat x1)))), (3, .int (iv v120_3))] [] hp120 n 0 0 Po9 := by
        refine lpS _ ?_
        intro k120 ih120 cl120 bl120 hp120 ht120 v120_3 hf120 hm120
        obtain ⟨hf120_0, hf120_1, hf120_2, ha120_3, hf120_4, ha120_5, ha120_6⟩ := hf120
        refine r_iload_n (pc := 120) dX12_blocks_120 (i := 3) rfl rfl ?_
        refine t_if_le (pc := 121) (tgt := 248) dX12_blocks_121 (by decide) (by omega) (fun c121 => ?_) (fun c121 => ?_)
        · exact r_vret (pc := 248) dX12_blocks_248 rfl (hPo _ _ _ ⟨rfl, cl120, b1_8, sd15, bl120, ht120, rfl, (by assumption), (by assumption), (by assumption), (by (rw [← ebe]; exact hjb13)), (by (rw [← ebe]; have h8 : bcP (JB be13) (Int.toNat (sz (Int.toNat x1))) (sz (Int.toNat x1)) 0 v120_3 _ := (by assumption); rw [show v120_3 = 0 by omega] at h8; exact bc_fin h8))⟩)
        · refine r_iconst (pc := 124) (v := iv 0) dX12_blocks_124 (by decide) ?_
          refine r_istore (pc := 125) (lv' := [(4, .int (iv 0)), (0, .ref y), (2, .int (iv (sz (Int.toNat x1)))), (3, .int (iv v120_3))]) dX12_blocks_125 (by decide) rfl ?_
          refine r_iconst (pc := 127) (v := iv 0) dX12_blocks_127 (by decide) ?_
          refine r_istore (pc := 128) (lv' := [(5, .int (iv 0)), (4, .int (iv 0)), (0, .ref y), (2, .int (iv (sz (Int.toNat x1)))), (3, .int (iv v120_3))]) dX12_blocks_128 (by decide) rfl ?_
          have B130 : ∀ k : Nat, ∀ hp130 : MH, Tw (RX Γ cI cJ cZ y rf cn nm so sz dr mn fr tt wt co nu sa wo ln hw ro qi qc nf nt nw nc cl120 nx ie b1_8 sd15 bl120 bs wy ra rb lb bg os js ls sp jw go de yb ah im) hp130 → ∀  (v130_4 : Int) (v130_5 : Int), 0 ≤ v130_4 ∧ v130_4 ≤ 1 ∧ 0 ≤ v130_5 ∧ v130_5 ≤ 16 ∧ (v130_5 ≤ (sz (Int.toNat x1))) ∧ (lyP (JB be13) (Int.toNat (sz (Int.toNat x1))) v120_3 v130_5 v130_4) → 16 - v130_5 ≤ (k : Int) → Rn (gG D cI cJ cZ cT lo b L xs) mX12_blocks d 130 [(0, .ref y), (2, .int (iv (sz (Int.toNat x1)))), (3, .int (iv v120_3)), (4, .int (iv v130_4)), (5, .int (iv v130_5))] [] hp130 n 0 0 Po9 := by
            refine lpS _ ?_
            intro k130 ih130 hp130 ht130 v130_4 v130_5 hf130 hm130
            obtain ⟨hf130_0, hf130_1, hf130_2, hf130_3, hf130_4, ha130_5⟩ := hf130
            refine r_iload (pc := 130) dX12_blocks_130 rfl ?_
            refine r_iload_n (pc := 132) dX12_blocks_132 (i := 2) rfl rfl ?_
            refine t_icmp_ge (pc := 133) (tgt := 188) dX12_blocks_133 (by decide) (by omega) (by omega) (fun c133 => ?_) (fun c133 => ?_)
            · refine r_aload_n (pc := 188) dX12_blocks_188 (i := 0) rfl rfl ?_
              refine t_getE (pc := 189) (.ref (y + 26)) ht130 (rd_of RX_y) fX12_88 dX12_blocks_189 rfl ?_
              refine r_iload_n (pc := 192) dX12_blocks_192 (i := 3) rfl rfl ?_
              refine r_iload (pc := 193) dX12_blocks_193 rfl ?_
              refine t_zastX (pc := 195) (t0 := 2) ht130 RX_below dX12_blocks_195 rfl (by decide) (by omega) (by omega) (fun hp13 ht14 => ?_)
              have ht15 := RXw_bl ht14
              have hqht15 : Rfx 65536 0 1 (fup bl120 (Int.toNat v120_3) v130_4) := Rfx_up (by assumption) (by omega)
              have hly := ly_end (show lyP (JB be13) (Int.toNat (sz (Int.toNat x1))) v120_3 v130_5 v130_4 by assumption) (by omega) (by omega)
              have hbl195 : blQ (JB be13) (Int.toNat (sz (Int.toNat x1))) (v120_3 - 1) (fup bl120 (Int.toNat v120_3) v130_4) := bl_up (by assumption) (by omega) hly
              have hS2n : Int.toNat v120_3 < 2 ^ (Int.toNat (sz (Int.toNat x1))) := by omega
              have hsS := hsd v120_3 (by omega) (by omega)
              have hmxf : sd15 (Int.toNat v120_3) ≠ 0 → v130_4 = 0 → mxS (JB be13) (Int.toNat (sz (Int.toNat x1))) (Int.toNat v120_3) := fun h1 h2 => (mx_iff (by omega) hS2n).mpr ⟨(hsS.resolve_right (fun q => h1 q.1)).2, (hly.resolve_left (fun q => by have := q.1; omega)).2⟩
              have hmxn : mxS (JB be13) (Int.toNat (sz (Int.toNat x1))) (Int.toNat v120_3) → sd15 (Int.toNat v120_3) = 1 ∧ v130_4 = 0 := fun h9 => ⟨(hsS.resolve_right (fun q => q.2 ((mx_iff (by omega) hS2n).mp h9).1)).1, (hly.resolve_left (fun q => ((mx_iff (by omega) hS2n).mp h9).2 q.2)).1⟩
              refine r_iconst (pc := 196) (v := iv 0) dX12_blocks_196 (by decide) ?_
              refine r_istore (pc := 197) (lv' := [(5, .int (iv 0)), (0, .ref y), (2, .int (iv (sz (Int.toNat x1)))), (3, .int (iv v120_3)), (4, .int (iv v130_4))]) dX12_blocks_197 (by decide) rfl ?_
              have B199 : ∀ k : Nat, ∀ cl199 : Nat → Int64, ∀ hp199 : MH, Tw (RX Γ cI cJ cZ y rf cn nm so sz dr mn fr tt wt co nu sa wo ln hw ro qi qc nf nt nw nc cl199 nx ie b1_8 sd15 (fup bl120 (Int.toNat v120_3) v130_4) bs wy ra rb lb bg os js ls sp jw go de yb ah im) hp199 → ∀  (v199_5 : Int), 0 ≤ v199_5 ∧ v199_5 ≤ 16 ∧ (v199_5 ≤ (sz (Int.toNat x1))) ∧ (v199_5 = 0 ∨ (sd15 (Int.toNat v120_3) ≠ 0 ∧ v130_4 = 0)) ∧ (bcP (JB be13) (Int.toNat (sz (Int.toNat x1))) (sz (Int.toNat x1)) v199_5 v120_3 cl199) → 16 - v199_5 ≤ (k : Int) → Rn (gG D cI cJ cZ cT lo b L xs) mX12_blocks d 199 [(0, .ref y), (2, .int (iv (sz (Int.toNat x1)))), (3, .int (iv v120_3)), (4, .int (iv v130_4)), (5, .int (iv v199_5))] [] hp199 n 0 0 Po9 := by
                refine lpS _ ?_
                intro k199 ih199 cl199 hp199 ht199 v199_5 hf199 hm199
                obtain ⟨hf199_0, hf199_1, hf199_2, hf199_3, ha199_4⟩ := hf199
                refine r_iload (pc := 199) dX12_blocks_199 rfl ?_
                refine r_iload_n (pc := 201) dX12_blocks_201 (i := 2) rfl rfl ?_
                refine t_icmp_ge (pc := 202) (tgt := 242) dX12_blocks_202 (by decide) (by omega) (by omega) (fun c202 => ?_) (fun c202 => ?_)
                · refine r_iinc (pc := 242) (v := iv (v120_3 - 1)) (lv' := [(3, .int (iv (v120_3 - 1))), (0, .ref y), (2, .int (iv (sz (Int.toNat x1)))), (4, .int (iv v130_4)), (5, .int (iv v199_5))]) dX12_blocks_242 rfl ((iv_add _ _).trans (congrArg iv (show v120_3 + (-1) = v120_3 - 1 by omega))) (by decide) rfl ?_
                  refine r_goto (pc := 245) (tgt := 120) dX12_blocks_245 (by decide) ?_
                  refine Rn.pick (lv' := [(0, .ref y), (2, .int (iv (sz (Int.toNat x1)))), (3, .int (iv (v120_3 - 1)))]) [1, 2, 0] rfl ?_
                  exact ih120 (Int.toNat ((v120_3 - 1))) (by omega) cl199 (fup bl120 (Int.toNat v120_3) v130_4) _ ht199 (v120_3 - 1) ⟨by omega, by omega, by omega, by assumption, by omega, by (first | assumption | (intro s h1 h2; exfalso; omega)), by (first | exact bc_0 h0c | exact bc_end (by assumption) (by omega) (Or.inl ⟨hmxf (by omega) (by omega), by omega⟩) | exact bc_end (by assumption) (by omega) (Or.inr ⟨fun h9 => by have h8 := hmxn h9; omega, by omega⟩))⟩ (by omega)
                · refine r_aload_n (pc := 205) dX12_blocks_205 (i := 0) rfl rfl ?_
                  refine t_getE (pc := 206) (.ref (y + 25)) ht199 (rd_of RX_y) fX12_85 dX12_blocks_206 rfl ?_
                  refine r_iload_n (pc := 209) dX12_blocks_209 (i := 3) rfl rfl ?_
                  refine t_zaldX (pc := 210) (t0 := 2) ht199 (rd_of RX_solid) dX12_blocks_210 rfl (by decide) (by omega) (fun b16 => ?_)
                  have rb16 := (show Rfx 65536 0 1 sd15 by assumption) (Int.toNat v120_3) (by omega)
                  refine t_if_eq (pc := 211) (tgt := 242) dX12_blocks_211 (by decide) (by omega) (fun c211 => ?_) (fun c211 => ?_)
                  · refine r_iinc (pc := 242) (v := iv (v120_3 - 1)) (lv' := [(3, .int (iv (v120_3 - 1))), (0, .ref y), (2, .int (iv (sz (Int.toNat x1)))), (4, .int (iv v130_4)), (5, .int (iv v199_5))]) dX12_blocks_242 rfl ((iv_add _ _).trans (congrArg iv (show v120_3 + (-1) = v120_3 - 1 by omega))) (by decide) rfl ?_
                    refine r_goto (pc := 245) (tgt := 120) dX12_blocks_245 (by decide) ?_
                    refine Rn.pick (lv' := [(0, .ref y), (2, .int (iv (sz (Int.toNat x1)))), (3, .int (iv (v120_3 - 1)))]) [1, 2, 0] rfl ?_
                    exact ih120 (Int.toNat ((v120_3 - 1))) (by omega) cl199 (fup bl120 (Int.toNat v120_3) v130_4) _ ht199 (v120_3 - 1) ⟨by omega, by omega, by omega, by assumption, by omega, by (first | assumption | (intro s h1 h2; exfalso; omega)), by (first | exact bc_0 h0c | exact bc_end (by assumption) (by omega) (Or.inl ⟨hmxf (by omega) (by omega), by omega⟩) | exact bc_end (by assumption) (by omega) (Or.inr ⟨fun h9 => by have h8 := hmxn h9; omega, by omega⟩))⟩ (by omega)
                  · refine r_iload (pc := 214) dX12_blocks_214 rfl ?_
                    refine t_if_ne (pc := 216) (tgt := 242) dX12_blocks_216 (by decide) (by omega) (fun c216 => ?_) (fun c216 => ?_)
                    · refine r_iinc (pc := 242) (v := iv (v120_3 - 1)) (lv' := [(3, .int (iv (v120_3 - 1))), (0, .ref y), (2, .int (iv (sz (Int.toNat x1)))), (4, .int (iv v130_4)), (5, .int (iv v199_5))]) dX12_blocks_242 rfl ((iv_add _ _).trans (congrArg iv (show v120_3 + (-1) = v120_3 - 1 by omega))) (by decide) rfl ?_
                      refine r_goto (pc := 245) (tgt := 120) dX12_blocks_245 (by decide) ?_
                      refine Rn.pick (lv' := [(0, .ref y), (2, .int (iv (sz (Int.toNat x1)))), (3, .int (iv (v120_3 - 1)))]) [1, 2, 0] rfl ?_
                      exact ih120 (Int.toNat ((v120_3 - 1))) (by omega) cl199 (fup bl120 (Int.toNat v120_3) v130_4) _ ht199 (v120_3 - 1) ⟨by omega, by omega, by omega, by assumption, by omega, by (first | assumption | (intro s h1 h2; exfalso; omega)), by (first | exact bc_0 h0c | exact bc_end (by assumption) (by omega) (Or.inl ⟨hmxf (by omega) (by omega), by omega⟩) | exact bc_end (by assumption) (by omega) (Or.inr ⟨fun h9 => by have h8 := hmxn h9; omega, by omega⟩))⟩ (by omega)
                    · refine r_aload_n (pc := 219) dX12_blocks_219 (i := 0) rfl rfl ?_
                      refine t_getE (pc := 220) (.ref (y + 21)) ht199 (rd_of RX_y) fX12_72 dX12_blocks_220 rfl ?_
                      refine r_iload (pc := 223) dX12_blocks_223 rfl ?_
                      refine r_dup2_11 (pc := 225) dX12_blocks_225 rfl rfl ?_
                      refine t_laldX (pc := 226) (t0 := 1) ht199 (rd_of RX_column) dX12_blocks_226 rfl (by decide) (by omega) ?_
                      refine r_iload_n (pc := 227) dX12_blocks_227 (i := 3) rfl rfl ?_
                      refine r_iload (pc := 228) dX12_blocks_228 rfl ?_
                      have hq230_17 := shr_le (Int.toNat v120_3) (Int.toNat v199_5)
                      refine r_ishr (pc := 230) (v := iv ((Int.toNat v120_3 >>> Int.toNat v199_5 : Nat) : Int)) dX12_blocks_230 (shr_e (by omega) (by omega)) ?_
                      refine r_iconst (pc := 231) (v := iv 1) dX12_blocks_231 (by decide) ?_
                      refine r_iand (pc := 232) (v := iv (((Int.toNat v120_3 >>> Int.toNat v199_5 : Nat) : Int) % 2)) dX12_blocks_232 (and1_e _ (by omega)) ?_
                      have mb232 := @Me_bit v120_3 v199_5
                      refine r_i2l (pc := 233) (v := (iv (((Int.toNat v120_3 >>> Int.toNat v199_5 : Nat) : Int) % 2)).toInt64) dX12_blocks_233 rfl ?_
                      refine r_ladd (pc := 234) (v := (cl199 (Int.toNat v199_5)) + ((iv (((Int.toNat v120_3 >>> Int.toNat v199_5 : Nat) : Int) % 2)).toInt64)) dX12_blocks_234 rfl ?_
                      refine t_lastX (pc := 235) (t0 := 1) ht199 RX_column dX12_blocks_235 rfl (by decide) (by omega) (fun hp18 ht19 => ?_)
                      have ht20 := RXw_cl ht19
                      refine r_iinc (pc := 236) (v := iv (v199_5 + 1)) (lv' := [(5, .int (iv (v199_5 + 1))), (0, .ref y), (2, .int (iv (sz (Int.toNat x1)))), (3, .int (iv v120_3)), (4, .int (iv v130_4))]) dX12_blocks_236 rfl (iv_add _ _) (by decide) rfl ?_
                      refine r_goto (pc := 239) (tgt := 199) dX12_blocks_239 (by decide) ?_
                      refine Rn.pick (lv' := [(0, .ref y), (2, .int (iv (sz (Int.toNat x1)))), (3, .int (iv v120_3)), (4, .int (iv v130_4)), (5, .int (iv (v199_5 + 1)))]) [1, 2, 3, 4, 0] rfl ?_
                      exact ih199 (Int.toNat (16 - (v199_5 + 1))) (by omega) (fuj cl199 (Int.toNat v199_5) ((cl199 (Int.toNat v199_5)) + ((iv (((Int.toNat v120_3 >>> Int.toNat v199_5 : Nat) : Int) % 2)).toInt64))) _ ht20 (v199_5 + 1) ⟨by omega, by omega, by omega, by omega, by (first | assumption | exact bc_st (by assumption) (hmxf (by omega) (by omega)) (by omega) (by omega) (by omega))⟩ (by omega)
              refine Rn.pick (lv' := [(0, .ref y), (2, .int (iv (sz (Int.toNat x1)))), (3, .int (iv v120_3)), (4, .int (iv v130_4)), (5, .int (iv 0))]) [1, 2, 3, 4, 0] rfl ?_
              exact B199 (Int.toNat (16 - 0)) cl120 _ ht15 0 ⟨by omega, by omega, by omega, by omega, by (first | assumption | exact bc_st (by assumption) (hmxf (by omega) (by omega)) (by omega) (by omega) (by omega))⟩ (by omega)
            · refine r_iload_n (pc := 136) dX12_blocks_136 (i := 3) rfl rfl ?_
              refine r_iconst (pc := 137) (v := iv 1) dX12_blocks_137 (by decide) ?_
              refine r_iload (pc := 138) dX12_blocks_138 rfl ?_
              refine r_ishl (pc := 140) (v := iv ((2 ^ Int.toNat v130_5 : Nat) : Int)) dX12_blocks_140 (shl_e (by omega)) ?_
              have mp140_21 : 1 ≤ 2 ^ Int.toNat v130_5 := Nat.one_le_two_pow
              have mq140_22 : 2 ^ Int.toNat v130_5 ≤ 2 ^ 15 := Nat.pow_le_pow_right (by omega) (by omega)
              have ms140 := Me_shl (Int.toNat v130_5)
              obtain ⟨z23, hz23, bz23⟩ := or_2 16 v120_3 ((2 ^ Int.toNat v130_5 : Nat) : Int) (by omega) (by omega) (by decide)
              refine r_ior (pc := 141) (v := iv z23) dX12_blocks_141 hz23 ?_
              have mez23 := Me_or hz23 (by omega) (by omega) (by omega)
              have hzv : ∀ i, Me z23 i ↔ Me v120_3 i ∨ i = Int.toNat v130_5 := fun i => by rw [mez23 i, ms140 i]
              have hzn : Int.toNat z23 < 2 ^ (Int.toNat (sz (Int.toNat x1))) := or_bd mez23 ms140 (by omega) (by omega) (by omega)
              refine r_istore (pc := 142) (lv' := [(6, .int (iv z23)), (0, .ref y), (2, .int (iv (sz (Int.toNat x1)))), (3, .int (iv v120_3)), (4, .int (iv v130_4)), (5, .int (iv v130_5))]) dX12_blocks_142 (by decide) rfl ?_
              refine r_iload (pc := 144) dX12_blocks_144 rfl ?_
              refine t_if_ne (pc := 146) (tgt := 175) dX12_blocks_146 (by decide) (by omega) (fun c146 => ?_) (fun c146 => ?_)
              · refine r_iconst (pc := 175) (v := iv 1) dX12_blocks_175 (by decide) ?_
                refine r_goto (pc := 176) (tgt := 180) dX12_blocks_176 (by decide) ?_
                refine r_istore (pc := 180) (lv' := [(4, .int (iv 1)), (6, .int (iv z23)), (0, .ref y), (2, .int (iv (sz (Int.toNat x1)))), (3, .int (iv v120_3)), (5, .int (iv v130_5))]) dX12_blocks_180 (by decide) rfl ?_
                refine r_iinc (pc := 182) (v := iv (v130_5 + 1)) (lv' := [(5, .int (iv (v130_5 + 1))), (4, .int (iv 1)), (6, .int (iv z23)), (0, .ref y), (2, .int (iv (sz (Int.toNat x1)))), (3, .int (iv v120_3))]) dX12_blocks_182 rfl (iv_add _ _) (by decide) rfl ?_
                refine r_goto (pc := 185) (tgt := 130) dX12_blocks_185 (by decide) ?_
                refine Rn.pick (lv' := [(0, .ref y), (2, .int (iv (sz (Int.toNat x1)))), (3, .int (iv v120_3)), (4, .int (iv 1)), (5, .int (iv (v130_5 + 1)))]) [3, 4, 5, 1, 0] rfl ?_
                exact ih130 (Int.toNat (16 - (v130_5 + 1))) (by omega) _ ht130 1 (v130_5 + 1) ⟨by omega, by omega, by omega, by omega, by omega, by (first | exact ly_0 _ _ _ | exact ly_1 (by assumption) (by omega) | exact ly_same hly0 (by omega) hmz | exact ly_big hzv (by omega) hzn (by omega) (Or.inl (hs161.resolve_right (fun q => by have := q.1; omega)).2) (by omega) | exact ly_big hzv (by omega) hzn (by omega) (Or.inr (hb171.resolve_right (fun q => by have := q.1; omega)).2) (by omega) | exact ly_not hly0 (by omega) hzv (by omega) (hs161.resolve_left (fun q => by have := q.1; omega)).2 (hb171.resolve_left (fun q => by have := q.1; omega)).2)⟩ (by omega)
              · have hly0 : lyP (JB be13) (Int.toNat (sz (Int.toNat x1))) v120_3 v130_5 0 := by have h8 : lyP (JB be13) (Int.toNat (sz (Int.toNat x1))) v120_3 v130_5 v130_4 := (by assumption); rw [show v130_4 = 0 by omega] at h8; exact h8
                refine r_iload (pc := 149) dX12_blocks_149 rfl ?_
                refine r_iload_n (pc := 151) dX12_blocks_151 (i := 3) rfl rfl ?_
                refine t_icmp_eq (pc := 152) (tgt := 179) dX12_blocks_152 (by decide) (by omega) (by omega) (fun c152 => ?_) (fun c152 => ?_)
                · have hmz : Me v120_3 (Int.toNat v130_5) := by have h8 := (hzv (Int.toNat v130_5)).mpr (Or.inr rfl); rw [show z23 = v120_3 by omega] at h8; exact h8
                  refine r_iconst (pc := 179) (v := iv 0) dX12_blocks_179 (by decide) ?_
                  refine r_istore (pc := 180) (lv' := [(4, .int (iv 0)), (6, .int (iv z23)), (0, .ref y), (2, .int (iv (sz (Int.toNat x1)))), (3, .int (iv v120_3)), (5, .int (iv v130_5))]) dX12_blocks_180 (by decide) rfl ?_
                  refine r_iinc (pc := 182) (v := iv (v130_5 + 1)) (lv' := [(5, .int (iv (v130_5 + 1))), (4, .int (iv 0)), (6, .int (iv z23)), (0, .ref y), (2, .int (iv (sz (Int.toNat x1)))), (3, .int (iv v120_3))]) dX12_blocks_182 rfl (iv_add _ _) (by decide) rfl ?_
                  refine r_goto (pc := 185) (tgt := 130) dX12_blocks_185 (by decide) ?_
                  refine Rn.pick (lv' := [(0, .ref y), (2, .int (iv (sz (Int.toNat x1)))), (3, .int (iv v120_3)), (4, .int (iv 0)), (5, .int (iv (v130_5 + 1)))]) [3, 4, 5, 1, 0] rfl ?_
                  exact ih130 (Int.toNat (16 - (v130_5 + 1))) (by omega) _ ht130 0 (v130_5 + 1) ⟨by omega, by omega, by omega, by omega, by omega, by (first | exact ly_0 _ _ _ | exact ly_1 (by assumption) (by omega) | exact ly_same hly0 (by omega) hmz | exact ly_big hzv (by omega) hzn (by omega) (Or.inl (hs161.resolve_right (fun q => by have := q.1; omega)).2) (by omega) | exact ly_big hzv (by omega) hzn (by omega) (Or.inr (hb171.resolve_right (fun q => by have := q.1; omega)).2) (by omega) | exact ly_not hly0 (by omega) hzv (by omega) (hs161.resolve_left (fun q => by have := q.1; omega)).2 (hb171.resolve_left (fun q => by have := q.1; omega)).2)⟩ (by omega)
                · refine r_aload_n (pc := 155) dX12_blocks_155 (i := 0) rfl rfl ?_
                  refine t_getE (pc := 156) (.ref (y + 25)) ht130 (rd_of RX_y) fX12_85 dX12_blocks_156 rfl ?_
                  refine r_iload (pc := 159) dX12_blocks_159 rfl ?_
                  refine t_zaldX (pc := 161) (t0 := 2) ht130 (rd_of RX_solid) dX12_blocks_161 rfl (by decide) (by omega) (fun b24 => ?_)
                  have rb24 := (show Rfx 65536 0 1 sd15 by assumption) (Int.toNat z23) (by omega)
                  have hs161 := hsd z23 (by omega) (by omega)
                  refine t_if_ne (pc := 162) (tgt := 175) dX12_blocks_162 (by decide) (by omega) (fun c162 => ?_) (fun c162 => ?_)
                  · refine r_iconst (pc := 175) (v := iv 1) dX12_blocks_175 (by decide) ?_
                    refine r_goto (pc := 176) (tgt := 180) dX12_blocks_176 (by decide) ?_
                    refine r_istore (pc := 180) (lv' := [(4, .int (iv 1)), (6, .int (iv z23)), (0, .ref y), (2, .int (iv (sz (Int.toNat x1)))), (3, .int (iv v120_3)), (5, .int (iv v130_5))]) dX12_blocks_180 (by decide) rfl ?_
                    refine r_iinc (pc := 182) (v := iv (v130_5 + 1)) (lv' := [(5, .int (iv (v130_5 + 1))), (4, .int (iv 1)), (6, .int (iv z23)), (0, .ref y), (2, .int (iv (sz (Int.toNat x1)))), (3, .int (iv v120_3))]) dX12_blocks_182 rfl (iv_add _ _) (by decide) rfl ?_
                    refine r_goto (pc := 185) (tgt := 130) dX12_blocks_185 (by decide) ?_
                    refine Rn.pick (lv' := [(0, .ref y), (2, .int (iv (sz (Int.toNat x1)))), (3, .int (iv v120_3)), (4, .int (iv 1)), (5, .int (iv (v130_5 + 1)))]) [3, 4, 5, 1, 0] rfl ?_
                    exact ih130 (Int.toNat (16 - (v130_5 + 1))) (by omega) _ ht130 1 (v130_5 + 1) ⟨by omega, by omega, by omega, by omega, by omega, by (first | exact ly_0 _ _ _ | exact ly_1 (by assumption) (by omega) | exact ly_same hly0 (by omega) hmz | exact ly_big hzv (by omega) hzn (by omega) (Or.inl (hs161.resolve_right (fun q => by have := q.1; omega)).2) (by omega) | exact ly_big hzv (by omega) hzn (by omega) (Or.inr (hb171.resolve_right (fun q => by have := q.1; omega)).2) (by omega) | exact ly_not hly0 (by omega) hzv (by omega) (hs161.resolve_left (fun q => by have := q.1; omega)).2 (hb171.resolve_left (fun q => by have := q.1; omega)).2)⟩ (by omega)
                  · refine r_aload_n (pc := 165) dX12_blocks_165 (i := 0) rfl rfl ?_
                    refine t_getE (pc := 166) (.ref (y + 26)) ht130 (rd_of RX_y) fX12_88 dX12_blocks_166 rfl ?_
                    refine r_iload (pc := 169) dX12_blocks_169 rfl ?_
                    refine t_zaldX (pc := 171) (t0 := 2) ht130 (rd_of RX_below) dX12_blocks_171 rfl (by decide) (by omega) (fun b25 => ?_)
                    have rb25 := (show Rfx 65536 0 1 bl120 by assumption) (Int.toNat z23) (by omega)
                    have hb171 := (show blQ (JB be13) (Int.toNat (sz (Int.toNat x1))) v120_3 bl120 by assumption) z23 (by omega) hzn
                    refine t_if_eq (pc := 172) (tgt := 179) dX12_blocks_172 (by decide) (by omega) (fun c172 => ?_) (fun c172 => ?_)
                    · refine r_iconst (pc := 179) (v := iv 0) dX12_blocks_179 (by decide) ?_
                      refine r_istore (pc := 180) (lv' := [(4, .int (iv 0)), (6, .int (iv z23)), (0, .ref y), (2, .int (iv (sz (Int.toNat x1)))), (3, .int (iv v120_3)), (5, .int (iv v130_5))]) dX12_blocks_180 (by decide) rfl ?_
                      refine r_iinc (pc := 182) (v := iv (v130_5 + 1)) (lv' := [(5, .int (iv (v130_5 + 1))), (4, .int (iv 0)), (6, .int (iv z23)), (0, .ref y), (2, .int (iv (sz (Int.toNat x1)))), (3, .int (iv v120_3))]) dX12_blocks_182 rfl (iv_add _ _) (by decide) rfl ?_
                      refine r_goto (pc := 185) (tgt := 130) dX12_blocks_185 (by decide) ?_
                      refine Rn.pick (lv' := [(0, .ref y), (2, .int (iv (sz (Int.toNat x1)))), (3, .int (iv v120_3)), (4, .int (iv 0)), (5, .int (iv (v130_5 + 1)))]) [3, 4, 5, 1, 0] rfl ?_
                      exact ih130 (Int.toNat (16 - (v130_5 + 1))) (by omega) _ ht130 0 (v130_5 + 1) ⟨by omega, by omega, by omega, by omega, by omega, by (first | exact ly_0 _ _ _ | exact ly_1 (by assumption) (by omega) | exact ly_same hly0 (by omega) hmz | exact ly_big hzv (by omega) hzn (by omega) (Or.inl (hs161.resolve_right (fun q => by have := q.1; omega)).2) (by omega) | exact ly_big hzv (by omega) hzn (by omega) (Or.inr (hb171.resolve_right (fun q => by have := q.1; omega)).2) (by omega) | exact ly_not hly0 (by omega) hzv (by omega) (hs161.resolve_left (fun q => by have := q.1; omega)).2 (hb171.resolve_left (fun q => by have := q.1; omega)).2)⟩ (by omega)
                    · refine r_iconst (pc := 175) (v := iv 1) dX12_blocks_175 (by decide) ?_
                      refine r_goto (pc := 176) (tgt := 180) dX12_blocks_176 (by decide) ?_
                      refine r_istore (pc := 180) (lv' := [(4, .int (iv 1)), (6, .int (iv z23)), (0, .ref y), (2, .int (iv (sz (Int.toNat x1)))), (3, .int (iv v120_3)), (5, .int (iv v130_5))]) dX12_blocks_180 (by decide) rfl ?_
                      refine r_iinc (pc := 182) (v := iv (v130_5 + 1)) (lv' := [(5, .int (iv (v130_5 + 1))), (4, .int (iv 1)), (6, .int (iv z23)), (0, .ref y), (2, .int (iv (sz (Int.toNat x1)))), (3, .int (iv v120_3))]) dX12_blocks_182 rfl (iv_add _ _) (by decide) rfl ?_
                      refine r_goto (pc := 185) (tgt := 130) dX12_blocks_185 (by decide) ?_
                      refine Rn.pick (lv' := [(0, .ref y), (2, .int (iv (sz (Int.toNat x1)))), (3, .int (iv v120_3)), (4, .int (iv 1)), (5, .int (iv (v130_5 + 1)))]) [3, 4, 5, 1, 0] rfl ?_
                      exact ih130 (Int.toNat (16 - (v130_5 + 1))) (by omega) _ ht130 1 (v130_5 + 1) ⟨by omega, by omega, by omega, by omega, by omega, by (first | exact ly_0 _ _ _ | exact ly_1 (by assumption) (by omega) | exact ly_same hly0 (by omega) hmz | exact ly_big hzv (by omega) hzn (by omega) (Or.inl (hs161.resolve_right (fun q => by have := q.1; omega)).2) (by omega) | exact ly_big hzv (by omega) hzn (by omega) (Or.inr (hb171.resolve_right (fun q => by have := q.1; omega)).2) (by omega) | exact ly_not hly0 (by omega) hzv (by omega) (hs161.resolve_left (fun q => by have := q.1; omega)).2 (hb171.resolve_left (fun q => by have := q.1; omega)).2)⟩ (by omega)
          refine Rn.pick (lv' := [(0, .ref y), (2, .int (iv (sz (Int.toNat x1)))), (3, .int (iv v120_3)), (4, .int (iv 0)), (5, .int (iv 0))]) [2, 3, 4, 1, 0] rfl ?_
          exact B130 (Int.toNat (16 - 0)) _ ht120 0 0 ⟨by omega, by omega, by omega, by omega, by omega, by (first | exact ly_0 _ _ _ | exact ly_1 (by assumption) (by omega) | exact ly_same hly0 (by omega) hmz | exact ly_big hzv (by omega) hzn (by omega) (Or.inl (hs161.resolve_right (fun q => by have := q.1; omega)).2) (by omega) | exact ly_big hzv (by omega) hzn (by omega) (Or.inr (hb171.resolve_right (fun q => by have := q.1; omega)).2) (by omega) | exact ly_not hly0 (by omega) hzv (by omega) (hs161.resolve_left (fun q => by have := q.1; omega)).2 (hb171.resolve_left (fun q => by have := q.1; omega)).2)⟩ (by omega)
      refine Rn.pick (lv' := [(0, .ref y), (2, .int (iv (sz (Int.toNat x1)))), (3, .int (iv (((2 ^ Int.toNat (sz (Int.toNat x1)) : Nat) : Int) - 1)))]) [1, 2, 0] rfl ?_
      exact B120 (Int.toNat ((((2 ^ Int.toNat (sz (Int.toNat x1)) : Nat) : Int) - 1))) cl bl _ ht15 (((2 ^ Int.toNat (sz (Int.toNat x1)) : Nat) : Int) - 1) ⟨by omega, by omega, by omega, by assumption, by omega, by (first | assumption | (intro s h1 h2; exfalso; omega)), by (first | exact bc_0 h0c | exact bc_end (by assumption) (by omega) (Or.inl ⟨hmxf (by omega) (by omega), by omega⟩) | exact bc_end (by assumption) (by omega) (Or.inr ⟨fun h9 => by have h8 := hmxn h9; omega, by omega⟩))⟩ (by omega)
    · refine r_iload_n (pc := 22) dX12_blocks_22 (i := 3) rfl rfl ?_
      refine t_callSI (pc := 23) (as := [.int (iv v15_3)]) (st := []) kX12_201 dX12_blocks_23 (t_X12_bitsx (d := d - 1) (x1 := v15_3) (by omega)  ht15 (by omega)) rfl (by omega) (Nat.le_of_ble_eq_true rfl) rfl (fun hp26 y28 ht27 by28 => ?_)
      have ey28 : y28 = bcI v15_3 16 := by28
      subst ey28
      have ry28 := bc_le v15_3 16
      have hto : 1 < bcI v15_3 16 → ∃ u w, Me v15_3 u ∧ Me v15_3 w ∧ u ≠ w := fun h9 => Classical.byContradiction (fun h8 => absurd (bc_ntwo (x := v15_3) (k := 16) (fun ⟨u, w, _, _, q⟩ => h8 ⟨u, w, q⟩)) (by omega))
      have htw : (∃ u w, Me v15_3 u ∧ Me v15_3 w ∧ u ≠ w) → 1 < bcI v15_3 16 := fun ⟨u, w, q1, q2, q3⟩ => bc_two ⟨u, w, Me_lt q1 (by omega), Me_lt q2 (by omega), q1, q2, q3⟩
      have hs0 : 1 < bcI v15_3 16 → 0 < v15_3 := fun h9 => Classical.byContradiction (fun h8 => by obtain ⟨u, w, q1, q2⟩ := hto h9; have e : v15_3 = 0 := (by omega); rw [e] at q1; exact Me_0 u q1)
      refine r_iconst (pc := 26) (v := iv 1) dX12_blocks_26 (by decide) ?_
      refine t_icmp_le (pc := 27) (tgt := 43) dX12_blocks_27 (by decide) (by omega) (by omega) (fun c27 => ?_) (fun c27 => ?_)
      · refine r_iconst (pc := 43) (v := iv 0) dX12_blocks_43 (by decide) ?_
        refine r_istore (pc := 44) (lv' := [(4, .int (iv 0)), (0, .ref y), (2, .int (iv (sz (Int.toNat x1)))), (3, .int (iv v15_3))]) dX12_blocks_44 (by decide) rfl ?_
        refine r_iconst (pc := 46) (v := iv 0) dX12_blocks_46 (by decide) ?_
        refine r_istore (pc := 47) (lv' := [(5, .int (iv 0)), (4, .int (iv 0)), (0, .ref y), (2, .int (iv (sz (Int.toNat x1)))), (3, .int (iv v15_3))]) dX12_blocks_47 (by decide) rfl ?_
        have B49 : ∀ k : Nat, ∀ hp49 : MH, Tw (RX Γ cI cJ cZ y rf cn nm so sz dr mn fr tt wt co nu sa wo ln hw ro qi qc nf nt nw nc cl nx ie b1_8 sd15 bl bs wy ra rb lb bg os js ls sp jw go de yb ah im) hp49 → ∀  (v49_4 : Int) (v49_5 : Int), 0 ≤ v49_4 ∧ v49_4 ≤ 1 ∧ 0 ≤ v49_5 ∧ v49_5 ≤ 16 ∧ (v49_5 ≤ (sz (Int.toNat x1))) ∧ (slP (JB be13) v15_3 v49_5 v49_4) → 16 - v49_5 ≤ (k : Int) → Rn (gG D cI cJ cZ cT lo b L xs) mX12_blocks d 49 [(0, .ref y), (2, .int (iv (sz (Int.toNat x1)))), (3, .int (iv v15_3)), (4, .int (iv v49_4)), (5, .int (iv v49_5))] [] hp49 n 0 0 Po9 := by
          refine lpS _ ?_
          intro k49 ih49 hp49 ht49 v49_4 v49_5 hf49 hm49
          obtain ⟨hf49_0, hf49_1, hf49_2, hf49_3, hf49_4, ha49_5⟩ := hf49
          refine r_iload (pc := 49) dX12_blocks_49 rfl ?_
          refine r_iload_n (pc := 51) dX12_blocks_51 (i := 2) rfl rfl ?_
          refine t_icmp_ge (pc := 52) (tgt := 100) dX12_blocks_52 (by decide) (by omega) (by omega) (fun c52 => ?_) (fun c52 => ?_)
          · refine r_aload_n (pc := 100) dX12_blocks_100 (i := 0) rfl rfl ?_
            refine t_getE (pc := 101) (.ref (y + 25)) ht49 (rd_of RX_y) fX12_85 dX12_blocks_101 rfl ?_
            refine r_iload_n (pc := 104) dX12_blocks_104 (i := 3) rfl rfl ?_
            refine r_iload (pc := 105) dX12_blocks_105 rfl ?_
            refine t_zastX (pc := 107) (t0 := 2) ht49 RX_solid dX12_blocks_107 rfl (by decide) (by omega) (by omega) (fun hp29 ht30 => ?_)
            have ht31 := RXw_sd ht30
            have hqht31 : Rfx 65536 0 1 (fup sd15 (Int.toNat v15_3) v49_4) := Rfx_up (by assumption) (by omega)
            refine r_iinc (pc := 108) (v := iv (v15_3 + 1)) (lv' := [(3, .int (iv (v15_3 + 1))), (0, .ref y), (2, .int (iv (sz (Int.toNat x1)))), (4, .int (iv v49_4)), (5, .int (iv v49_5))]) dX12_blocks_108 rfl (iv_add _ _) (by decide) rfl ?_
            refine r_goto (pc := 111) (tgt := 15) dX12_blocks_111 (by decide) ?_
            refine Rn.pick (lv' := [(0, .ref y), (2, .int (iv (sz (Int.toNat x1)))), (3, .int (iv (v15_3 + 1)))]) [1, 2, 0] rfl ?_
            exact ih15 (Int.toNat (65536 - (v15_3 + 1))) (by omega) (fup sd15 (Int.toNat v15_3) v49_4) _ ht31 (v15_3 + 1) ⟨by omega, by omega, by assumption, by omega, by (first | (intro s h1 h2; exfalso; omega) | exact sd_up (by assumption) (by omega) (sl_end (n := (Int.toNat (sz (Int.toNat x1)))) (by assumption) (by omega) (fun i hi => Me_bd hi (by omega))))⟩ (by omega)
          · refine r_iload (pc := 55) dX12_blocks_55 rfl ?_
            refine t_if_eq (pc := 57) (tgt := 100) dX12_blocks_57 (by decide) (by omega) (fun c57 => ?_) (fun c57 => ?_)
            · refine r_aload_n (pc := 100) dX12_blocks_100 (i := 0) rfl rfl ?_
              refine t_getE (pc := 101) (.ref (y + 25)) ht49 (rd_of RX_y) fX12_85 dX12_blocks_101 rfl ?_
              refine r_iload_n (pc := 104) dX12_blocks_104 (i := 3) rfl rfl ?_
              refine r_iload (pc := 105) dX12_blocks_105 rfl ?_
              refine t_zastX (pc := 107) (t0 := 2) ht49 RX_solid dX12_blocks_107 rfl (by decide) (by omega) (by omega) (fun hp32 ht33 => ?_)
              have ht34 := RXw_sd ht33
              have hqht34 : Rfx 65536 0 1 (fup sd15 (Int.toNat v15_3) v49_4) := Rfx_up (by assumption) (by omega)
              refine r_iinc (pc := 108) (v := iv (v15_3 + 1)) (lv' := [(3, .int (iv (v15_3 + 1))), (0, .ref y), (2, .int (iv (sz (Int.toNat x1)))), (4, .int (iv v49_4)), (5, .int (iv v49_5))]) dX12_blocks_108 rfl (iv_add _ _) (by decide) rfl ?_
              refine r_goto (pc := 111) (tgt := 15) dX12_blocks_111 (by decide) ?_
              refine Rn.pick (lv' := [(0, .ref y), (2, .int (iv (sz (Int.toNat x1)))), (3, .int (iv (v15_3 + 1)))]) [1, 2, 0] rfl ?_
              exact ih15 (Int.toNat (65536 - (v15_3 + 1))) (by omega) (fup sd15 (Int.toNat v15_3) v49_4) _ ht34 (v15_3 + 1) ⟨by omega, by omega, by assumption, by omega, by (first | (intro s h1 h2; exfalso; omega) | exact sd_up (by assumption) (by omega) (sl_end (n := (Int.toNat (sz (Int.toNat x1)))) (by assumption) (by omega) (fun i hi => Me_bd hi (by omega))))⟩ (by omega)
            · refine r_iload_n (pc := 60) dX12_blocks_60 (i := 3) rfl rfl ?_
              refine r_iconst (pc := 61) (v := iv 1) dX12_blocks_61 (by decide) ?_
              refine r_iload (pc := 62) dX12_blocks_62 rfl ?_
              refine r_ishl (pc := 64) (v := iv ((2 ^ Int.toNat v49_5 : Nat) : Int)) dX12_blocks_64 (shl_e (by omega)) ?_
              have mp64_35 : 1 ≤ 2 ^ Int.toNat v49_5 := Nat.one_le_two_pow
              have mq64_36 : 2 ^ Int.toNat v49_5 ≤ 2 ^ 15 := Nat.pow_le_pow_right (by omega) (by omega)
              have ms64 := Me_shl (Int.toNat v49_5)
              refine r_iconst (pc := 65) (v := iv (-1)) dX12_blocks_65 (by decide) ?_
              refine r_ixor (pc := 66) (v := iv (-((2 ^ Int.toNat v49_5 : Nat) : Int) - 1)) dX12_blocks_66 (iv_not _) ?_
              obtain ⟨z37, hz37, bz37⟩ := and_l v15_3 (-((2 ^ Int.toNat v49_5 : Nat) : Int) - 1) (by omega) (by omega)
              refine r_iand (pc := 67) (v := iv z37) dX12_blocks_67 hz37 ?_
              have mez37 := Me_not (y := ((2 ^ Int.toNat v49_5 : Nat) : Int)) hz37 (by omega) (by omega) (by omega)
              have hmi67 := mi_Me (s := v15_3) (z := z37) (x := Int.toNat v49_5) (fun i => by rw [mez37 i, ms64 i])
              have hsl1 : slP (JB be13) v15_3 v49_5 1 := by have h8 : slP (JB be13) v15_3 v49_5 v49_4 := (by assumption); rw [show v49_4 = 1 by omega] at h8; exact h8
              have hpz67 : 0 < z37 := sl_pos hsl1 mez37 ms64 (by omega)
              refine r_istore (pc := 68) (lv' := [(6, .int (iv z37)), (0, .ref y), (2, .int (iv (sz (Int.toNat x1)))), (3, .int (iv v15_3)), (4, .int (iv v49_4)), (5, .int (iv v49_5))]) dX12_blocks_68 (by decide) rfl ?_
              refine r_iload (pc := 70) dX12_blocks_70 rfl ?_
              refine r_iload_n (pc := 72) dX12_blocks_72 (i := 3) rfl rfl ?_
              refine t_icmp_eq (pc := 73) (tgt := 87) dX12_blocks_73 (by decide) (by omega) (by omega) (fun c73 => ?_) (fun c73 => ?_)
              · have hnv73 : ¬ Me v15_3 (Int.toNat v49_5) := sl_eq mez37 ms64 (by omega)
                refine r_iconst (pc := 87) (v := iv 1) dX12_blocks_87 (by decide) ?_
                refine r_goto (pc := 88) (tgt := 92) dX12_blocks_88 (by decide) ?_
                refine r_istore (pc := 92) (lv' := [(4, .int (iv 1)), (6, .int (iv z37)), (0, .ref y), (2, .int (iv (sz (Int.toNat x1)))), (3, .int (iv v15_3)), (5, .int (iv v49_5))]) dX12_blocks_92 (by decide) rfl ?_
                refine r_iinc (pc := 94) (v := iv (v49_5 + 1)) (lv' := [(5, .int (iv (v49_5 + 1))), (4, .int (iv 1)), (6, .int (iv z37)), (0, .ref y), (2, .int (iv (sz (Int.toNat x1)))), (3, .int (iv v15_3))]) dX12_blocks_94 rfl (iv_add _ _) (by decide) rfl ?_
                refine r_goto (pc := 97) (tgt := 49) dX12_blocks_97 (by decide) ?_
                refine Rn.pick (lv' := [(0, .ref y), (2, .int (iv (sz (Int.toNat x1)))), (3, .int (iv v15_3)), (4, .int (iv 1)), (5, .int (iv (v49_5 + 1)))]) [3, 4, 5, 1, 0] rfl ?_
                exact ih49 (Int.toNat (16 - (v49_5 + 1))) (by omega) _ ht49 1 (v49_5 + 1) ⟨by omega, by omega, by omega, by omega, by omega, by (first | exact Or.inl ⟨rfl, hto (by omega), hcn32.mp (by omega), fun x hx => by omega⟩ | exact Or.inr ⟨rfl, fun h9 => absurd (htw h9.1) (by omega)⟩ | exact Or.inr ⟨rfl, fun h9 => absurd (hcn32.mpr h9.2.1) (by omega)⟩ | exact sl_no hsl1 (by omega) hnv73 | exact sl_yes hsl1 (by omega) (hcn79.mp (by omega)) | exact sl_bad hmv79 (fun h9 => absurd (hcn79.mpr h9) (by omega)))⟩ (by omega)
              · refine r_aload_n (pc := 76) dX12_blocks_76 (i := 0) rfl rfl ?_
                refine r_iload (pc := 77) dX12_blocks_77 rfl ?_
                obtain ⟨fs42, hfs42⟩ := t_obj ht49 (rd_of RX_y)
                refine r_callV (pc := 79) (as := [.int (iv z37)]) (st := []) kX12_237 rfl dX12_blocks_79 hfs42 (x_X12_together (d := d - 1) (x1 := z37) (by omega) (by assumption) ht49 (by omega) (fun _ _ _ h => h)) rfl (by omega) (Nat.le_of_ble_eq_true rfl) (Nat.zero_le _) (Nat.zero_le _) rfl (fun r39 hp38 n40 hq41 => ?_)
                obtain ⟨hnn40, r9_44, ht43, hrr39, hhq410, hhq411⟩ := hq41
                subst n40 r39
                have hhq410 : 0 ≤ r9_44 ∧ r9_44 ≤ 65535 := hhq410
                have hhq411 : tgP b1_8 z37 r9_44 := hhq411
                change Rn _ _ _ 82 _ [.int (iv r9_44)] _ _ _ _ _
                have htg79 : tgP be13 z37 r9_44 := by rw [ebe]; exact hhq411
                have hcn79 : r9_44 = z37 ↔ cnS (JB be13) (mi (fun i => Me v15_3 i) (Int.toNat v49_5)) := by rw [← hmi67]; exact tg_cn hJ hpz67 (by omega) htg79
                have hmv79 : Me v15_3 (Int.toNat v49_5) := sl_ne mez37 ms64 (by omega) (by omega) (by omega)
                refine r_iload (pc := 82) dX12_blocks_82 rfl ?_
                refine t_icmp_ne (pc := 84) (tgt := 91) dX12_blocks_84 (by decide) (by omega) (by omega) (fun c84 => ?_) (fun c84 => ?_)
                · refine r_iconst (pc := 91) (v := iv 0) dX12_blocks_91 (by decide) ?_
                  refine r_istore (pc := 92) (lv' := [(4, .int (iv 0)), (6, .int (iv z37)), (0, .ref y), (2, .int (iv (sz (Int.toNat x1)))), (3, .int (iv v15_3)), (5, .int (iv v49_5))]) dX12_blocks_92 (by decide) rfl ?_
                  refine r_iinc (pc := 94) (v := iv (v49_5 + 1)) (lv' := [(5, .int (iv (v49_5 + 1))), (4, .int (iv 0)), (6, .int (iv z37)), (0, .ref y), (2, .int (iv (sz (Int.toNat x1)))), (3, .int (iv v15_3))]) dX12_blocks_94 rfl (iv_add _ _) (by decide) rfl ?_
                  refine r_goto (pc := 97) (tgt := 49) dX12_blocks_97 (by decide) ?_
                  refine Rn.pick (lv' := [(0, .ref y), (2, .int (iv (sz (Int.toNat x1)))), (3, .int (iv v15_3)), (4, .int (iv 0)), (5, .int (iv (v49_5 + 1)))]) [3, 4, 5, 1, 0] rfl ?_
                  exact ih49 (Int.toNat (16 - (v49_5 + 1))) (by omega) _ ht43 0 (v49_5 + 1) ⟨by omega, by omega, by omega, by omega, by omega, by (first | exact Or.inl ⟨rfl, hto (by omega), hcn32.mp (by omega), fun x hx => by omega⟩ | exact Or.inr ⟨rfl, fun h9 => absurd (htw h9.1) (by omega)⟩ | exact Or.inr ⟨rfl, fun h9 => absurd (hcn32.mpr h9.2.1) (by omega)⟩ | exact sl_no hsl1 (by omega) hnv73 | exact sl_yes hsl1 (by omega) (hcn79.mp (by omega)) | exact sl_bad hmv79 (fun h9 => absurd (hcn79.mpr h9) (by omega)))⟩ (by omega)
                · refine r_iconst (pc := 87) (v := iv 1) dX12_blocks_87 (by decide) ?_
                  refine r_goto (pc := 88) (tgt := 92) dX12_blocks_88 (by decide) ?_
                  refine r_istore (pc := 92) (lv' := [(4, .int (iv 1)), (6, .int (iv z37)), (0, .ref y), (2, .int (iv (sz (Int.toNat x1)))), (3, .int (iv v15_3)), (5, .int (iv v49_5))]) dX12_blocks_92 (by decide) rfl ?_
                  refine r_iinc (pc := 94) (v := iv (v49_5 + 1)) (lv' := [(5, .int (iv (v49_5 + 1))), (4, .int (iv 1)), (6, .int (iv z37)), (0, .ref y), (2, .int (iv (sz (Int.toNat x1)))), (3, .int (iv v15_3))]) dX12_blocks_94 rfl (iv_add _ _) (by decide) rfl ?_
                  refine r_goto (pc := 97) (tgt := 49) dX12_blocks_97 (by decide) ?_
                  refine Rn.pick (lv' := [(0, .ref y), (2, .int (iv (sz (Int.toNat x1)))), (3, .int (iv v15_3)), (4, .int (iv 1)), (5, .int (iv (v49_5 + 1)))]) [3, 4, 5, 1, 0] rfl ?_
                  exact ih49 (Int.toNat (16 - (v49_5 + 1))) (by omega) _ ht43 1 (v49_5 + 1) ⟨by omega, by omega, by omega, by omega, by omega, by (first | exact Or.inl ⟨rfl, hto (by omega), hcn32.mp (by omega), fun x hx => by omega⟩ | exact Or.inr ⟨rfl, fun h9 => absurd (htw h9.1) (by omega)⟩ | exact Or.inr ⟨rfl, fun h9 => absurd (hcn32.mpr h9.2.1) (by omega)⟩ | exact sl_no hsl1 (by omega) hnv73 | exact sl_yes hsl1 (by omega) (hcn79.mp (by omega)) | exact sl_bad hmv79 (fun h9 => absurd (hcn79.mpr h9) (by omega)))⟩ (by omega)
        refine Rn.pick (lv' := [(0, .ref y), (2, .int (iv (sz (Int.toNat x1)))), (3, .int (iv v15_3)), (4, .int (iv 0)), (5, .int (iv 0))]) [2, 3, 4, 1, 0] rfl ?_
        exact B49 (Int.toNat (16 - 0)) _ ht27 0 0 ⟨by omega, by omega, by omega, by omega, by omega, by (first | exact Or.inl ⟨rfl, hto (by omega), hcn32.mp (by omega), fun x hx => by omega⟩ | exact Or.inr ⟨rfl, fun h9 => absurd (htw h9.1) (by omega)⟩ | exact Or.inr ⟨rfl, fun h9 => absurd (hcn32.mpr h9.2.1) (by omega)⟩ | exact sl_no hsl1 (by omega) hnv73 | exact sl_yes hsl1 (by omega) (hcn79.mp (by omega)) | exact sl_bad hmv79 (fun h9 => absurd (hcn79.mpr h9) (by omega)))⟩ (by omega)
      · refine r_aload_n (pc := 30) dX12_blocks_30 (i := 0) rfl rfl ?_
        refine r_iload_n (pc := 31) dX12_blocks_31 (i := 3) rfl rfl ?_
        obtain ⟨fs49, hfs49⟩ := t_obj ht27 (rd_of RX_y)
        refine r_callV (pc := 32) (as := [.int (iv v15_3)]) (st := []) kX12_237 rfl dX12_blocks_32 hfs49 (x_X12_together (d := d - 1) (x1 := v15_3) (by omega) (by assumption) ht27 (by omega) (fun _ _ _ h => h)) rfl (by omega) (Nat.le_of_ble_eq_true rfl) (Nat.zero_le _) (Nat.zero_le _) rfl (fun r46 hp45 n47 hq48 => ?_)
        obtain ⟨hnn47, r9_51, ht50, hrr46, hhq480, hhq481⟩ := hq48
        subst n47 r46
        have hhq480 : 0 ≤ r9_51 ∧ r9_51 ≤ 65535 := hhq480
        have hhq481 : tgP b1_8 v15_3 r9_51 := hhq481
        change Rn _ _ _ 35 _ [.int (iv r9_51)] _ _ _ _ _
        have htg32 : tgP be13 v15_3 r9_51 := by rw [ebe]; exact hhq481
        have hcn32 := tg_cn hJ (hs0 (by omega)) (by omega) htg32
        refine r_iload_n (pc := 35) dX12_blocks_35 (i := 3) rfl rfl ?_
        refine t_icmp_ne (pc := 36) (tgt := 43) dX12_blocks_36 (by decide) (by omega) (by omega) (fun c36 => ?_) (fun c36 => ?_)
        · refine r_iconst (pc := 43) (v := iv 0) dX12_blocks_43 (by decide) ?_
          refine r_istore (pc := 44) (lv' := [(4, .int (iv 0)), (0, .ref y), (2, .int (iv (sz (Int.toNat x1)))), (3, .int (iv v15_3))]) dX12_blocks_44 (by decide) rfl ?_
          refine r_iconst (pc := 46) (v := iv 0) dX12_blocks_46 (by decide) ?_
          refine r_istore (pc := 47) (lv' := [(5, .int (iv 0)), (4, .int (iv 0)), (0, .ref y), (2, .int (iv (sz (Int.toNat x1)))), (3, .int (iv v15_3))]) dX12_blocks_47 (by decide) rfl ?_
          have B49 : ∀ k : Nat, ∀ hp49 : MH, Tw (RX Γ cI cJ cZ y rf cn nm so sz dr mn fr tt wt co nu sa wo ln hw ro qi qc nf nt nw nc cl nx ie b1_8 sd15 bl bs wy ra rb lb bg os js ls sp jw go de yb ah im) hp49 → ∀  (v49_4 : Int) (v49_5 : Int), 0 ≤ v49_4 ∧ v49_4 ≤ 1 ∧ 0 ≤ v49_5 ∧ v49_5 ≤ 16 ∧ (v49_5 ≤ (sz (Int.toNat x1))) ∧ (slP (JB be13) v15_3 v49_5 v49_4) → 16 - v49_5 ≤ (k : Int) → Rn (gG D cI cJ cZ cT lo b L xs) mX12_blocks d 49 [(0, .ref y), (2, .int (iv (sz (Int.toNat x1)))), (3, .int (iv v15_3)), (4, .int (iv v49_4)), (5, .int (iv v49_5))] [] hp49 n 0 0 Po9 := by
            refine lpS _ ?_
            intro k49 ih49 hp49 ht49 v49_4 v49_5 hf49 hm49
            obtain ⟨hf49_0, hf49_1, hf49_2, hf49_3, hf49_4, ha49_5⟩ := hf49
            refine r_iload (pc := 49) dX12_blocks_49 rfl ?_
            refine r_iload_n (pc := 51) dX12_blocks_51 (i := 2) rfl rfl ?_
            refine t_icmp_ge (pc := 52) (tgt := 100) dX12_blocks_52 (by decide) (by omega) (by omega) (fun c52 => ?_) (fun c52 => ?_)
            · refine r_aload_n (pc := 100) dX12_blocks_100 (i := 0) rfl rfl ?_
              refine t_getE (pc := 101) (.ref (y + 25)) ht49 (rd_of RX_y) fX12_85 dX12_blocks_101 rfl ?_
              refine r_iload_n (pc := 104) dX12_blocks_104 (i := 3) rfl rfl ?_
              refine r_iload (pc := 105) dX12_blocks_105 rfl ?_
              refine t_zastX (pc := 107) (t0 := 2) ht49 RX_solid dX12_blocks_107 rfl (by decide) (by omega) (by omega) (fun hp52 ht53 => ?_)
              have ht54 := RXw_sd ht53
              have hqht54 : Rfx 65536 0 1 (fup sd15 (Int.toNat v15_3) v49_4) := Rfx_up (by assumption) (by omega)
              refine r_iinc (pc := 108) (v := iv (v15_3 + 1)) (lv' := [(3, .int (iv (v15_3 + 1))), (0, .ref y), (2, .int (iv (sz (Int.toNat x1)))), (4, .int (iv v49_4)), (5, .int (iv v49_5))]) dX12_blocks_108 rfl (iv_add _ _) (by decide) rfl ?_
              refine r_goto (pc := 111) (tgt := 15) dX12_blocks_111 (by decide) ?_
              refine Rn.pick (lv' := [(0, .ref y), (2, .int (iv (sz (Int.toNat x1)))), (3, .int (iv (v15_3 + 1)))]) [1, 2, 0] rfl ?_
              exact ih15 (Int.toNat (65536 - (v15_3 + 1))) (by omega) (fup sd15 (Int.toNat v15_3) v49_4) _ ht54 (v15_3 + 1) ⟨by omega, by omega, by assumption, by omega, by (first | (intro s h1 h2; exfalso; omega) | exact sd_up (by assumption) (by omega) (sl_end (n := (Int.toNat (sz (Int.toNat x1)))) (by assumption) (by omega) (fun i hi => Me_bd hi (by omega))))⟩ (by omega)
            · refine r_iload (pc := 55) dX12_blocks_55 rfl ?_
              refine t_if_eq (pc := 57) (tgt := 100) dX12_blocks_57 (by decide) (by omega) (fun c57 => ?_) (fun c57 => ?_)
              · refine r_aload_n (pc := 100) dX12_blocks_100 (i := 0) rfl rfl ?_
                refine t_getE (pc := 101) (.ref (y + 25)) ht49 (rd_of RX_y) fX12_85 dX12_blocks_101 rfl ?_
                refine r_iload_n (pc := 104) dX12_blocks_104 (i := 3) rfl rfl ?_
                refine r_iload (pc := 105) dX12_blocks_105 rfl ?_
                refine t_zastX (pc := 107) (t0 := 2) ht49 RX_solid dX12_blocks_107 rfl (by decide) (by omega) (by omega) (fun hp55 ht56 => ?_)
                have ht57 := RXw_sd ht56
                have hqht57 : Rfx 65536 0 1 (fup sd15 (Int.toNat v15_3) v49_4) := Rfx_up (by assumption) (by omega)
                refine r_iinc (pc := 108) (v := iv (v15_3 + 1)) (lv' := [(3, .int (iv (v15_3 + 1))), (0, .ref y), (2, .int (iv (sz (Int.toNat x1)))), (4, .int (iv v49_4)), (5, .int (iv v49_5))]) dX12_blocks_108 rfl (iv_add _ _) (by decide) rfl ?_
                refine r_goto (pc := 111) (tgt := 15) dX12_blocks_111 (by decide) ?_
                refine Rn.pick (lv' := [(0, .ref y), (2, .int (iv (sz (Int.toNat x1)))), (3, .int (iv (v15_3 + 1)))]) [1, 2, 0] rfl ?_
                exact ih15 (Int.toNat (65536 - (v15_3 + 1))) (by omega) (fup sd15 (Int.toNat v15_3) v49_4) _ ht57 (v15_3 + 1) ⟨by omega, by omega, by assumption, by omega, by (first | (intro s h1 h2; exfalso; omega) | exact sd_up (by assumption) (by omega) (sl_end (n := (Int.toNat (sz (Int.toNat x1)))) (by assumption) (by omega) (fun i hi => Me_bd hi (by omega))))⟩ (by omega)
              · refine r_iload_n (pc := 60) dX12_blocks_60 (i := 3) rfl rfl ?_
                refine r_iconst (pc := 61) (v := iv 1) dX12_blocks_61 (by decide) ?_
                refine r_iload (pc := 62) dX12_blocks_62 rfl ?_
                refine r_ishl (pc := 64) (v := iv ((2 ^ Int.toNat v49_5 : Nat) : Int)) dX12_blocks_64 (shl_e (by omega)) ?_
                have mp64_58 : 1 ≤ 2 ^ Int.toNat v49_5 := Nat.one_le_two_pow
                have mq64_59 : 2 ^ Int.toNat v49_5 ≤ 2 ^ 15 := Nat.pow_le_pow_right (by omega) (by omega)
                have ms64 := Me_shl (Int.toNat v49_5)
                refine r_iconst (pc := 65) (v := iv (-1)) dX12_blocks_65 (by decide) ?_
                refine r_ixor (pc := 66) (v := iv (-((2 ^ Int.toNat v49_5 : Nat) : Int) - 1)) dX12_blocks_66 (iv_not _) ?_
                obtain ⟨z60, hz60, bz60⟩ := and_l v15_3 (-((2 ^ Int.toNat v49_5 : Nat) : Int) - 1) (by omega) (by omega)
                refine r_iand (pc := 67) (v := iv z60) dX12_blocks_67 hz60 ?_
                have mez60 := Me_not (y := ((2 ^ Int.toNat v49_5 : Nat) : Int)) hz60 (by omega) (by omega) (by omega)
                have hmi67 := mi_Me (s := v15_3) (z := z60) (x := Int.toNat v49_5) (fun i => by rw [mez60 i, ms64 i])
                have hsl1 : slP (JB be13) v15_3 v49_5 1 := by have h8 : slP (JB be13) v15_3 v49_5 v49_4 := (by assumption); rw [show v49_4 = 1 by omega] at h8; exact h8
                have hpz67 : 0 < z60 := sl_pos hsl1 mez60 ms64 (by omega)
                refine r_istore (pc := 68) (lv' := [(6, .int (iv z60)), (0, .ref y), (2, .int (iv (sz (Int.toNat x1)))), (3, .int (iv v15_3)), (4, .int (iv v49_4)), (5, .int (iv v49_5))]) dX12_blocks_68 (by decide) rfl ?_
                refine r_iload (pc := 70) dX12_blocks_70 rfl ?_
                refine r_iload_n (pc := 72) dX12_blocks_72 (i := 3) rfl rfl ?_
                refine t_icmp_eq (pc := 73) (tgt := 87) dX12_blocks_73 (by decide) (by omega) (by omega) (fun c73 => ?_) (fun c73 => ?_)
                · have hnv73 : ¬ Me v15_3 (Int.toNat v49_5) := sl_eq mez60 ms64 (by omega)
                  refine r_iconst (pc := 87) (v := iv 1) dX12_blocks_87 (by decide) ?_
                  refine r_goto (pc := 88) (tgt := 92) dX12_blocks_88 (by decide) ?_
                  refine r_istore (pc := 92) (lv' := [(4, .int (iv 1)), (6, .int (iv z60)), (0, .ref y), (2, .int (iv (sz (Int.toNat x1)))), (3, .int (iv v15_3)), (5, .int (iv v49_5))]) dX12_blocks_92 (by decide) rfl ?_
                  refine r_iinc (pc := 94) (v := iv (v49_5 + 1)) (lv' := [(5, .int (iv (v49_5 + 1))), (4, .int (iv 1)), (6, .int (iv z60)), (0, .ref y), (2, .int (iv (sz (Int.toNat x1)))), (3, .int (iv v15_3))]) dX12_blocks_94 rfl (iv_add _ _) (by decide) rfl ?_
                  refine r_goto (pc := 97) (tgt := 49) dX12_blocks_97 (by decide) ?_
                  refine Rn.pick (lv' := [(0, .ref y), (2, .int (iv (sz (Int.toNat x1)))), (3, .int (iv v15_3)), (4, .int (iv 1)), (5, .int (iv (v49_5 + 1)))]) [3, 4, 5, 1, 0] rfl ?_
                  exact ih49 (Int.toNat (16 - (v49_5 + 1))) (by omega) _ ht49 1 (v49_5 + 1) ⟨by omega, by omega, by omega, by omega, by omega, by (first | exact Or.inl ⟨rfl, hto (by omega), hcn32.mp (by omega), fun x hx => by omega⟩ | exact Or.inr ⟨rfl, fun h9 => absurd (htw h9.1) (by omega)⟩ | exact Or.inr ⟨rfl, fun h9 => absurd (hcn32.mpr h9.2.1) (by omega)⟩ | exact sl_no hsl1 (by omega) hnv73 | exact sl_yes hsl1 (by omega) (hcn79.mp (by omega)) | exact sl_bad hmv79 (fun h9 => absurd (hcn79.mpr h9) (by omega)))⟩ (by omega)
                · refine r_aload_n (pc := 76) dX12_blocks_76 (i := 0) rfl rfl ?_
                  refine r_iload (pc := 77) dX12_blocks_77 rfl ?_
                  obtain ⟨fs65, hfs65⟩ := t_obj ht49 (rd_of RX_y)
                  refine r_callV (pc := 79) (as := [.int (iv z60)]) (st := []) kX12_237 rfl dX12_blocks_79 hfs65 (x_X12_together (d := d - 1) (x1 := z60) (by omega) (by assumption) ht49 (by omega) (fun _ _ _ h => h)) rfl (by omega) (Nat.le_of_ble_eq_true rfl) (Nat.zero_le _) (Nat.zero_le _) rfl (fun r62 hp61 n63 hq64 => ?_)
                  obtain ⟨hnn63, r9_67, ht66, hrr62, hhq640, hhq641⟩ := hq64
                  subst n63 r62
                  have hhq640 : 0 ≤ r9_67 ∧ r9_67 ≤ 65535 := hhq640
                  have hhq641 : tgP b1_8 z60 r9_67 := hhq641
                  change Rn _ _ _ 82 _ [.int (iv r9_67)] _ _ _ _ _
                  have htg79 : tgP be13 z60 r9_67 := by rw [ebe]; exact hhq641
                  have hcn79 : r9_67 = z60 ↔ cnS (JB be13) (mi (fun i => Me v15_3 i) (Int.toNat v49_5)) := by rw [← hmi67]; exact tg_cn hJ hpz67 (by omega) htg79
                  have hmv79 : Me v15_3 (Int.toNat v49_5) := sl_ne mez60 ms64 (by omega) (by omega) (by omega)
                  refine r_iload (pc := 82) dX12_blocks_82 rfl ?_
                  refine t_icmp_ne (pc := 84) (tgt := 91) dX12_blocks_84 (by decide) (by omega) (by omega) (fun c84 => ?_) (fun c84 => ?_)
                  · refine r_iconst (pc := 91) (v := iv 0) dX12_blocks_91 (by decide) ?_
                    refine r_istore (pc := 92) (lv' := [(4, .int (iv 0)), (6, .int (iv z60)), (0, .ref y), (2, .int (iv (sz (Int.toNat x1)))), (3, .int (iv v15_3)), (5, .int (iv v49_5))]) dX12_blocks_92 (by decide) rfl ?_
                    refine r_iinc (pc := 94) (v := iv (v49_5 + 1)) (lv' := [(5, .int (iv (v49_5 + 1))), (4, .int (iv 0)), (6, .int (iv z60)), (0, .ref y), (2, .int (iv (sz (Int.toNat x1)))), (3, .int (iv v15_3))]) dX12_blocks_94 rfl (iv_add _ _) (by decide) rfl ?_
                    refine r_goto (pc := 97) (tgt := 49) dX12_blocks_97 (by decide) ?_
                    refine Rn.pick (lv' := [(0, .ref y), (2, .int (iv (sz (Int.toNat x1)))), (3, .int (iv v15_3)), (4, .int (iv 0)), (5, .int (iv (v49_5 + 1)))]) [3, 4, 5, 1, 0] rfl ?_
                    exact ih49 (Int.toNat (16 - (v49_5 + 1))) (by omega) _ ht66 0 (v49_5 + 1) ⟨by omega, by omega, by omega, by omega, by omega, by (first | exact Or.inl ⟨rfl, hto (by omega), hcn32.mp (by omega), fun x hx => by omega⟩ | exact Or.inr ⟨rfl, fun h9 => absurd (htw h9.1) (by omega)⟩ | exact Or.inr ⟨rfl, fun h9 => absurd (hcn32.mpr h9.2.1) (by omega)⟩ | exact sl_no hsl1 (by omega) hnv73 | exact sl_yes hsl1 (by omega) (hcn79.mp (by omega)) | exact sl_bad hmv79 (fun h9 => absurd (hcn79.mpr h9) (by omega)))⟩ (by omega)
                  · refine r_iconst (pc := 87) (v := iv 1) dX12_blocks_87 (by decide) ?_
                    refine r_goto (pc := 88) (tgt := 92) dX12_blocks_88 (by decide) ?_
                    refine r_istore (pc := 92) (lv' := [(4, .int (iv 1)), (6, .int (iv z60)), (0, .ref y), (2, .int (iv (sz (Int.toNat x1)))), (3, .int (iv v15_3)), (5, .int (iv v49_5))]) dX12_blocks_92 (by decide) rfl ?_
                    refine r_iinc (pc := 94) (v := iv (v49_5 + 1)) (lv' := [(5, .int (iv (v49_5 + 1))), (4, .int (iv 1)), (6, .int (iv z60)), (0, .ref y), (2, .int (iv (sz (Int.toNat x1)))), (3, .int (iv v15_3))]) dX12_blocks_94 rfl (iv_add _ _) (by decide) rfl ?_
                    refine r_goto (pc := 97) (tgt := 49) dX12_blocks_97 (by decide) ?_
                    refine Rn.pick (lv' := [(0, .ref y), (2, .int (iv (sz (Int.toNat x1)))), (3, .int (iv v15_3)), (4, .int (iv 1)), (5, .int (iv (v49_5 + 1)))]) [3, 4, 5, 1, 0] rfl ?_
                    exact ih49 (Int.toNat (16 - (v49_5 + 1))) (by omega) _ ht66 1 (v49_5 + 1) ⟨by omega, by omega, by omega, by omega, by omega, by (first | exact Or.inl ⟨rfl, hto (by omega), hcn32.mp (by omega), fun x hx => by omega⟩ | exact Or.inr ⟨rfl, fun h9 => absurd (htw h9.1) (by omega)⟩ | exact Or.inr ⟨rfl, fun h9 => absurd (hcn32.mpr h9.2.1) (by omega)⟩ | exact sl_no hsl1 (by omega) hnv73 | exact sl_yes hsl1 (by omega) (hcn79.mp (by omega)) | exact sl_bad hmv79 (fun h9 => absurd (hcn79.mpr h9) (by omega)))⟩ (by omega)
          refine Rn.pick (lv' := [(0, .ref y), (2, .int (iv (sz (Int.toNat x1)))), (3, .int (iv v15_3)), (4, .int (iv 0)), (5, .int (iv 0))]) [2, 3, 4, 1, 0] rfl ?_
          exact B49 (Int.toNat (16 - 0)) _ ht50 0 0 ⟨by omega, by omega, by omega, by omega, by omega, by (first | exact Or.inl ⟨rfl, hto (by omega), hcn32.mp (by omega), fun x hx => by omega⟩ | exact Or.inr ⟨rfl, fun h9 => absurd (htw h9.1) (by omega)⟩ | exact Or.inr ⟨rfl, fun h9 => absurd (hcn32.mpr h9.2.1) (by omega)⟩ | exact sl_no hsl1 (by omega) hnv73 | exact sl_yes hsl1 (by omega) (hcn79.mp (by omega)) | exact sl_bad hmv79 (fun h9 => absurd (hcn79.mpr h9) (by omega)))⟩ (by omega)
        · refine r_iconst (pc := 39) (v := iv 1) dX12_blocks_39 (by decide) ?_
          refine r_goto (pc := 40) (tgt := 44) dX12_blocks_40 (by decide) ?_
          refine r_istore (pc := 44) (lv' := [(4, .int (iv 1)), (0, .ref y), (2, .int (iv (sz (Int.toNat x1)))), (3, .int (iv v15_3))]) dX12_blocks_44 (by decide) rfl ?_
          refine r_iconst (pc := 46) (v := iv 0) dX12_blocks_46 (by decide) ?_
          refine r_istore (pc := 47) (lv' := [(5, .int (iv 0)), (4, .int (iv 1)), (0, .ref y), (2, .int (iv (sz (Int.toNat x1)))), (3, .int (iv v15_3))]) dX12_blocks_47 (by decide) rfl ?_
          have B49 : ∀ k : Nat, ∀ hp49 : MH, Tw (RX Γ cI cJ cZ y rf cn nm so sz dr mn fr tt wt co nu sa wo ln hw ro qi qc nf nt nw nc cl nx ie b1_8 sd15 bl bs wy ra rb lb bg os js ls sp jw go de yb ah im) hp49 → ∀  (v49_4 : Int) (v49_5 : Int), 0 ≤ v49_4 ∧ v49_4 ≤ 1 ∧ 0 ≤ v49_5 ∧ v49_5 ≤ 16 ∧ (v49_5 ≤ (sz (Int.toNat x1))) ∧ (slP (JB be13) v15_3 v49_5 v49_4) → 16 - v49_5 ≤ (k : Int) → Rn (gG D cI cJ cZ cT lo b L xs) mX12_blocks d 49 [(0, .ref y), (2, .int (iv (sz (Int.toNat x1)))), (3, .int (iv v15_3)), (4, .int (iv v49_4)), (5, .int (iv v49_5))] [] hp49 n 0 0 Po9 := by
            refine lpS _ ?_
            intro k49 ih49 hp49 ht49 v49_4 v49_5 hf49 hm49
            obtain ⟨hf49_0, hf49_1, hf49_2, hf49_3, hf49_4, ha49_5⟩ := hf49
            refine r_iload (pc := 49) dX12_blocks_49 rfl ?_
            refine r_iload_n (pc := 51) dX12_blocks_51 (i := 2) rfl rfl ?_
            refine t_icmp_ge (pc := 52) (tgt := 100) dX12_blocks_52 (by decide) (by omega) (by omega) (fun c52 => ?_) (fun c52 => ?_)
            · refine r_aload_n (pc := 100) dX12_blocks_100 (i := 0) rfl rfl ?_
              refine t_getE (pc := 101) (.ref (y + 25)) ht49 (rd_of RX_y) fX12_85 dX12_blocks_101 rfl ?_
              refine r_iload_n (pc := 104) dX12_blocks_104 (i := 3) rfl rfl ?_
              refine r_iload (pc := 105) dX12_blocks_105 rfl ?_
              refine t_zastX (pc := 107) (t0 := 2) ht49 RX_solid dX12_blocks_107 rfl (by decide) (by omega) (by omega) (fun hp68 ht69 => ?_)
              have ht70 := RXw_sd ht69
              have hqht70 : Rfx 65536 0 1 (fup sd15 (Int.toNat v15_3) v49_4) := Rfx_up (by assumption) (by omega)
              refine r_iinc (pc := 108) (v := iv (v15_3 + 1)) (lv' := [(3, .int (iv (v15_3 + 1))), (0, .ref y), (2, .int (iv (sz (Int.toNat x1)))), (4, .int (iv v49_4)), (5, .int (iv v49_5))]) dX12_blocks_108 rfl (iv_add _ _) (by decide) rfl ?_
              refine r_goto (pc := 111) (tgt := 15) dX12_blocks_111 (by decide) ?_
              refine Rn.pick (lv' := [(0, .ref y), (2, .int (iv (sz (Int.toNat x1)))), (3, .int (iv (v15_3 + 1)))]) [1, 2, 0] rfl ?_
              exact ih15 (Int.toNat (65536 - (v15_3 + 1))) (by omega) (fup sd15 (Int.toNat v15_3) v49_4) _ ht70 (v15_3 + 1) ⟨by omega, by omega, by assumption, by omega, by (first | (intro s h1 h2; exfalso; omega) | exact sd_up (by assumption) (by omega) (sl_end (n := (Int.toNat (sz (Int.toNat x1)))) (by assumption) (by omega) (fun i hi => Me_bd hi (by omega))))⟩ (by omega)
            · refine r_iload (pc := 55) dX12_blocks_55 rfl ?_
              refine t_if_eq (pc := 57) (tgt := 100) dX12_blocks_57 (by decide) (by omega) (fun c57 => ?_) (fun c57 => ?_)
              · refine r_aload_n (pc := 100) dX12_blocks_100 (i := 0) rfl rfl ?_
                refine t_getE (pc := 101) (.ref (y + 25)) ht49 (rd_of RX_y) fX12_85 dX12_blocks_101 rfl ?_
                refine r_iload_n (pc := 104) dX12_blocks_104 (i := 3) rfl rfl ?_
                refine r_iload (pc := 105) dX12_blocks_105 rfl ?_
                refine t_zastX (pc := 107) (t0 := 2) ht49 RX_solid dX12_blocks_107 rfl (by decide) (by omega) (by omega) (fun hp71 ht72 => ?_)
                have ht73 := RXw_sd ht72
                have hqht73 : Rfx 65536 0 1 (fup sd15 (Int.toNat v15_3) v49_4) := Rfx_up (by assumption) (by omega)
                refine r_iinc (pc := 108) (v := iv (v15_3 + 1)) (lv' := [(3, .int (iv (v15_3 + 1))), (0, .ref y), (2, .int (iv (sz (Int.toNat x1)))), (4, .int (iv v49_4)), (5, .int (iv v49_5))]) dX12_blocks_108 rfl (iv_add _ _) (by decide) rfl ?_
                refine r_goto (pc := 111) (tgt := 15) dX12_blocks_111 (by decide) ?_
                refine Rn.pick (lv' := [(0, .ref y), (2, .int (iv (sz (Int.toNat x1)))), (3, .int (iv (v15_3 + 1)))]) [1, 2, 0] rfl ?_
                exact ih15 (Int.toNat (65536 - (v15_3 + 1))) (by omega) (fup sd15 (Int.toNat v15_3) v49_4) _ ht73 (v15_3 + 1) ⟨by omega, by omega, by assumption, by omega, by (first | (intro s h1 h2; exfalso; omega) | exact sd_up (by assumption) (by omega) (sl_end (n := (Int.toNat (sz (Int.toNat x1)))) (by assumption) (by omega) (fun i hi => Me_bd hi (by omega))))⟩ (by omega)
              · refine r_iload_n (pc := 60) dX12_blocks_60 (i := 3) rfl rfl ?_
                refine r_iconst (pc := 61) (v := iv 1) dX12_blocks_61 (by decide) ?_
                refine r_iload (pc := 62) dX12_blocks_62 rfl ?_
                refine r_ishl (pc := 64) (v := iv ((2 ^ Int.toNat v49_5 : Nat) : Int)) dX12_blocks_64 (shl_e (by omega)) ?_
                have mp64_74 : 1 ≤ 2 ^ Int.toNat v49_5 := Nat.one_le_two_pow
                have mq64_75 : 2 ^ Int.toNat v49_5 ≤ 2 ^ 15 := Nat.pow_le_pow_right (by omega) (by omega)
                have ms64 := Me_shl (Int.toNat v49_5)
                refine r_iconst (pc := 65) (v := iv (-1)) dX12_blocks_65 (by decide) ?_
                refine r_ixor (pc := 66) (v := iv (-((2 ^ Int.toNat v49_5 : Nat) : Int) - 1)) dX12_blocks_66 (iv_not _) ?_
                obtain ⟨z76, hz76, bz76⟩ := and_l v15_3 (-((2 ^ Int.toNat v49_5 : Nat) : Int) - 1) (by omega) (by omega)
                refine r_iand (pc := 67) (v := iv z76) dX12_blocks_67 hz76 ?_
                have mez76 := Me_not (y := ((2 ^ Int.toNat v49_5 : Nat) : Int)) hz76 (by omega) (by omega) (by omega)
                have hmi67 := mi_Me (s := v15_3) (z := z76) (x := Int.toNat v49_5) (fun i => by rw [mez76 i, ms64 i])
                have hsl1 : slP (JB be13) v15_3 v49_5 1 := by have h8 : slP (JB be13) v15_3 v49_5 v49_4 := (by assumption); rw [show v49_4 = 1 by omega] at h8; exact h8
                have hpz67 : 0 < z76 := sl_pos hsl1 mez76 ms64 (by omega)
                refine r_istore (pc := 68) (lv' := [(6, .int (iv z76)), (0, .ref y), (2, .int (iv (sz (Int.toNat x1)))), (3, .int (iv v15_3)), (4, .int (iv v49_4)), (5, .int (iv v49_5))]) dX12_blocks_68 (by decide) rfl ?_
                refine r_iload (pc := 70) dX12_blocks_70 rfl ?_
                refine r_iload_n (pc := 72) dX12_blocks_72 (i := 3) rfl rfl ?_
                refine t_icmp_eq (pc := 73) (tgt := 87) dX12_blocks_73 (by decide) (by omega) (by omega) (fun c73 => ?_) (fun c73 => ?_)
                · have hnv73 : ¬ Me v15_3 (Int.toNat v49_5) := sl_eq mez76 ms64 (by omega)
                  refine r_iconst (pc := 87) (v := iv 1) dX12_blocks_87 (by decide) ?_
                  refine r_goto (pc := 88) (tgt := 92) dX12_blocks_88 (by decide) ?_
                  refine r_istore (pc := 92) (lv' := [(4, .int (iv 1)), (6, .int (iv z76)), (0, .ref y), (2, .int (iv (sz (Int.toNat x1)))), (3, .int (iv v15_3)), (5, .int (iv v49_5))]) dX12_blocks_92 (by decide) rfl ?_
                  refine r_iinc (pc := 94) (v := iv (v49_5 + 1)) (lv' := [(5, .int (iv (v49_5 + 1))), (4, .int (iv 1)), (6, .int (iv z76)), (0, .ref y), (2, .int (iv (sz (Int.toNat x1)))), (3, .int (iv v15_3))]) dX12_blocks_94 rfl (iv_add _ _) (by decide) rfl ?_
                  refine r_goto (pc := 97) (tgt := 49) dX12_blocks_97 (by decide) ?_
                  refine Rn.pick (lv' := [(0, .ref y), (2, .int (iv (sz (Int.toNat x1)))), (3, .int (iv v15_3)), (4, .int (iv 1)), (5, .int (iv (v49_5 + 1)))]) [3, 4, 5, 1, 0] rfl ?_
                  exact ih49 (Int.toNat (16 - (v49_5 + 1))) (by omega) _ ht49 1 (v49_5 + 1) ⟨by omega, by omega, by omega, by omega, by omega, by (first | exact Or.inl ⟨rfl, hto (by omega), hcn32.mp (by omega), fun x hx => by omega⟩ | exact Or.inr ⟨rfl, fun h9 => absurd (htw h9.1) (by omega)⟩ | exact Or.inr ⟨rfl, fun h9 => absurd (hcn32.mpr h9.2.1) (by omega)⟩ | exact sl_no hsl1 (by omega) hnv73 | exact sl_yes hsl1 (by omega) (hcn79.mp (by omega)) | exact sl_bad hmv79 (fun h9 => absurd (hcn79.mpr h9) (by omega)))⟩ (by omega)
                · refine r_aload_n (pc := 76) dX12_blocks_76 (i := 0) rfl rfl ?_
                  refine r_iload (pc := 77) dX12_blocks_77 rfl ?_
                  obtain ⟨fs81, hfs81⟩ := t_obj ht49 (rd_of RX_y)
                  refine r_callV (pc := 79) (as := [.int (iv z76)]) (st := []) kX12_237 rfl dX12_blocks_79 hfs81 (x_X12_together (d := d - 1) (x1 := z76) (by omega) (by assumption) ht49 (by omega) (fun _ _ _ h => h)) rfl (by omega) (Nat.le_of_ble_eq_true rfl) (Nat.zero_le _) (Nat.zero_le _) rfl (fun r78 hp77 n79 hq80 => ?_)
                  obtain ⟨hnn79, r9_83, ht82, hrr78, hhq800, hhq801⟩ := hq80
                  subst n79 r78
                  have hhq800 : 0 ≤ r9_83 ∧ r9_83 ≤ 65535 := hhq800
                  have hhq801 : tgP b1_8 z76 r9_83 := hhq801
                  change Rn _ _ _ 82 _ [.int (iv r9_83)] _ _ _ _ _
                  have htg79 : tgP be13 z76 r9_83 := by rw [ebe]; exact hhq801
                  have hcn79 : r9_83 = z76 ↔ cnS (JB be13) (mi (fun i => Me v15_3 i) (Int.toNat v49_5)) := by rw [← hmi67]; exact tg_cn hJ hpz67 (by omega) htg79
                  have hmv79 : Me v15_3 (Int.toNat v49_5) := sl_ne mez76 ms64 (by omega) (by omega) (by omega)
                  refine r_iload (pc := 82) dX12_blocks_82 rfl ?_
                  refine t_icmp_ne (pc := 84) (tgt := 91) dX12_blocks_84 (by decide) (by omega) (by omega) (fun c84 => ?_) (fun c84 => ?_)
                  · refine r_iconst (pc := 91) (v := iv 0) dX12_blocks_91 (by decide) ?_
                    refine r_istore (pc := 92) (lv' := [(4, .int (iv 0)), (6, .int (iv z76)), (0, .ref y), (2, .int (iv (sz (Int.toNat x1)))), (3, .int (iv v15_3)), (5, .int (iv v49_5))]) dX12_blocks_92 (by decide) rfl ?_
                    refine r_iinc (pc := 94) (v := iv (v49_5 + 1)) (lv' := [(5, .int (iv (v49_5 + 1))), (4, .int (iv 0)), (6, .int (iv z76)), (0, .ref y), (2, .int (iv (sz (Int.toNat x1)))), (3, .int (iv v15_3))]) dX12_blocks_94 rfl (iv_add _ _) (by decide) rfl ?_
                    refine r_goto (pc := 97) (tgt := 49) dX12_blocks_97 (by decide) ?_
                    refine Rn.pick (lv' := [(0, .ref y), (2, .int (iv (sz (Int.toNat x1)))), (3, .int (iv v15_3)), (4, .int (iv 0)), (5, .int (iv (v49_5 + 1)))]) [3, 4, 5, 1, 0] rfl ?_
                    exact ih49 (Int.toNat (16 - (v49_5 + 1))) (by omega) _ ht82 0 (v49_5 + 1) ⟨by omega, by omega, by omega, by omega, by omega, by (first | exact Or.inl ⟨rfl, hto (by omega), hcn32.mp (by omega), fun x hx => by omega⟩ | exact Or.inr ⟨rfl, fun h9 => absurd (htw h9.1) (by omega)⟩ | exact Or.inr ⟨rfl, fun h9 => absurd (hcn32.mpr h9.2.1) (by omega)⟩ | exact sl_no hsl1 (by omega) hnv73 | exact sl_yes hsl1 (by omega) (hcn79.mp (by omega)) | exact sl_bad hmv79 (fun h9 => absurd (hcn79.mpr h9) (by omega)))⟩ (by omega)
                  · refine r_iconst (pc := 87) (v := iv 1) dX12_blocks_87 (by decide) ?_
                    refine r_goto (pc := 88) (tgt := 92) dX12_blocks_88 (by decide) ?_
                    refine r_istore (pc := 92) (lv' := [(4, .int (iv 1)), (6, .int (iv z76)), (0, .ref y), (2, .int (iv (sz (Int.toNat x1)))), (3, .int (iv v15_3)), (5, .int (iv v49_5))]) dX12_blocks_92 (by decide) rfl ?_
                    refine r_iinc (pc := 94) (v := iv (v49_5 + 1)) (lv' := [(5, .int (iv (v49_5 + 1))), (4, .int (iv 1)), (6, .int (iv z76)), (0, .ref y), (2, .int (iv (sz (Int.toNat x1)))), (3, .int (iv v15_3))]) dX12_blocks_94 rfl (iv_add _ _) (by decide) rfl ?_
                    refine r_goto (pc := 97) (tgt := 49) dX12_blocks_97 (by decide) ?_
                    refine Rn.pick (lv' := [(0, .ref y), (2, .int (iv (sz (Int.toNat x1)))), (3, .int (iv v15_3)), (4, .int (iv 1)), (5, .int (iv (v49_5 + 1)))]) [3, 4, 5, 1, 0] rfl ?_
                    exact ih49 (Int.toNat (16 - (v49_5 + 1))) (by omega) _ ht82 1 (v49_5 + 1) ⟨by omega, by omega, by omega, by omega, by omega, by (first | exact Or.inl ⟨rfl, hto (by omega), hcn32.mp (by omega), fun x hx => by omega⟩ | exact Or.inr ⟨rfl, fun h9 => absurd (htw h9.1) (by omega)⟩ | exact Or.inr ⟨rfl, fun h9 => absurd (hcn32.mpr h9.2.1) (by omega)⟩ | exact sl_no hsl1 (by omega) hnv73 | exact sl_yes hsl1 (by omega) (hcn79.mp (by omega)) | exact sl_bad hmv79 (fun h9 => absurd (hcn79.mpr h9) (by omega)))⟩ (by omega)
          refine Rn.pick (lv' := [(0, .ref y), (2, .int (iv (sz (Int.toNat x1)))), (3, .int (iv v15_3)), (4, .int (iv 1)), (5, .int (iv 0))]) [2, 3, 4, 1, 0] rfl ?_
          exact B49 (Int.toNat (16 - 0)) _ ht50 1 0 ⟨by omega, by omega, by omega, by omega, by omega, by (first | exact Or.inl ⟨rfl, hto (by omega), hcn32.mp (by omega), fun x hx => by omega⟩ | exact Or.inr ⟨rfl, fun h9 => absurd (htw h9.1) (by omega)⟩ | exact Or.inr ⟨rfl, fun h9 => absurd (hcn32.mpr h9.2.1) (by omega)⟩ | exact sl_no hsl1 (by omega) hnv73 | exact sl_yes hsl1 (by omega) (hcn79.mp (by omega)) | exact sl_bad hmv79 (fun h9 => absurd (hcn79.mpr h9) (by omega)))⟩ (by omega)
  refine Rn.pick (lv' := [(0, .ref y), (2, .int (iv (sz (Int.toNat x1)))), (3, .int (iv 0))]) [2, 1, 0] rfl ?_
  exact B15 (Int.toNat (65536 - 0)) sd _ ht7 0 ⟨by omega, by omega, by assumption, by omega, by (first | (intro s h1 h2; exfalso; omega) | exact sd_up (by assumption) (by omega) (sl_end (n := (Int.toNat (sz (Int.toNat x1)))) (by assumption) (by omega) (fun i hi => Me_bd hi (by omega))))⟩ (by omega)
