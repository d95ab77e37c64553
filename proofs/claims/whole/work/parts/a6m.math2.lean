theorem hdV_eq {m : Nat} {d : Int} {F T W : Nat → Int} {kind j own : Int} {c c' : Nat → Int64} {n : Int} {v : Nat} (h : eqB c c' n) (hv : (v : Int) < n) (hF : ∀ k, k < m → (0 ≤ F k ∧ F k < n) ∧ (0 ≤ T k ∧ T k < n)) : hdV m d F T W kind j own c v = hdV m d F T W kind j own c' v := by
  unfold hdV
  rw [hdA_eq h v hF, h v hv]
theorem rn_up {m : Nat} {d : Int} {F T W : Nat → Int} {kind j own : Int} {c0 cl : Nat → Int64} {n r v : Int} (h : eqB cl (rnC m d F T W kind j own c0 (r.toNat + 1)) v) (h0 : 0 ≤ r) (hn : n ≤ v) : eqB cl (rnC m d F T W kind j own c0 (r + 1).toNat) n := by
  intro u hu
  rw [tn1 h0]; exact h u (by omega)
theorem RC_pt {R : Nat → Nat → Prop} {z : Int} {v : Nat} (h : ∀ x, Me z x ↔ x = v) (j : Nat) : RC R (fun x => Me z x) j ↔ RC R (fun x => x = v) j :=
  ⟨RC_mono (fun _ _ q => q) (fun x q => (h x).mp q), RC_mono (fun _ _ q => q) (fun x q => (h x).mpr q)⟩
theorem RC_bd {m : Nat} {d : Int} {F T : Nat → Int} {n : Int} (hF : ∀ k, k < m → (0 ≤ F k ∧ F k < n) ∧ (0 ≤ T k ∧ T k < n)) {v j : Nat} (hv : (v : Int) < n) (h : RC (stP m d F T) (fun x => x = v) j) : (j : Int) < n :=
  h (fun x => (x : Int) < n) (fun x e => by rw [e]; exact hv) (fun i j _ hr => by
    obtain ⟨k, q1, q2⟩ := hr
    have := hF k q1
    rcases q2 with ⟨e1, e2⟩ | ⟨e0, e1, e2⟩ <;> omega)
/-- nodes to which one gets there and back, below u -/
def sbQ (R : Nat → Nat → Prop) (v : Nat) (u both : Int) : Prop := ∀ j : Nat, Me both j ↔ (j : Int) < u ∧ RC R (fun x => x = v) j ∧ RC R (fun x => x = j) v
theorem sbQ_0 (R : Nat → Nat → Prop) (v : Nat) : sbQ R v 0 0 := fun j => ⟨fun h => absurd h (Me_0 j), fun h => by omega⟩
theorem sbQ_y {R : Nat → Nat → Prop} {v : Nat} {u both z b : Int} (h : sbQ R v u both) (h0 : 0 ≤ u) (hz : ∀ i, Me z i ↔ Me both i ∨ Me b i) (hb : ∀ i, Me b i ↔ i = u.toNat) (h1 : RC R (fun x => x = v) u.toNat) (h2 : RC R (fun x => x = u.toNat) v) : sbQ R v (u + 1) z := by
  intro j
  rw [hz j, hb j, h j]
  constructor
  · rintro (⟨q1, q2⟩ | q)
    · exact ⟨by omega, q2⟩
    · subst q; exact ⟨by omega, h1, h2⟩
  · rintro ⟨q1, q2⟩
    by_cases e : j = u.toNat
    · exact Or.inr e
    · exact Or.inl ⟨by omega, q2⟩
theorem sbQ_n {R : Nat → Nat → Prop} {v : Nat} {u both z : Int} (h : sbQ R v u both) (h0 : 0 ≤ u) (hz : ∀ i, Me z i ↔ Me both i ∨ Me 0 i) (h1 : ¬ (RC R (fun x => x = v) u.toNat ∧ RC R (fun x => x = u.toNat) v)) : sbQ R v (u + 1) z := by
  intro j
  rw [hz j, h j]
  constructor
  · rintro (⟨q1, q2⟩ | q)
    · exact ⟨by omega, q2⟩
    · exact absurd q (Me_0 j)
  · rintro ⟨q1, q2⟩
    by_cases e : j = u.toNat
    · subst e; exact absurd q2 h1
    · exact Or.inl ⟨by omega, q2⟩
def slQ (R : Nat → Nat → Prop) (n v : Int) (lb : Nat → Int) : Prop := ∀ u : Nat, (u : Int) < v → sbQ R u n (lb u)
theorem slQ_up {R : Nat → Nat → Prop} {n v u both : Int} {lb : Nat → Int} (h : slQ R n v lb) (h0 : 0 ≤ v) (hb : sbQ R v.toNat u both) (hu : u = n) : slQ R n (v + 1) (fup lb v.toNat both) := by
  intro w hw
  by_cases e : w = v.toNat
  · subst e; rw [fup_s, ← hu]; exact hb
  · rw [fup_o _ _ e]; exact h w (by omega)
theorem ptE_0 {m : Nat} {d : Int} {F T : Nat → Int} {nu : Nat → Int64} {n : Int} {lb : Nat → Int} (h : slQ (stP m d F T) n n lb) (hr : ∀ i, i < 16 → 0 ≤ lb i) (hn : n ≤ 16) (hF : ∀ k, k < m → (0 ≤ F k ∧ F k < n) ∧ (0 ≤ T k ∧ T k < n)) : ∀ u v, u < n.toNat → v < n.toNat → (lb u = lb v ↔ ptE m d F T nu 0 u v) := by
  intro u v hu hv
  have iff : ptE m d F T nu 0 u v ↔ RC (stP m d F T) (fun x => x = v) u ∧ RC (stP m d F T) (fun x => x = u) v := ⟨fun q => q.1 rfl, fun q => ⟨fun _ => q, fun e => by omega, fun e => by omega, fun e => by omega, fun e => by omega⟩⟩
  rw [iff]
  constructor
  · intro e
    have h1 := (h u (by omega) u).mpr ⟨by omega, RC_in rfl, RC_in rfl⟩
    rw [e] at h1
    exact ((h v (by omega) u).mp h1).2
  · rintro ⟨q1, q2⟩
    apply Me_ext (hr u (by omega)) (hr v (by omega))
    intro j
    rw [h u (by omega) j, h v (by omega) j]
    exact ⟨fun ⟨a1, a2, a3⟩ => ⟨a1, RC_tr q1 a2, RC_tr a3 q2⟩, fun ⟨a1, a2, a3⟩ => ⟨a1, RC_tr q2 a2, RC_tr a3 q1⟩⟩
theorem pt_w {m : Nat} {d : Int} {F T : Nat → Int} {nu : Nat → Int64} {n kind : Int} {lb be : Nat → Int} {R : Nat → Nat → Prop} (h : ∀ v : Nat, (v : Int) < n → ∀ j, Me (lb v) j ↔ RC (JB be) (fun x => x = v) j) (hs : ∀ i j, JB be i j → JB be j i) (hr : ∀ i, i < 16 → 0 ≤ lb i) (hn : n ≤ 16) (hJ : ∀ i j, JB be i j ↔ R i j) (hk : (kind = 1 ∧ R = joX m F T (fun _ => True)) ∨ (kind = 2 ∧ R = joX m F T (fun k => ¬ brX m F T (fun _ => True) k))) : ∀ u v, u < n.toNat → v < n.toNat → (lb u = lb v ↔ ptE m d F T nu kind u v) := by
  intro u v hu hv
  have iff : ptE m d F T nu kind u v ↔ RC R (fun x => x = v) u := by
    rcases hk with ⟨k1, k2⟩ | ⟨k1, k2⟩
    · subst k2; subst k1; exact ⟨fun q => q.2.1 rfl, fun q => ⟨fun e => by omega, fun _ => q, fun e => by omega, fun e => by omega, fun e => by omega⟩⟩
    · subst k2; subst k1; exact ⟨fun q => q.2.2.1 rfl, fun q => ⟨fun e => by omega, fun e => by omega, fun _ => q, fun e => by omega, fun e => by omega⟩⟩
  rw [iff, ← RC_iff hJ u]
  constructor
  · intro e
    have h1 := (h u (by omega) u).mpr (RC_in rfl)
    rw [e] at h1
    exact (h v (by omega) u).mp h1
  · intro q
    apply Me_ext (hr u (by omega)) (hr v (by omega))
    intro j
    rw [h u (by omega) j, h v (by omega) j]
    exact ⟨fun a => RC_tr q a, fun a => RC_tr (RC_sym hs q) a⟩
theorem pt_3 {m : Nat} {d : Int} {F T : Nat → Int} {nu : Nat → Int64} {n : Int} {lb os js : Nat → Int} (h : lqP (fun u v => os u = os v ∧ js u = js v) lb n) (ho : sbP os m d F T n) (hj : sbP js m d T F n) (hro : ∀ i, i < 16 → 0 ≤ os i) (hrj : ∀ i, i < 16 → 0 ≤ js i) (hn : 0 ≤ n ∧ n ≤ 16) : ∀ u v, u < n.toNat → v < n.toNat → (lb u = lb v ↔ ptE m d F T nu 3 u v) := by
  intro u v hu hv
  have e0 : n = ((n.toNat : Nat) : Int) := by omega
  have h' : lqP (fun u v => os u = os v ∧ js u = js v) lb ((n.toNat : Nat) : Int) := by rw [← e0]; exact h
  rw [lq_eq h' (fun _ => ⟨rfl, rfl⟩) (fun _ _ q => ⟨q.1.symm, q.2.symm⟩) (fun _ _ _ q r => ⟨q.1.trans r.1, q.2.trans r.2⟩) hu hv]
  have go_sw : ∀ (k : Nat) (a b : Int), goP d T F k a b ↔ goP d F T k b a := fun k a b => ⟨fun q => q.elim (fun g => Or.inl ⟨g.2, g.1⟩) (fun g => Or.inr ⟨g.1, g.2.2, g.2.1⟩), fun q => q.elim (fun g => Or.inl ⟨g.2, g.1⟩) (fun g => Or.inr ⟨g.1, g.2.2, g.2.1⟩)⟩
  have jiff : ∀ w : Nat, (w : Int) < n → ∀ j : Nat, Me (js w) j ↔ ∃ k, k < m ∧ F k ≠ T k ∧ goP d F T k (j : Int) (w : Int) := fun w hw j => by
    rw [hj w hw j]
    exact ⟨fun ⟨k, a, b, c⟩ => ⟨k, a, fun e => b e.symm, (go_sw k _ _).mp c⟩, fun ⟨k, a, b, c⟩ => ⟨k, a, fun e => b e.symm, (go_sw k _ _).mpr c⟩⟩
  constructor
  · rintro ⟨q1, q2⟩
    refine ⟨fun e => by omega, fun e => by omega, fun e => by omega, fun _ => ⟨fun j => ?_, fun j => ?_⟩, fun e => by omega⟩
    · rw [← ho u (by omega) j, ← ho v (by omega) j, q1]
    · rw [← jiff u (by omega) j, ← jiff v (by omega) j, q2]
  · intro q
    obtain ⟨q1, q2⟩ := q.2.2.2.1 rfl
    refine ⟨Me_ext (hro u (by omega)) (hro v (by omega)) (fun j => ?_), Me_ext (hrj u (by omega)) (hrj v (by omega)) (fun j => ?_)⟩
    · rw [ho u (by omega) j, ho v (by omega) j]; exact q1 j
    · rw [jiff u (by omega) j, jiff v (by omega) j]; exact q2 j
theorem pt_4 {m : Nat} {d : Int} {F T : Nat → Int} {nu : Nat → Int64} {n : Int} {lb : Nat → Int} (h : lqP (fun u v => nu u = nu v) lb n) (hn : 0 ≤ n) : ∀ u v, u < n.toNat → v < n.toNat → (lb u = lb v ↔ ptE m d F T nu 4 u v) := by
  intro u v hu hv
  have e0 : n = ((n.toNat : Nat) : Int) := by omega
  have h' : lqP (fun u v => nu u = nu v) lb ((n.toNat : Nat) : Int) := by rw [← e0]; exact h
  rw [lq_eq h' (fun _ => rfl) (fun _ _ q => q.symm) (fun _ _ _ q r => q.trans r) hu hv]
  exact ⟨fun q => ⟨fun e => by omega, fun e => by omega, fun e => by omega, fun e => by omega, fun _ => q⟩, fun q => q.2.2.2.2 rfl⟩
theorem joX_iff {m : Nat} {F T : Nat → Int} {X Y : Nat → Prop} (h : ∀ k, k < m → (X k ↔ Y k)) (i j : Nat) : joX m F T X i j ↔ joX m F T Y i j :=
  ⟨fun ⟨k, q1, q2, q3⟩ => ⟨k, q1, (h k q1).mp q2, q3⟩, fun ⟨k, q1, q2, q3⟩ => ⟨k, q1, (h k q1).mpr q2, q3⟩⟩
theorem bg_iff1 {m : Nat} {F T : Nat → Int} {K : Int} {bg : Nat → Int} {k : Nat} (h : bgP m F T K bg) (hk : (k : Int) < K) : (fun k => bg k = 0) k ↔ (fun k => ¬ brX m F T (fun _ => True) k) k := by
  show bg k = 0 ↔ ¬ brX m F T (fun _ => True) k
  rcases h k hk with ⟨q1, q2⟩ | ⟨q1, q2⟩
  · exact ⟨fun e => by omega, fun e => absurd q2 e⟩
  · exact ⟨fun _ => q2, fun _ => q1⟩
theorem bg_iff0 {m : Nat} {F T : Nat → Int} {K : Int} {bg : Nat → Int} {k : Nat} (h : bgP m F T K bg) (hz : ∀ j : Nat, (j : Int) < K → bg j = 0) (hk : (k : Int) < K) : (fun k : Nat => (k : Int) ≠ -1) k ↔ (fun k => ¬ brX m F T (fun _ => True) k) k := by
  show (k : Int) ≠ -1 ↔ ¬ brX m F T (fun _ => True) k
  have e := hz k hk
  rcases h k hk with ⟨q1, q2⟩ | ⟨q1, q2⟩
  · omega
  · exact ⟨fun _ => q2, fun _ => by omega⟩
/-- why a call that asks is refused -/
noncomputable def dn1 (cn : Int) (so : Nat → Int) (x s : Int) (bad : Prop) : Int := hdQ (¬ (0 ≤ x ∧ x < cn)) (-1) (hdQ (so x.toNat ≠ s) (-2) (hdQ bad (-3) 0))
noncomputable def dn2 (cn : Int) (so : Nat → Int) (x s y t : Int) (bad : Prop) : Int := hdQ (¬ (0 ≤ x ∧ x < cn ∧ 0 ≤ y ∧ y < cn)) (-1) (hdQ (¬ (so x.toNat = s ∧ so y.toNat = t)) (-2) (hdQ bad (-3) 0))
def ofV (N D M : Int) (F T W C : Nat → Int) (what : Int) (k : Nat) : Int := if what = 0 then N else if what = 1 then M else if what = 2 then D else if what = 3 then F k else if what = 4 then T k else if what = 5 then W k else C k
def suA (f : Nat → Int64) : Nat → Int64
  | 0 => 0
  | k + 1 => suA f k + f k
theorem su_up {f : Nat → Int64} {s : Int64} {v : Int} (h : s = suA f v.toNat) (h0 : 0 ≤ v) : s + f v.toNat = suA f (v + 1).toNat := by
  rw [tn1 h0, h]; rfl
/-- the nodes of a part -/
def mbP (q : Nat → Int) (v : Int) (k : Int) (set : Int) : Prop := ∀ j : Nat, Me set j ↔ (j : Int) < v ∧ q j = k
theorem mb_0 (q : Nat → Int) (k : Int) : mbP q 0 k 0 := fun j => ⟨fun h => absurd h (Me_0 j), fun h => by omega⟩
theorem mb_y {q : Nat → Int} {v k set z b : Int} (h : mbP q v k set) (h0 : 0 ≤ v) (hz : ∀ i, Me z i ↔ Me set i ∨ Me b i) (hb : ∀ i, Me b i ↔ i = v.toNat) (hq : q v.toNat = k) : mbP q (v + 1) k z := by
  intro j
  rw [hz j, hb j, h j]
  constructor
  · rintro (⟨q1, q2⟩ | e)
    · exact ⟨by omega, q2⟩
    · subst e; exact ⟨by omega, hq⟩
  · rintro ⟨q1, q2⟩
    by_cases e : j = v.toNat
    · exact Or.inr e
    · exact Or.inl ⟨by omega, q2⟩
theorem mb_n {q : Nat → Int} {v k set z : Int} (h : mbP q v k set) (h0 : 0 ≤ v) (hz : ∀ i, Me z i ↔ Me set i ∨ Me 0 i) (hq : q v.toNat ≠ k) : mbP q (v + 1) k z := by
  intro j
  rw [hz j, h j]
  constructor
  · rintro (⟨q1, q2⟩ | e)
    · exact ⟨by omega, q2⟩
    · exact absurd e (Me_0 j)
  · rintro ⟨q1, q2⟩
    by_cases e : j = v.toNat
    · subst e; exact absurd q2 hq
    · exact Or.inl ⟨by omega, q2⟩
