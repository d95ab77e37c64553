/-- a partner's number -/
def mN (mt : Nat → Int) (x : Nat) : Nat := (mt x).toNat
/-- what holds while a way is looked for: even nodes, their rings, and the way back of each (its even places) -/
def bmI (R : Nat → Nat → Prop) (S : Nat → Prop) (mt pa ba : Nat → Int) (ev : Nat → Prop) (root : Nat) (rk : Nat → Nat) (L : Nat → List Nat) : Prop :=
  vmP R S mt ∧ (ev root ∧ mt root < 0 ∧ ∀ x, ev x → S x ∧ (x ≠ root → 0 ≤ mt x)) ∧
  ((∀ x, ev x → ∃ b : Nat, ba x = (b : Int) ∧ ev b ∧ ba b = (b : Int)) ∧ ∀ x, ¬ ev x → ba x = (x : Int)) ∧
  (∀ x, ev x → ba x ≠ (x : Int) → 0 ≤ mt x ∧ ev (mN mt x) ∧ ba (mN mt x) = ba x) ∧
  (∀ x, ev x → ba x = (x : Int) → x ≠ root → ¬ ev (mN mt x)) ∧
  (∀ x, ev x → x ≠ root → ∃ z : Nat, pa (mN mt x) = (z : Int) ∧ ev z ∧ R z (mN mt x) ∧ (ba x ≠ (x : Int) → ba z = ba x) ∧ (ba x = (x : Int) → rk (ba z).toNat < rk x) ∧ L x = x :: L z) ∧
  L root = [root] ∧ (∀ x, ev x → ∀ a b, a ∈ L x → b ∈ L x → mt b ≠ (a : Int)) ∧
  (∀ o, ¬ ev o → 0 ≤ pa o → S o ∧ 0 ≤ mt o ∧ ev (mN mt o)) ∧
  (∀ y, ev y → 0 ≤ pa y → y ≠ root ∧ ev (mN mt y))
section BM
variable {R : Nat → Nat → Prop} {S : Nat → Prop} {mt pa ba : Nat → Int} {ev : Nat → Prop} {root : Nat} {rk : Nat → Nat} {L : Nat → List Nat}
theorem bm_mt (h : bmI R S mt pa ba ev root rk L) {x : Nat} (hx : S x) (h0 : 0 ≤ mt x) : ((mN mt x : Nat) : Int) = mt x ∧ S (mN mt x) ∧ mt (mN mt x) = (x : Int) ∧ mN mt x ≠ x ∧ R x (mN mt x) ∧ mN mt (mN mt x) = x := by
  have e : mt x = ((mN mt x : Nat) : Int) := by unfold mN; omega
  obtain ⟨h1, h2, h3, h4⟩ := vm_at h.1 hx e
  refine ⟨e.symm, h1, h2, h3, h4, ?_⟩
  show (mt (mN mt x)).toNat = x
  rw [h2]; rfl
theorem bm_em (h : bmI R S mt pa ba ev root rk L) {x : Nat} (hx : ev x) (hr : x ≠ root) : ((mN mt x : Nat) : Int) = mt x ∧ S (mN mt x) ∧ mt (mN mt x) = (x : Int) ∧ mN mt x ≠ x ∧ R x (mN mt x) ∧ mN mt (mN mt x) = x :=
  bm_mt h (h.2.1.2.2 x hx).1 ((h.2.1.2.2 x hx).2 hr)
theorem bm_br (h : bmI R S mt pa ba ev root rk L) : ba root = (root : Int) := Classical.byContradiction (fun g => by
  have := (h.2.2.2.1 root h.2.1.1 g).1
  have := h.2.1.2.1
  omega)
/-- over the way back -/
theorem bm_ind (h : bmI R S mt pa ba ev root rk L) {P : Nat → Prop} (h0 : P root) (h1 : ∀ x z : Nat, ev x → x ≠ root → pa (mN mt x) = (z : Int) → ev z → (ba x ≠ (x : Int) → ba z = ba x) → (ba x = (x : Int) → rk (ba z).toNat < rk x) → L x = x :: L z → P z → P x) : ∀ x, ev x → P x := by
  have key : ∀ k x, ev x → (L x).length ≤ k → P x := by
    intro k
    induction k with
    | zero =>
      intro x hx hk
      by_cases e : x = root
      · rw [e]; exact h0
      · obtain ⟨z, -, -, -, -, -, z6⟩ := h.2.2.2.2.2.1 x hx e
        rw [z6, List.length_cons] at hk
        omega
    | succ k ih =>
      intro x hx hk
      by_cases e : x = root
      · rw [e]; exact h0
      · obtain ⟨z, z1, z2, z3, z4, z5, z6⟩ := h.2.2.2.2.2.1 x hx e
        refine h1 x z hx e z1 z2 z4 z5 z6 (ih z z2 ?_)
        rw [z6, List.length_cons] at hk
        omega
  exact fun x hx => key (L x).length x hx (Nat.le_refl _)
theorem bm_hd (h : bmI R S mt pa ba ev root rk L) {x : Nat} (hx : ev x) : x ∈ L x := by
  by_cases e : x = root
  · rw [e, h.2.2.2.2.2.2.1]; exact List.mem_singleton.mpr rfl
  · obtain ⟨z, -, -, -, -, -, z6⟩ := h.2.2.2.2.2.1 x hx e
    rw [z6]; exact List.mem_cons_self
theorem bm_ev (h : bmI R S mt pa ba ev root rk L) : ∀ x, ev x → ∀ y, y ∈ L x → ev y :=
  bm_ind h (P := fun x => ∀ y, y ∈ L x → ev y) (fun y hy => by
    rw [h.2.2.2.2.2.2.1] at hy
    rw [List.mem_singleton.mp hy]; exact h.2.1.1) (fun x z hx _ _ _ _ _ e ih y hy => by
    rw [e] at hy
    rcases List.mem_cons.mp hy with q | q
    · rw [q]; exact hx
    · exact ih y q)
theorem bm_sf (h : bmI R S mt pa ba ev root rk L) : ∀ x, ev x → ∀ y, y ∈ L x → ∃ pre, L x = pre ++ L y :=
  bm_ind h (P := fun x => ∀ y, y ∈ L x → ∃ pre, L x = pre ++ L y) (fun y hy => by
    rw [h.2.2.2.2.2.2.1] at hy
    rw [List.mem_singleton.mp hy]; exact ⟨[], rfl⟩) (fun x z hx _ _ _ _ _ e ih y hy => by
    rw [e] at hy
    rcases List.mem_cons.mp hy with q | q
    · rw [q]; exact ⟨[], rfl⟩
    · obtain ⟨pre, hp⟩ := ih y q
      exact ⟨x :: pre, by rw [e, hp]; rfl⟩)
theorem bm_sub (h : bmI R S mt pa ba ev root rk L) {x y z : Nat} (hx : ev x) (hy : y ∈ L x) (hz : z ∈ L y) : z ∈ L x := by
  obtain ⟨pre, e⟩ := bm_sf h x hx y hy
  rw [e]; exact List.mem_append_right pre hz
theorem bm_rt (h : bmI R S mt pa ba ev root rk L) : ∀ x, ev x → root ∈ L x :=
  bm_ind h (P := fun x => root ∈ L x) (bm_hd h h.2.1.1) (fun x z _ _ _ _ _ _ e ih => by rw [e]; exact List.mem_cons_of_mem x ih)
/-- a way back leaves a ring by its base -/
theorem bm_bs (h : bmI R S mt pa ba ev root rk L) : ∀ x, ev x → ∀ c : Nat, ba x = (c : Int) → c ∈ L x :=
  bm_ind h (P := fun x => ∀ c : Nat, ba x = (c : Int) → c ∈ L x) (fun c hc => by
    rw [bm_br h] at hc
    rw [← show root = c by omega]; exact bm_hd h h.2.1.1) (fun x z hx _ _ _ h4 _ e ih c hc => by
    by_cases q : c = x
    · rw [q]; exact bm_hd h hx
    · rw [e]
      exact List.mem_cons_of_mem x (ih c (by rw [h4 (by omega)]; exact hc)))
theorem bm_rk (h : bmI R S mt pa ba ev root rk L) : ∀ x, ev x → ∀ y, y ∈ L x → ba y = ba x ∨ rk (ba y).toNat < rk (ba x).toNat :=
  bm_ind h (P := fun x => ∀ y, y ∈ L x → ba y = ba x ∨ rk (ba y).toNat < rk (ba x).toNat) (fun y hy => by
    rw [h.2.2.2.2.2.2.1] at hy
    rw [List.mem_singleton.mp hy]; exact Or.inl rfl) (fun x z hx _ _ _ h4 h5 e ih y hy => by
    rw [e] at hy
    rcases List.mem_cons.mp hy with q | q
    · rw [q]; exact Or.inl rfl
    · by_cases c : ba x = (x : Int)
      · have h6 := h5 c
        have e1 : (ba x).toNat = x := by omega
        rw [e1]
        rcases ih y q with g | g
        · rw [g]; exact Or.inr h6
        · exact Or.inr (by omega)
      · rw [← h4 c]; exact ih y q)
theorem bm_l6 (h : bmI R S mt pa ba ev root rk L) : ∀ x, ev x → ∀ c : Nat, ba x = (c : Int) → ∀ y, y ∈ L x → ba y = ba x ∨ y ∈ L c :=
  bm_ind h (P := fun x => ∀ c : Nat, ba x = (c : Int) → ∀ y, y ∈ L x → ba y = ba x ∨ y ∈ L c) (fun c hc y hy => by
    rw [h.2.2.2.2.2.2.1] at hy
    rw [List.mem_singleton.mp hy]; exact Or.inl rfl) (fun x z hx _ _ _ h4 _ e ih c hc y hy => by
    by_cases q : c = x
    · rw [q]; exact Or.inr hy
    · have h6 := h4 (by omega)
      rw [e] at hy
      rcases List.mem_cons.mp hy with g | g
      · rw [g]; exact Or.inl rfl
      · rw [← h6]; exact ih c (by rw [h6]; exact hc) y g)
/-- both of a pair are even: they lie in one ring -/
theorem bm_pr (h : bmI R S mt pa ba ev root rk L) {x : Nat} (hx : ev x) (hr : x ≠ root) (hy : ev (mN mt x)) : ba (mN mt x) = ba x ∧ ba x ≠ (x : Int) := by
  by_cases c : ba x = (x : Int)
  · exact absurd hy (h.2.2.2.2.1 x hx c hr)
  · exact ⟨(h.2.2.2.1 x hx c).2.2, c⟩
theorem bm_n0 (h : bmI R S mt pa ba ev root rk L) {x y : Nat} (hx : ev x) (e : mt x = (y : Int)) : x ≠ root := fun q => by
  have := h.2.1.2.1
  rw [← q] at this
  omega
/-- the even places of a way differ -/
theorem bm_nd (h : bmI R S mt pa ba ev root rk L) {x z : Nat} (hx : ev x) (hz : ev z) (e : L x = x :: L z) : x ∉ L z := fun g => by
  obtain ⟨pre, e1⟩ := bm_sf h z hz x g
  have e2 := congrArg List.length e1
  rw [e, List.length_append, List.length_cons] at e2
  omega
/-- a part of a way back: h 0 .. h p -/
def wsP (mt pa ba : Nat → Int) (ev : Nat → Prop) (root : Nat) (top : Int) (v : Nat) (h : Nat → Nat) (p : Nat) : Prop := h 0 = v ∧ (∀ i, i < p → ev (h i) ∧ h i ≠ root ∧ pa (mN mt (h i)) = (h (i + 1) : Int) ∧ ba (h i) ≠ top) ∧ ev (h p) ∧ ba (h p) = top
theorem sq_L (hI : bmI R S mt pa ba ev root rk L) {top : Int} {v p : Nat} {h : Nat → Nat} (hs : wsP mt pa ba ev root top v h p) : ∀ i, i < p → L (h i) = h i :: L (h (i + 1)) := fun i hi => by
  obtain ⟨h1, h2, h3, -⟩ := hs.2.1 i hi
  obtain ⟨z, z1, -, -, -, -, z6⟩ := hI.2.2.2.2.2.1 (h i) h1 h2
  rw [h3] at z1
  rw [z6, show z = h (i + 1) by omega]
theorem sq_ev {top : Int} {v p : Nat} {h : Nat → Nat} (hs : wsP mt pa ba ev root top v h p) {i : Nat} (hi : i ≤ p) : ev (h i) := by
  by_cases e : i = p
  · rw [e]; exact hs.2.2.1
  · exact (hs.2.1 i (by omega)).1
theorem sq_in (hI : bmI R S mt pa ba ev root rk L) {top : Int} {v p : Nat} {h : Nat → Nat} (hs : wsP mt pa ba ev root top v h p) : ∀ i, i ≤ p → ∀ y, y ∈ L v ↔ (∃ j, j < i ∧ y = h j) ∨ y ∈ L (h i)
  | 0, _, y => by
    rw [hs.1]
    exact ⟨Or.inr, fun g => g.elim (fun ⟨j, hj, _⟩ => by omega) id⟩
  | i + 1, hi, y => by
    rw [sq_in hI hs i (by omega) y, sq_L hI hs i (by omega), List.mem_cons]
    constructor
    · rintro (⟨j, j1, j2⟩ | g | g)
      · exact Or.inl ⟨j, by omega, j2⟩
      · exact Or.inl ⟨i, by omega, g⟩
      · exact Or.inr g
    · rintro (⟨j, j1, j2⟩ | g)
      · by_cases e : j = i
        · rw [e] at j2; exact Or.inr (Or.inl j2)
        · exact Or.inl ⟨j, by omega, j2⟩
      · exact Or.inr (Or.inr g)
theorem sq_up (hI : bmI R S mt pa ba ev root rk L) {top : Int} {v p : Nat} {h : Nat → Nat} (hs : wsP mt pa ba ev root top v h p) {i j : Nat} (hij : i ≤ j) (hj : j ≤ p) : h j ∈ L (h i) := by
  induction j with
  | zero => rw [show i = 0 by omega]; exact bm_hd hI (sq_ev hs (by omega))
  | succ j ih =>
    by_cases e : i = j + 1
    · rw [e]; exact bm_hd hI (sq_ev hs hj)
    · have h1 := ih (by omega) (by omega)
      refine bm_sub hI (sq_ev hs (by omega)) h1 ?_
      rw [sq_L hI hs j (by omega)]
      exact List.mem_cons_of_mem _ (bm_hd hI (sq_ev hs hj))
theorem sq_ij (hI : bmI R S mt pa ba ev root rk L) {top : Int} {v p : Nat} {h : Nat → Nat} (hs : wsP mt pa ba ev root top v h p) {i j : Nat} (hi : i < p) (hj : j ≤ p) (hij : i < j) : h i ≠ h j := fun e => by
  have h1 := sq_up hI hs (i := i + 1) (j := j) (by omega) hj
  rw [← e] at h1
  exact bm_nd hI (sq_ev hs (by omega)) (sq_ev hs (by omega)) (sq_L hI hs i hi) h1
theorem sq_rk (hI : bmI R S mt pa ba ev root rk L) {top : Int} {v p : Nat} {h : Nat → Nat} (hs : wsP mt pa ba ev root top v h p) {i : Nat} (hi : i < p) : rk top.toNat < rk (ba (h i)).toNat := by
  have h1 := sq_up hI hs (i := i) (j := p) (by omega) (Nat.le_refl p)
  rcases bm_rk hI (h i) (sq_ev hs (by omega)) (h p) h1 with g | g
  · exact absurd (g.symm.trans hs.2.2.2) (hs.2.1 i hi).2.2.2
  · rw [hs.2.2.2] at g; exact g
/-- what lies on one way below the top lies not on the other -/
theorem sq_nb (hI : bmI R S mt pa ba ev root rk L) {top : Int} {v w p q : Nat} {h g : Nat → Nat} (hs : wsP mt pa ba ev root top v h p) (hg : wsP mt pa ba ev root top w g q) (hn : ∀ i, i < q → ∀ y, y ∈ L v → ba y ≠ ba (g i)) : ∀ i, i < p → ∀ y, y ∈ L w → ba y ≠ ba (h i) := fun i hi y hy e => by
  have hv : h i ∈ L v := (sq_in hI hs (i + 1) (by omega) (h i)).mpr (Or.inl ⟨i, by omega, rfl⟩)
  rcases (sq_in hI hg q (Nat.le_refl q) y).mp hy with ⟨j, j1, j2⟩ | g1
  · rw [j2] at e
    exact hn j j1 (h i) hv e.symm
  · have r1 := sq_rk hI hs hi
    rcases bm_rk hI (g q) hg.2.2.1 y g1 with g2 | g2
    · rw [hg.2.2.2] at g2
      exact (hs.2.1 i hi).2.2.2 (e.symm.trans g2)
    · rw [hg.2.2.2, e] at g2
      omega
/-- the base of a place lies among the places -/
theorem sq_bs (hI : bmI R S mt pa ba ev root rk L) {top : Int} {v p : Nat} {h : Nat → Nat} (hs : wsP mt pa ba ev root top v h p) {i c : Nat} (hi : i < p) (hc : ba (h i) = (c : Int)) : ∃ j, j < p ∧ c = h j := by
  have h1 := bm_bs hI (h i) (sq_ev hs (by omega)) c hc
  have h2 : h i ∈ L v := (sq_in hI hs (i + 1) (by omega) (h i)).mpr (Or.inl ⟨i, by omega, rfl⟩)
  have hv : ev v := by have := sq_ev hs (i := 0) (by omega); rw [hs.1] at this; exact this
  have h3 := bm_sub hI hv h2 h1
  rcases (sq_in hI hs p (Nat.le_refl p) c).mp h3 with ⟨j, j1, j2⟩ | g
  · exact ⟨j, j1, j2⟩
  · exfalso
    have r1 := sq_rk hI hs hi
    obtain ⟨b, b1, b2, b3⟩ := hI.2.2.1.1 (h i) (sq_ev hs (by omega))
    have eb : b = c := by omega
    rw [eb] at b3
    rcases bm_rk hI (h p) hs.2.2.1 c g with g2 | g2
    · rw [b3, hs.2.2.2] at g2
      exact (hs.2.1 i hi).2.2.2 (by rw [hc]; exact g2)
    · rw [b3, hs.2.2.2] at g2
      rw [hc] at r1
      omega
end BM
