/-- a list is the way back of a node, by the pointers -/
def zyP (mt pa : Nat → Int) (root : Nat) : List Nat → Nat → Prop
  | [], _ => False
  | y :: l, x => y = x ∧ ((x = root ∧ l = []) ∨ (x ≠ root ∧ zyP mt pa root l (pa (mN mt x)).toNat))
theorem zy_uq {mt pa : Nat → Int} {root : Nat} : ∀ {l l' : List Nat} {x : Nat}, zyP mt pa root l x → zyP mt pa root l' x → l = l'
  | [], _, _, h, _ => absurd h id
  | _ :: _, [], _, _, h => absurd h id
  | y :: l, y' :: l', x, ⟨h1, h2⟩, ⟨g1, g2⟩ => by
    rw [h1, g1]
    congr 1
    rcases h2 with ⟨h3, h4⟩ | ⟨h3, h4⟩
    · rcases g2 with ⟨g3, g4⟩ | ⟨g3, g4⟩
      · rw [h4, g4]
      · exact absurd h3 g3
    · rcases g2 with ⟨g3, g4⟩ | ⟨g3, g4⟩
      · exact absurd g3 h3
      · exact zy_uq h4 g4
theorem zy_tr {mt pa pa' : Nat → Int} {root : Nat} : ∀ {l : List Nat} {x : Nat}, zyP mt pa root l x → (∀ y, y ∈ l → y ≠ root → pa' (mN mt y) = pa (mN mt y)) → zyP mt pa' root l x
  | [], _, h, _ => h
  | y :: l, x, ⟨h1, h2⟩, hp => by
    refine ⟨h1, ?_⟩
    rcases h2 with h3 | ⟨h3, h4⟩
    · exact Or.inl h3
    · refine Or.inr ⟨h3, ?_⟩
      rw [hp x (by rw [h1]; exact List.mem_cons_self) h3]
      exact zy_tr h4 (fun z hz => hp z (List.mem_cons_of_mem y hz))
section RG
variable {R : Nat → Nat → Prop} {S : Nat → Prop} {mt pa ba : Nat → Int} {ev : Nat → Prop} {root : Nat} {rk : Nat → Nat} {L : Nat → List Nat}
theorem bm_wy (h : bmI R S mt pa ba ev root rk L) : ∀ x, ev x → zyP mt pa root (L x) x :=
  bm_ind h (P := fun x => zyP mt pa root (L x) x) (by
    rw [h.2.2.2.2.2.2.1]; exact ⟨rfl, Or.inl ⟨rfl, rfl⟩⟩) (fun x z hx hr h1 _ _ _ e ih => by
    rw [e]
    exact ⟨rfl, Or.inr ⟨hr, by rw [h1]; exact ih⟩⟩)
/-- the rest of the invariant, and a free way back of each -/
theorem bm_mk (h1 : vmP R S mt) (h2 : ev root ∧ mt root < 0 ∧ ∀ x, ev x → S x ∧ (x ≠ root → 0 ≤ mt x)) (h3 : (∀ x, ev x → ∃ b : Nat, ba x = (b : Int) ∧ ev b ∧ ba b = (b : Int)) ∧ ∀ x, ¬ ev x → ba x = (x : Int)) (h4 : ∀ x, ev x → ba x ≠ (x : Int) → 0 ≤ mt x ∧ ev (mN mt x) ∧ ba (mN mt x) = ba x) (h5 : ∀ x, ev x → ba x = (x : Int) → x ≠ root → ¬ ev (mN mt x)) (h6 : ∀ x, ev x → x ≠ root → ∃ z : Nat, pa (mN mt x) = (z : Int) ∧ ev z ∧ R z (mN mt x) ∧ (ba x ≠ (x : Int) → ba z = ba x) ∧ (ba x = (x : Int) → rk (ba z).toNat < rk x)) (h7 : ∀ x, ev x → ∃ l, zyP mt pa root l x ∧ ∀ a b, a ∈ l → b ∈ l → mt b ≠ (a : Int)) (h8 : ∀ o, ¬ ev o → 0 ≤ pa o → S o ∧ 0 ≤ mt o ∧ ev (mN mt o)) (h9 : ∀ y, ev y → 0 ≤ pa y → y ≠ root ∧ ev (mN mt y)) : ∃ L, bmI R S mt pa ba ev root rk L := by
  have hw : ∀ x, ev x → zyP mt pa root (Classical.epsilon (fun l => zyP mt pa root l x)) x := fun x hx => by
    obtain ⟨l, l1, -⟩ := h7 x hx
    exact Classical.epsilon_spec (p := fun l => zyP mt pa root l x) ⟨l, l1⟩
  refine ⟨fun x => Classical.epsilon (fun l => zyP mt pa root l x), h1, h2, h3, h4, h5, fun x hx hr => ?_, ?_, fun x hx a b ha hb => ?_, h8, h9⟩
  · obtain ⟨z, z1, z2, z3, z4, z5⟩ := h6 x hx hr
    refine ⟨z, z1, z2, z3, z4, z5, ?_⟩
    refine zy_uq (hw x hx) ⟨rfl, Or.inr ⟨hr, ?_⟩⟩
    rw [z1]
    exact hw z z2
  · exact zy_uq (hw root h2.1) ⟨rfl, Or.inl ⟨rfl, rfl⟩⟩
  · obtain ⟨l, l1, l2⟩ := h7 x hx
    have e : Classical.epsilon (fun l => zyP mt pa root l x) = l := zy_uq (hw x hx) l1
    have ha1 : a ∈ Classical.epsilon (fun l => zyP mt pa root l x) := ha
    have hb1 : b ∈ Classical.epsilon (fun l => zyP mt pa root l x) := hb
    rw [e] at ha1 hb1
    exact l2 a b ha1 hb1
/-- the other way round a ring -/
def plF (mt : Nat → Int) (h : Nat → Nat) (A : List Nat) : Nat → List Nat
  | 0 => A
  | i + 1 => mN mt (h i) :: plF mt h A i
theorem pl_in {h : Nat → Nat} {A : List Nat} : ∀ {i : Nat} {a : Nat}, a ∈ plF mt h A i → (∃ j, j < i ∧ a = mN mt (h j)) ∨ a ∈ A
  | 0, _, ha => Or.inr ha
  | i + 1, a, ha => by
    rcases List.mem_cons.mp (show a ∈ mN mt (h i) :: plF mt h A i from ha) with q | q
    · exact Or.inl ⟨i, by omega, q⟩
    · rcases pl_in q with ⟨j, j1, j2⟩ | g
      · exact Or.inl ⟨j, by omega, j2⟩
      · exact Or.inr g
theorem pl_wy {pa' : Nat → Int} {h : Nat → Nat} {w p : Nat} {A : List Nat} (hA : zyP mt pa' root A w) (hm : ∀ i, i < p → mN mt (mN mt (h i)) = h i ∧ mN mt (h i) ≠ root) (hp : ∀ i, i < p → pa' (h i) = if i = 0 then (w : Int) else ((mN mt (h (i - 1)) : Nat) : Int)) : ∀ i, i ≤ p → zyP mt pa' root (plF mt h A i) (if i = 0 then w else mN mt (h (i - 1)))
  | 0, _ => by rw [if_pos rfl]; exact hA
  | i + 1, hi => by
    rw [if_neg (by omega), show i + 1 - 1 = i by omega]
    refine ⟨rfl, Or.inr ⟨(hm i (by omega)).2, ?_⟩⟩
    rw [(hm i (by omega)).1, hp i (by omega)]
    have ih := pl_wy hA hm hp i (by omega)
    by_cases e : i = 0
    · rw [if_pos e] at ih ⊢; exact ih
    · rw [if_neg e] at ih ⊢; exact ih
/-- two ways up to the first common base; v and w are joined -/
def rgP (R : Nat → Nat → Prop) (mt pa ba : Nat → Int) (ev : Nat → Prop) (root : Nat) (L : Nat → List Nat) (top : Int) (v w : Nat) (h g : Nat → Nat) (p q : Nat) : Prop := wsP mt pa ba ev root top v h p ∧ wsP mt pa ba ev root top w g q ∧ (∀ i, i < p → ∀ y, y ∈ L w → ba y ≠ ba (h i)) ∧ (∀ i, i < q → ∀ y, y ∈ L v → ba y ≠ ba (g i)) ∧ R v w ∧ R w v
theorem rg_sy {top : Int} {v w p q : Nat} {h g : Nat → Nat} (hr : rgP R mt pa ba ev root L top v w h g p q) : rgP R mt pa ba ev root L top w v g h q p := ⟨hr.2.1, hr.1, hr.2.2.2.1, hr.2.2.1, hr.2.2.2.2.2, hr.2.2.2.2.1⟩
theorem rg_ev {top : Int} {v w p q : Nat} {h g : Nat → Nat} (hr : rgP R mt pa ba ev root L top v w h g p q) : ev v := by
  have := sq_ev hr.1 (i := 0) (by omega)
  rw [hr.1.1] at this; exact this
theorem rg_hv (hI : bmI R S mt pa ba ev root rk L) {top : Int} {v w p q : Nat} {h g : Nat → Nat} (hr : rgP R mt pa ba ev root L top v w h g p q) {i : Nat} (hi : i < p) : h i ∈ L v := (sq_in hI hr.1 (i + 1) (by omega) (h i)).mpr (Or.inl ⟨i, by omega, rfl⟩)
/-- the pointers that change are not those of w's way -/
theorem rg_nw (hI : bmI R S mt pa ba ev root rk L) {top : Int} {v w p q : Nat} {h g : Nat → Nat} (hr : rgP R mt pa ba ev root L top v w h g p q) {y : Nat} (hy : y ∈ L w) (hyr : y ≠ root) : (∀ i, i < p → mN mt y ≠ h i) ∧ ∀ i, i < q → mN mt y ≠ g i := by
  have hw := rg_ev (rg_sy hr)
  have hye := bm_ev hI w hw y hy
  refine ⟨fun i hi e => ?_, fun i hi e => ?_⟩
  · have h1 := bm_pr hI hye hyr (by rw [e]; exact (hr.1.2.1 i hi).1)
    rw [e] at h1
    exact hr.2.2.1 i hi y hy h1.1.symm
  · have h1 := (bm_em hI hye hyr).1
    rw [e] at h1
    exact hI.2.2.2.2.2.2.2.1 w hw (g i) y (rg_hv hI (rg_sy hr) hi) hy h1.symm
/-- no two of a new way are partners -/
theorem rg_fr (hI : bmI R S mt pa ba ev root rk L) {top : Int} {v w p q : Nat} {h g : Nat → Nat} (hr : rgP R mt pa ba ev root L top v w h g p q) {i : Nat} (hi : i ≤ p) {l : List Nat} (hl : ∀ a, a ∈ l → (∃ x u, ev x ∧ a ∈ L x ∧ u ∈ L a ∧ u ∈ L x ∧ i < p ∧ u = mN mt (h i) ∧ ∀ b, b ∈ l → b ∈ L x ∨ (∃ j, j < i ∧ b = mN mt (h j)) ∨ b ∈ L w) ∨ (∃ j, j < i ∧ a = mN mt (h j)) ∨ a ∈ L w) : ∀ a b, a ∈ l → b ∈ l → mt b ≠ (a : Int) := by
  have hw := rg_ev (rg_sy hr)
  have hv := rg_ev hr
  have hmj : ∀ j, j < p → mt (mN mt (h j)) = (h j : Int) := fun j hj => (bm_em hI (hr.1.2.1 j hj).1 (hr.1.2.1 j hj).2.1).2.2.1
  have hSj : ∀ j, j < p → S (mN mt (h j)) := fun j hj => (bm_em hI (hr.1.2.1 j hj).1 (hr.1.2.1 j hj).2.1).2.1
  have hmu : ∀ j, j < p → mt (h j) = ((mN mt (h j) : Nat) : Int) := fun j hj => (bm_em hI (hr.1.2.1 j hj).1 (hr.1.2.1 j hj).2.1).1.symm
  have fr := hI.2.2.2.2.2.2.2.1
  -- a place of the way of x before u, and one of w's way
  have c13 : ∀ x u a b, ev x → a ∈ L x → u ∈ L a → i < p → u = mN mt (h i) → b ∈ L w → mt b = (a : Int) → False := fun x u a b hx ha hu hip eu hb e => by
    have hbe := bm_ev hI w hw b hb
    have hae := bm_ev hI x hx a ha
    have hbr := bm_n0 hI hbe e
    have ema : mN mt b = a := by unfold mN; omega
    have h1 := bm_pr hI hbe hbr (by rw [ema]; exact hae)
    rw [ema] at h1
    have hue := bm_ev hI a hae u hu
    have h2 := bm_pr hI (hr.1.2.1 i hip).1 (hr.1.2.1 i hip).2.1 (by rw [← eu]; exact hue)
    rw [← eu] at h2
    obtain ⟨c, c1, c2, c3⟩ := hI.2.2.1.1 a hae
    rcases bm_l6 hI a hae c c1 u hu with g1 | g1
    · exact hr.2.2.1 i hip b hb (by rw [← h1.1, ← g1, h2.1])
    · have hcb := bm_bs hI b hbe c (by rw [← h1.1]; exact c1)
      have huw := bm_sub hI hw (bm_sub hI hw hb hcb) g1
      exact hr.2.2.1 i hip u huw h2.1
  -- h j in the way of x
  have c12 : ∀ x u j, ev x → h j ∈ L x → u ∈ L x → i < p → u = mN mt (h i) → j < i → False := fun x u j hx hj hu hip eu hji => by
    have h1 := bm_sub hI hx hj (sq_up hI hr.1 (i := j) (j := i) (by omega) (by omega))
    exact fr x hx u (h i) hu h1 (by rw [eu]; exact hmu i hip)
  have c23 : ∀ j, j < i → h j ∈ L w → False := fun j hj g1 => hr.2.2.1 j (by omega) (h j) g1 rfl
  intro a b ha hb e
  rcases hl a ha with ⟨x, u, x1, x2, x3, x4, x5, x6, x7⟩ | ⟨j, j1, j2⟩ | g1
  · rcases x7 b hb with y1 | ⟨k, k1, k2⟩ | y1
    · exact fr x x1 a b x2 y1 e
    · rw [k2, hmj k (by omega)] at e
      rw [show a = h k by omega] at x2
      exact c12 x u k x1 x2 x4 x5 x6 k1
    · exact c13 x u a b x1 x2 x3 x5 x6 y1 e
  · rcases hl b hb with ⟨x, u, x1, x2, x3, x4, x5, x6, x7⟩ | ⟨k, k1, k2⟩ | y1
    · -- b is the partner of a
      have hbe := bm_ev hI x x1 b x2
      have e2 := (vm_at hI.1 (hI.2.1.2.2 b hbe).1 e).2.1
      rw [j2, hmj j (by omega)] at e2
      rw [show b = h j by omega] at x2
      exact c12 x u j x1 x2 x4 x5 x6 j1
    · rw [k2, hmj k (by omega), j2] at e
      exact fr v hv (h k) (h j) (rg_hv hI hr (by omega)) (rg_hv hI hr (by omega)) (by rw [hmu j (by omega)]; exact e.symm)
    · have hbe := bm_ev hI w hw b y1
      have e2 := (vm_at hI.1 (hI.2.1.2.2 b hbe).1 e).2.1
      rw [j2, hmj j (by omega)] at e2
      rw [show b = h j by omega] at y1
      exact c23 j j1 y1
  · rcases hl b hb with ⟨x, u, x1, x2, x3, x4, x5, x6, x7⟩ | ⟨k, k1, k2⟩ | y1
    · have hbe := bm_ev hI x x1 b x2
      have e2 := (vm_at hI.1 (hI.2.1.2.2 b hbe).1 e).2.1
      exact c13 x u b a x1 x2 x3 x5 x6 g1 e2
    · rw [k2, hmj k (by omega)] at e
      rw [show a = h k by omega] at g1
      exact c23 k k1 g1
    · exact fr w hw a b g1 y1 e
end RG
