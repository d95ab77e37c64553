section ML
variable {R : Nat → Nat → Prop} {S : Nat → Prop} {mt pa ba : Nat → Int} {ev : Nat → Prop} {root : Nat} {rk : Nat → Nat} {Lw : Nat → List Nat}
theorem ws_ex (hI : bmI R S mt pa ba ev root rk Lw) {top : Int} : ∀ x, ev x → chP9 ba Lw x top → ∃ q, wsP mt pa ba ev root top x (esF mt pa x) q :=
  bm_ind hI (P := fun x => chP9 ba Lw x top → ∃ q, wsP mt pa ba ev root top x (esF mt pa x) q) (fun ⟨y, y1, y2⟩ => by
    rw [hI.2.2.2.2.2.2.1] at y1
    rw [List.mem_singleton.mp y1] at y2
    exact ⟨0, rfl, fun i hi => by omega, hI.2.1.1, y2⟩) (fun x z hx hxr h1 hz _ _ e ih hc => by
    by_cases c : ba x = top
    · exact ⟨0, rfl, fun i hi => by omega, hx, c⟩
    · have hz2 : chP9 ba Lw z top := by
        obtain ⟨y, y1, y2⟩ := hc
        rw [e] at y1
        rcases List.mem_cons.mp y1 with g | g
        · rw [g] at y2; exact absurd y2 c
        · exact ⟨y, g, y2⟩
      obtain ⟨q, q1, q2, q3, q4⟩ := ih hz2
      have ez : (pa (mN mt x)).toNat = z := by rw [h1]; rfl
      have es : ∀ i, esF mt pa x (i + 1) = esF mt pa z i := fun i => by rw [es_s, ez]
      refine ⟨q + 1, rfl, fun i hi => ?_, by rw [es]; exact q3, by rw [es]; exact q4⟩
      cases i with
      | zero =>
        refine ⟨hx, hxr, ?_, c⟩
        rw [es 0]; exact h1
      | succ i =>
        rw [es i, es (i + 1)]
        exact q2 i (by omega))
theorem tu_pc (hI : bmI R S mt pa ba ev root rk Lw) {pc1 : Nat → Int} {v w p : Nat} {top rg he ch : Int} (ht : tpP9 ba rk Lw v w top) (hw : ev w) (h1 : tuI mt pa ba ev root Lw pa pc1 v w top rg he ch p) (h2 : wsP mt pa ba ev root top v (esF mt pa v) p) (hR : R v w) (hR2 : R w v) : ∀ y, y ∈ Lw w → y ≠ root → pc1 (mN mt y) = pa (mN mt y) := fun y hy hyr => by
  obtain ⟨q, hq⟩ := ws_ex hI w hw ht.2.1
  have hr := rg_of hI ht h2 hq hR hR2
  exact h1.2.2.2.1.1 _ (fun j hj => (rg_nw hI hr hy hyr).1 j hj)
theorem pt_of (hI : bmI R S mt pa ba ev root rk Lw) {pc1 pc2 : Nat → Int} {v w p q : Nat} {top rg he ch rg2 he2 ch2 : Int} (hr : rgP R mt pa ba ev root Lw top v w (esF mt pa v) (esF mt pa w) p q) (h1 : tuI mt pa ba ev root Lw pa pc1 v w top rg he ch p) (h2 : tuI mt pa ba ev root Lw pc1 pc2 w v top rg2 he2 ch2 q) : ptP mt pa pc2 v w (esF mt pa v) (esF mt pa w) p q := by
  refine ⟨fun y a1 a2 => ?_, fun i hi => ?_, fun i hi => h2.2.2.2.1.2 i hi⟩
  · rw [h2.2.2.2.1.1 y a2]; exact h1.2.2.2.1.1 y a1
  · rw [h2.2.2.2.1.1 _ (fun j hj e => ?_)]
    · exact h1.2.2.2.1.2 i hi
    · exact hr.2.2.2.1 j hj _ (rg_hv hI hr hi) (by rw [e])
theorem rc_rg (hI : bmI R S mt pa ba ev root rk Lw) {pc0 pc1 pc2 : Nat → Int} {v w p q : Nat} {top rg he ch rg2 he2 ch2 z : Int} (h1 : tuI mt pa ba ev root Lw pc0 pc1 v w top rg he ch p) (h2 : tuI mt pa ba ev root Lw pc1 pc2 w v top rg2 he2 ch2 q) (hz : ∀ c, Me z c ↔ Me rg c ∨ Me rg2 c) (hb : Rfx 16 0 15 ba) {y : Nat} (hy : y < 16) : rcP mt ba (esF mt pa v) (esF mt pa w) p q y ↔ Me z (ba y).toNat := by
  have h0 := hb y hy
  have e : (((ba y).toNat : Nat) : Int) = ba y := by omega
  rw [hz, h1.2.2.2.2, h2.2.2.2.2, e]
  exact Iff.rfl
theorem rc_16 (hI : bmI R S mt pa ba ev root rk Lw) {n : Nat} (hS : ∀ a, S a → a < n) (hn : n ≤ 16) {top : Int} {v w p q : Nat} {h g : Nat → Nat} (hr : rgP R mt pa ba ev root Lw top v w h g p q) {y : Nat} (hy : rcP mt ba h g p q y) : y < 16 := by
  have one : ∀ {v w p q : Nat} {h g : Nat → Nat}, rgP R mt pa ba ev root Lw top v w h g p q → ∀ i, i < p → y = mN mt (h i) → y < 16 := fun {v w p q h g} hr i hi e => by
    have := hS _ (bm_em hI (hr.1.2.1 i hi).1 (hr.1.2.1 i hi).2.1).2.1
    omega
  rcases rc_c hI hr hy with ⟨c1, -⟩ | ⟨-, ⟨i, i1, i2⟩ | ⟨i, i1, i2⟩⟩
  · have := hS y (hI.2.1.2.2 y c1).1
    omega
  · exact one hr i i1 i2
  · exact one (rg_sy hr) i i1 i2
end ML
/-- the bases and the row behind i nodes -/
def mlI (ba bc : Nat → Int) (top rg : Int) (Q Qc : Nat → Int) (W Wc qd qc i : Int) : Prop := (∀ y : Nat, ((y : Int) < i → Me rg (ba y).toNat → bc y = top) ∧ (¬ ((y : Int) < i ∧ Me rg (ba y).toNat) → bc y = ba y)) ∧ quI Qc Wc qc ∧ (∀ x : Nat, Me qc x ↔ Me qd x ∨ ((x : Int) < i ∧ Me rg (ba x).toNat)) ∧ W ≤ Wc ∧ ∀ j : Nat, (j : Int) < W → Qc j = Q j
theorem ml_0 {ba Q : Nat → Int} {top rg W qd : Int} (hq : quI Q W qd) : mlI ba ba top rg Q Q W W qd qd 0 := ⟨fun y => ⟨fun h => by omega, fun _ => rfl⟩, hq, fun x => ⟨Or.inl, fun g => g.elim id (fun q => by have := q.1; omega)⟩, Int.le_refl W, fun _ _ => rfl⟩
theorem ml_rd {ba bc Q Qc : Nat → Int} {top rg W Wc qd qc i : Int} (h : mlI ba bc top rg Q Qc W Wc qd qc i) (hi : 0 ≤ i) : bc i.toNat = ba i.toNat := (h.1 i.toNat).2 (fun g => by have := g.1; omega)
theorem ml_n {ba bc Q Qc : Nat → Int} {top rg W Wc qd qc i : Int} (h : mlI ba bc top rg Q Qc W Wc qd qc i) (hi : 0 ≤ i) (hn : ¬ Me rg (ba i.toNat).toNat) : mlI ba bc top rg Q Qc W Wc qd qc (i + 1) := by
  have e : ∀ y : Nat, ((y : Int) < i + 1 ∧ Me rg (ba y).toNat) ↔ ((y : Int) < i ∧ Me rg (ba y).toNat) := fun y => ⟨fun g => ⟨Classical.byContradiction (fun c => hn (by rw [← show y = i.toNat by have := g.1; omega]; exact g.2)), g.2⟩, fun g => ⟨by have := g.1; omega, g.2⟩⟩
  refine ⟨fun y => ⟨fun g1 g2 => (h.1 y).1 ((e y).mp ⟨g1, g2⟩).1 g2, fun g => (h.1 y).2 (fun q => g ((e y).mpr q))⟩, h.2.1, fun x => ?_, h.2.2.2.1, h.2.2.2.2⟩
  rw [h.2.2.1 x, e x]
theorem ml_y {ba bc Q Qc Q1 : Nat → Int} {top rg W Wc W1 qd qc q1 i : Int} {a : Nat} (h : mlI ba bc top rg Q Qc W Wc qd qc i) (hi : 0 ≤ i) (ha : a = i.toNat) (hm : Me rg (ba i.toNat).toNat) (h1 : quI Q1 W1 q1) (h2 : ∀ x, Me q1 x ↔ Me qc x ∨ x = i.toNat) (h3 : Wc ≤ W1) (h4 : ∀ j : Nat, (j : Int) < Wc → Q1 j = Qc j) : mlI ba (fup bc a top) top rg Q Q1 W W1 qd q1 (i + 1) := by
  subst ha
  refine ⟨fun y => ⟨fun g1 g2 => ?_, fun g => ?_⟩, h1, fun x => ?_, by have := h.2.2.2.1; omega, fun j hj => by rw [h4 j (by have := h.2.2.2.1; omega)]; exact h.2.2.2.2 j hj⟩
  · by_cases c : y = i.toNat
    · rw [c]; exact if_pos rfl
    · rw [show fup bc i.toNat top y = bc y from if_neg c]; exact (h.1 y).1 (by omega) g2
  · have c : y ≠ i.toNat := fun e => g ⟨by omega, by rw [e]; exact hm⟩
    rw [show fup bc i.toNat top y = bc y from if_neg c]
    exact (h.1 y).2 (fun q => g ⟨by have := q.1; omega, q.2⟩)
  · rw [h2 x, h.2.2.1 x]
    constructor
    · rintro ((g | g) | g)
      · exact Or.inl g
      · exact Or.inr ⟨by have := g.1; omega, g.2⟩
      · exact Or.inr ⟨by omega, by rw [g]; exact hm⟩
    · rintro (g | g)
      · exact Or.inl (Or.inl g)
      · by_cases c : x = i.toNat
        · exact Or.inr c
        · exact Or.inl (Or.inr ⟨by have := g.1; omega, g.2⟩)
/-- a ring has melted -/
theorem ml_e {R : Nat → Nat → Prop} {S : Nat → Prop} {mt pa ba : Nat → Int} {root : Nat} {rk : Nat → Nat} {Lw : Nat → List Nat} {qd : Int} (hsy : ∀ i j, R i j → R j i) (hI : bmI R S mt pa ba (fun x => Me qd x) root rk Lw) {n : Nat} (hS : ∀ a, S a → a < n) (hn : n ≤ 16) {bc Q Qc pc1 pc2 : Nat → Int} {v w p q : Nat} {top rg he ch rg2 he2 ch2 z W Wc qc i : Int} (h0 : 0 ≤ top) (ht : tpP9 ba rk Lw v w top) (hR : R v w) (h1 : tuI mt pa ba (fun x => Me qd x) root Lw pa pc1 v w top rg he ch p) (w1 : wsP mt pa ba (fun x => Me qd x) root top v (esF mt pa v) p) (h2 : tuI mt pa ba (fun x => Me qd x) root Lw pc1 pc2 w v top rg2 he2 ch2 q) (w2 : wsP mt pa ba (fun x => Me qd x) root top w (esF mt pa w) q) (hz : ∀ c, Me z c ↔ Me rg c ∨ Me rg2 c) (hb : Rfx 16 0 15 ba) (hm : mlI ba bc top z Q Qc W Wc qd qc i) (hi : 16 ≤ i) : (∃ L', bmI R S mt pc2 bc (fun x => Me qc x) root rk L') ∧ moP Q Qc W Wc qd qc ba bc pa pc2 ∧ bc v = bc w := by
  obtain ⟨t, rfl⟩ : ∃ t : Nat, top = (t : Int) := ⟨top.toNat, by omega⟩
  have hr := rg_of hI ht w1 w2 hR (hsy _ _ hR)
  have hp := pt_of hI hr h1 h2
  have key : ∀ y : Nat, rcP mt ba (esF mt pa v) (esF mt pa w) p q y ↔ ((y : Int) < i ∧ Me z (ba y).toNat) ∧ y < 16 := fun y => by
    constructor
    · intro g
      have g1 := rc_16 hI hS hn hr g
      exact ⟨⟨by omega, (rc_rg hI h1 h2 hz hb g1).mp g⟩, g1⟩
    · rintro ⟨⟨-, g2⟩, g3⟩
      exact (rc_rg hI h1 h2 hz hb g3).mpr g2
  have hby : ∀ y, ¬ y < 16 → ba y = (y : Int) := fun y hy => hI.2.2.1.2 y (fun g => by have := hS y (hI.2.1.2.2 y g).1; omega)
  have hzy : ∀ y, ¬ y < 16 → ¬ Me z (ba y).toNat := fun y hy g => by
    rw [hby y hy, Int.toNat_natCast, hz, h1.2.2.2.2, h2.2.2.2.2] at g
    refine hy (rc_16 hI hS hn hr (y := y) ?_)
    unfold rcP
    rw [hby y hy]
    exact g
  have keyz : ∀ y : Nat, ((y : Int) < i ∧ Me z (ba y).toNat) ↔ rcP mt ba (esF mt pa v) (esF mt pa w) p q y := fun y => ⟨fun g => (key y).mpr ⟨g, Classical.byContradiction (fun c => hzy y c g.2)⟩, fun g => ((key y).mp g).1⟩
  have hb1 : ∀ y, rcP mt ba (esF mt pa v) (esF mt pa w) p q y → bc y = (t : Int) := fun y g => (hm.1 y).1 ((keyz y).mpr g).1 ((keyz y).mpr g).2
  have hb0 : ∀ y, ¬ rcP mt ba (esF mt pa v) (esF mt pa w) p q y → bc y = ba y := fun y g => (hm.1 y).2 (fun q1 => g ((keyz y).mp q1))
  have he9 : ∀ y, Me qc y ↔ Me qd y ∨ rcP mt ba (esF mt pa v) (esF mt pa w) p q y := fun y => by rw [hm.2.2.1 y, keyz y]
  have ends : ∀ {v w p q : Nat} {h g : Nat → Nat}, rgP R mt pa ba (fun x => Me qd x) root Lw (t : Int) v w h g p q → (∀ y, rcP mt ba h g p q y → bc y = (t : Int)) → (∀ y, ¬ rcP mt ba h g p q y → bc y = ba y) → bc v = (t : Int) := fun {v w p q h g} hr a1 a0 => by
    by_cases e : p = 0
    · have e2 := hr.1.2.2.2
      rw [e, hr.1.1] at e2
      rw [a0 v (rc_t hI hr (rg_ev hr) e2)]; exact e2
    · have := a1 _ (rc_h (mt := mt) (ba := ba) (h := h) (g := g) (q := q) (show 0 < p by omega)).1
      rw [hr.1.1] at this; exact this
  refine ⟨rg_main hsy hI hr hp hb1 hb0 he9, ⟨hm.2.2.2.1, hm.2.2.2.2, fun x hx => (he9 x).mpr (Or.inl hx), fun x y e => ?_, fun x hx => ?_⟩, ?_⟩
  · by_cases c : rcP mt ba (esF mt pa v) (esF mt pa w) p q x
    · rw [hb1 x c, hb1 y (rc_b c e.symm)]
    · rw [hb0 x c, hb0 y (fun g => c (rc_b g e))]; exact e
  · by_cases c1 : ∃ j, j < p ∧ x = esF mt pa v j
    · obtain ⟨j, j1, j2⟩ := c1
      rw [j2, hp.2.1 j j1]
      split <;> omega
    · by_cases c2 : ∃ j, j < q ∧ x = esF mt pa w j
      · obtain ⟨j, j1, j2⟩ := c2
        rw [j2, hp.2.2 j j1]
        split <;> omega
      · rw [hp.1 x (fun j hj e => c1 ⟨j, hj, e⟩) (fun j hj e => c2 ⟨j, hj, e⟩)]; exact hx
  · rw [ends hr hb1 hb0, ends (rg_sy hr) (fun y g => hb1 y (rc_sy g)) (fun y g => hb0 y (fun q1 => g (rc_sy q1)))]
