/-- the row lists the even nodes -/
def quI (Q : Nat → Int) (W qd : Int) : Prop := (0 ≤ W ∧ W ≤ 16) ∧ (∀ j : Nat, (j : Int) < W → 0 ≤ Q j ∧ Q j < 16) ∧ (∀ x : Nat, Me qd x ↔ ∃ j : Nat, (j : Int) < W ∧ Q j = (x : Int)) ∧ ∀ i j : Nat, (i : Int) < W → (j : Int) < W → Q i = Q j → i = j
theorem qu_0 {Q : Nat → Int} : quI Q 0 0 := ⟨by omega, fun j h => by omega, fun x => ⟨fun g => absurd g (Me_0 x), fun ⟨j, h, _⟩ => by omega⟩, fun i j h => by omega⟩
theorem qu_lt {Q : Nat → Int} {W qd : Int} {v : Nat} (h : quI Q W qd) (hv : v < 16) (hn : ¬ Me qd v) : W < 16 := Classical.byContradiction (fun g => by
  have e : W = 16 := by have := h.1; omega
  obtain ⟨j, j1, j2⟩ := inj_sj (σ := fun i => (Q i).toNat) (n := 16) (fun i hi => by
    have := h.2.1 i (by omega)
    show (Q i).toNat < 16
    omega) (fun i j hi hj e1 => by
    have e2 : (Q i).toNat = (Q j).toNat := e1
    have := h.2.1 i (by omega)
    have := h.2.1 j (by omega)
    exact h.2.2.2 i j (by omega) (by omega) (by omega)) hv
  have j3 : (Q j).toNat = v := j2
  have := h.2.1 j (by omega)
  exact hn ((h.2.2.1 v).mpr ⟨j, by omega, by omega⟩))
theorem qu_up {Q : Nat → Int} {W qd qd1 v : Int} {a : Nat} (h : quI Q W qd) (hv : 0 ≤ v ∧ v < 16) (hn : ¬ Me qd v.toNat) (ha : (a : Int) = W) (h1 : ∀ x, Me qd1 x ↔ Me qd x ∨ x = v.toNat) : quI (fup Q a v) (W + 1) qd1 := by
  have hlt := qu_lt h (by omega) hn
  have e1 : fup Q a v a = v := if_pos rfl
  have e2 : ∀ j : Nat, (j : Int) < W → fup Q a v j = Q j := fun j hj => if_neg (by omega)
  have hne : ∀ j : Nat, (j : Int) < W → Q j ≠ v := fun j hj e => hn ((h.2.2.1 _).mpr ⟨j, hj, by omega⟩)
  refine ⟨by have := h.1; omega, fun j hj => ?_, fun x => ?_, fun i j hi hj e => ?_⟩
  · by_cases c : (j : Int) < W
    · rw [e2 j c]; exact h.2.1 j c
    · rw [show j = a by omega, e1]; exact hv
  · rw [h1 x, h.2.2.1 x]
    constructor
    · rintro (⟨j, j1, j2⟩ | g)
      · exact ⟨j, by omega, by rw [e2 j j1]; exact j2⟩
      · exact ⟨a, by omega, by rw [e1]; omega⟩
    · rintro ⟨j, j1, j2⟩
      by_cases c : (j : Int) < W
      · rw [e2 j c] at j2; exact Or.inl ⟨j, c, j2⟩
      · rw [show j = a by omega, e1] at j2; exact Or.inr (by omega)
  · by_cases c : (i : Int) < W
    · by_cases c1 : (j : Int) < W
      · rw [e2 i c, e2 j c1] at e; exact h.2.2.2 i j c c1 e
      · rw [e2 i c, show j = a by omega, e1] at e; exact absurd e (hne i c)
    · by_cases c1 : (j : Int) < W
      · rw [e2 j c1, show i = a by omega, e1] at e; exact absurd e.symm (hne j c1)
      · omega
/-- what a step leaves as it was -/
def moP (Q Q1 : Nat → Int) (W W1 qd qd1 : Int) (ba ba1 pa pa1 : Nat → Int) : Prop := W ≤ W1 ∧ (∀ j : Nat, (j : Int) < W → Q1 j = Q j) ∧ (∀ x, Me qd x → Me qd1 x) ∧ (∀ x y, ba x = ba y → ba1 x = ba1 y) ∧ ∀ x, 0 ≤ pa x → 0 ≤ pa1 x
theorem mo_rf {Q : Nat → Int} {W qd : Int} {ba pa : Nat → Int} : moP Q Q W W qd qd ba ba pa pa := ⟨Int.le_refl _, fun _ _ => rfl, fun _ h => h, fun _ _ h => h, fun _ h => h⟩
theorem mo_tr {Q Q1 Q2 : Nat → Int} {W W1 W2 qd qd1 qd2 : Int} {ba ba1 ba2 pa pa1 pa2 : Nat → Int} (h : moP Q Q1 W W1 qd qd1 ba ba1 pa pa1) (g : moP Q1 Q2 W1 W2 qd1 qd2 ba1 ba2 pa1 pa2) : moP Q Q2 W W2 qd qd2 ba ba2 pa pa2 :=
  ⟨Int.le_trans h.1 g.1, fun j hj => (g.2.1 j (by have := h.1; omega)).trans (h.2.1 j hj), fun x hx => g.2.2.1 x (h.2.2.1 x hx), fun x y e => g.2.2.2.1 x y (h.2.2.2.1 x y e), fun x hx => g.2.2.2.2 x (h.2.2.2.2 x hx)⟩
/-- a neighbour has been looked at from v; b: how many have been processed -/
def okN (Q : Nat → Int) (qd : Int) (ba pa : Nat → Int) (v w : Nat) (b : Int) : Prop := (Me qd w ∧ (ba w = ba v ∨ ∀ j : Nat, (j : Int) < b → Q j ≠ (w : Int))) ∨ (¬ Me qd w ∧ 0 ≤ pa w)
theorem ok_mo {Q Q1 : Nat → Int} {W W1 qd qd1 : Int} {ba ba1 pa pa1 : Nat → Int} {v w : Nat} {b : Int} (hq : quI Q W qd) (hq1 : quI Q1 W1 qd1) (hm : moP Q Q1 W W1 qd qd1 ba ba1 pa pa1) (hb : b ≤ W) (h : okN Q qd ba pa v w b) : okN Q1 qd1 ba1 pa1 v w b := by
  rcases h with ⟨h1, h2⟩ | ⟨h1, h2⟩
  · refine Or.inl ⟨hm.2.2.1 w h1, ?_⟩
    rcases h2 with e | e
    · exact Or.inl (hm.2.2.2.1 w v e)
    · exact Or.inr (fun j hj => by rw [hm.2.1 j (by omega)]; exact e j hj)
  · by_cases c : Me qd1 w
    · refine Or.inl ⟨c, Or.inr (fun j hj e => ?_)⟩
      rw [hm.2.1 j (by omega)] at e
      exact h1 ((hq.2.2.1 w).mpr ⟨j, by omega, e⟩)
    · exact Or.inr ⟨c, hm.2.2.2.2 w h2⟩
/-- the search: i processed; of the next one the neighbours below u -/
def srI (R : Nat → Nat → Prop) (S : Nat → Prop) (mt pa ba : Nat → Int) (Q : Nat → Int) (W qd : Int) (root : Nat) (i u : Int) : Prop := (∃ rk L, bmI R S mt pa ba (fun x => Me qd x) root rk L) ∧ quI Q W qd ∧ (∀ j : Nat, (j : Int) < i → ∀ w, S w → R (Q j).toNat w → w ≠ (Q j).toNat → okN Q qd ba pa (Q j).toNat w i) ∧ ∀ w : Nat, (w : Int) < u → S w → R (Q i.toNat).toNat w → w ≠ (Q i.toNat).toNat → okN Q qd ba pa (Q i.toNat).toNat w (i + 1)
theorem sr_nx {R : Nat → Nat → Prop} {S : Nat → Prop} {mt pa ba Q : Nat → Int} {W qd i u : Int} {root n : Nat} (hsy : ∀ i j, R i j → R j i) (hS : ∀ a, S a → a < n) (h : srI R S mt pa ba Q W qd root i u) (hu : (n : Int) ≤ u) (hi : 0 ≤ i ∧ i < W) : srI R S mt pa ba Q W qd root (i + 1) 0 := by
  obtain ⟨h1, h2, h3, h4⟩ := h
  have hQ : ∀ j : Nat, (j : Int) < W → ((Q j).toNat : Int) = Q j := fun j hj => by have := h2.2.1 j hj; omega
  have hqi : ∀ j : Nat, (j : Int) < W → Me qd (Q j).toNat := fun j hj => (h2.2.2.1 _).mpr ⟨j, hj, (hQ j hj).symm⟩
  obtain ⟨rk, L, hI⟩ := id h1
  refine ⟨h1, h2, fun j hj w hw hR hne => ?_, fun w hw => by omega⟩
  by_cases c : (j : Int) < i
  · rcases h3 j c w hw hR hne with ⟨g1, g2⟩ | g
    · refine Or.inl ⟨g1, ?_⟩
      rcases g2 with e | e
      · exact Or.inl e
      · by_cases c1 : Q i.toNat = (w : Int)
        · have hjS : S (Q j).toNat := (hI.2.1.2.2 _ (hqi j (by omega))).1
          have ew : (Q i.toNat).toNat = w := by omega
          have h5 := h4 (Q j).toNat (by have := hS _ hjS; omega) hjS (by rw [ew]; exact hsy _ _ hR) (by rw [ew]; exact fun q => hne q.symm)
          rw [ew] at h5
          rcases h5 with ⟨-, g3 | g3⟩ | ⟨g3, -⟩
          · exact Or.inl g3.symm
          · exact absurd (hQ j (by omega)).symm (g3 j (by omega))
          · exact absurd (hqi j (by omega)) g3
        · refine Or.inr (fun k hk => ?_)
          by_cases c2 : (k : Int) < i
          · exact e k c2
          · rw [show k = i.toNat by omega]; exact c1
    · exact Or.inr g
  · have ej : j = i.toNat := by omega
    rw [ej] at hR hne ⊢
    exact h4 w (by have := hS w hw; omega) hw hR hne
theorem sr_fail {R : Nat → Nat → Prop} {S : Nat → Prop} {mt pa ba Q : Nat → Int} {W qd i u : Int} {root n : Nat} (hS : ∀ a, S a → a < n) (h : srI R S mt pa ba Q W qd root i u) (hi : W ≤ i) : ¬ ∃ N : Nat → Int, vmP R S N ∧ 0 ≤ N root ∧ ∀ z, S z → 0 ≤ mt z → 0 ≤ N z := by
  obtain ⟨⟨rk, L, hI⟩, h2, h3, -⟩ := h
  refine bm_fail hI hS (fun v hv w hw hR hne => ?_)
  obtain ⟨j, j1, j2⟩ := (h2.2.2.1 v).mp hv
  have ev9 : (Q j).toNat = v := by omega
  have h5 := h3 j (by omega) w hw (by rw [ev9]; exact hR) (by rw [ev9]; exact hne)
  rw [ev9] at h5
  rcases h5 with ⟨g1, g2⟩ | g
  · refine Or.inl ⟨g1, ?_⟩
    rcases g2 with e | e
    · exact e
    · exfalso
      obtain ⟨k, k1, k2⟩ := (h2.2.2.1 w).mp g1
      exact e k (by omega) k2
  · exact Or.inr g
/-- what a found node gives -/
def fwP9 (R : Nat → Nat → Prop) (S : Nat → Prop) (mt pa1 : Nat → Int) (root w : Nat) : Prop := ∃ (pa : Nat → Int) (ev : Nat → Prop) (v k : Nat), pa1 = fup pa w (v : Int) ∧ esP R S mt pa ev root v k ∧ S w ∧ mt w < 0 ∧ ¬ ev w ∧ R v w ∧ mt root < 0 ∧ S root ∧ w ≠ root
theorem fw_of {R : Nat → Nat → Prop} {S : Nat → Prop} {mt pa ba : Nat → Int} {ev : Nat → Prop} {root v w : Nat} {rk : Nat → Nat} {L : Nat → List Nat} (hI : bmI R S mt pa ba ev root rk L) (hv : ev v) (hw : S w) (hm : mt w < 0) (hwr : w ≠ root) (hR : R v w) : fwP9 R S mt (fup pa w (v : Int)) root w := by
  obtain ⟨k, k1, k2⟩ := es_k hI v hv
  exact ⟨pa, ev, v, k, rfl, es_p hI hv k1 k2, hw, hm, fun g => by have := (hI.2.1.2.2 w g).2 hwr; omega, hR, hI.2.1.2.1, (hI.2.1.2.2 root hI.2.1.1).1, hwr⟩
/-- whether a node is even, by the pointer of its partner -/
theorem ev_t {R : Nat → Nat → Prop} {S : Nat → Prop} {mt pa ba : Nat → Int} {ev : Nat → Prop} {root w : Nat} {rk : Nat → Nat} {L : Nat → List Nat} (hI : bmI R S mt pa ba ev root rk L) (hw : S w) (hwr : w ≠ root) : ev w ↔ (0 ≤ mt w ∧ 0 ≤ pa (mN mt w)) := by
  constructor
  · intro h
    obtain ⟨z, z1, -⟩ := hI.2.2.2.2.2.1 w h hwr
    exact ⟨(hI.2.1.2.2 w h).2 hwr, by omega⟩
  · rintro ⟨h1, h2⟩
    have hm := bm_mt hI hw h1
    by_cases c : ev (mN mt w)
    · have := (hI.2.2.2.2.2.2.2.2.2 _ c h2).2
      rw [hm.2.2.2.2.2] at this; exact this
    · have := (hI.2.2.2.2.2.2.2.2.1 _ c h2).2.2
      rw [hm.2.2.2.2.2] at this; exact this
/-- the start -/
theorem bm_0 {R : Nat → Nat → Prop} {S : Nat → Prop} {mt pa ba : Nat → Int} {qd : Int} {root : Nat} (hM : vmP R S mt) (hr : S root) (hm : mt root < 0) (hp : ∀ x, pa x < 0) (hb : ∀ x : Nat, ba x = (x : Int)) (hq : ∀ x, Me qd x ↔ x = root) : ∃ rk L, bmI R S mt pa ba (fun x => Me qd x) root rk L := by
  have e : ∀ x, Me qd x → x = root := fun x hx => (hq x).mp hx
  refine ⟨fun _ => 0, fun _ => [root], hM, ⟨(hq root).mpr rfl, hm, fun x hx => by rw [e x hx]; exact ⟨hr, fun q => absurd rfl q⟩⟩, ⟨fun x hx => ⟨x, hb x, hx, hb x⟩, fun x _ => hb x⟩, fun x _ hne => absurd (hb x) hne, fun x hx _ hxr => absurd (e x hx) hxr, fun x hx hxr => absurd (e x hx) hxr, rfl, fun x hx a b ha hb1 e1 => ?_, fun o _ hpo => by have := hp o; omega, fun y _ hpy => by have := hp y; omega⟩
  rw [List.mem_singleton.mp hb1] at e1
  omega
