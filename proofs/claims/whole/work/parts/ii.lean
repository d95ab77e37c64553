/-- the even places of a way back, and the odd ones before them -/
def esF (mt pa : Nat → Int) (v : Nat) : Nat → Nat
  | 0 => v
  | i + 1 => (pa (mN mt (esF mt pa v i))).toNat
def udF (mt pa : Nat → Int) (v w : Nat) : Nat → Nat
  | 0 => w
  | i + 1 => mN mt (esF mt pa v i)
theorem es_s {mt pa : Nat → Int} {x : Nat} : ∀ i, esF mt pa x (i + 1) = esF mt pa (pa (mN mt x)).toNat i
  | 0 => rfl
  | i + 1 => by
    show (pa (mN mt (esF mt pa x (i + 1)))).toNat = (pa (mN mt (esF mt pa (pa (mN mt x)).toNat i))).toNat
    rw [es_s i]
section FL
variable {R : Nat → Nat → Prop} {S : Nat → Prop} {mt pa ba : Nat → Int} {ev : Nat → Prop} {root : Nat} {rk : Nat → Nat} {L : Nat → List Nat}
theorem es_k (hI : bmI R S mt pa ba ev root rk L) : ∀ v, ev v → ∃ k, esF mt pa v k = root ∧ ∀ i, i < k → esF mt pa v i ≠ root :=
  bm_ind hI (P := fun v => ∃ k, esF mt pa v k = root ∧ ∀ i, i < k → esF mt pa v i ≠ root) ⟨0, rfl, fun i hi => by omega⟩ (fun x z hx hxr h1 hz _ _ _ ih => by
    obtain ⟨k, k1, k2⟩ := ih
    have e : (pa (mN mt x)).toNat = z := by rw [h1]; rfl
    refine ⟨k + 1, by rw [es_s, e]; exact k1, fun i hi => ?_⟩
    by_cases c : i = 0
    · rw [c]; exact hxr
    · obtain ⟨j, rfl⟩ : ∃ j, i = j + 1 := ⟨i - 1, by omega⟩
      rw [es_s, e]; exact k2 j (by omega))
/-- all that a way back tells -/
def esP (R : Nat → Nat → Prop) (S : Nat → Prop) (mt pa : Nat → Int) (ev : Nat → Prop) (root v : Nat) (k : Nat) : Prop := esF mt pa v k = root ∧ (∀ i, i ≤ k → ev (esF mt pa v i) ∧ S (esF mt pa v i)) ∧ (∀ i, i < k → 0 ≤ mt (esF mt pa v i) ∧ pa (mN mt (esF mt pa v i)) = (esF mt pa v (i + 1) : Int) ∧ R (esF mt pa v (i + 1)) (mN mt (esF mt pa v i))) ∧ (∀ i j, i ≤ k → j ≤ k → i ≠ j → esF mt pa v i ≠ esF mt pa v j) ∧ ∀ i j, i ≤ k → j ≤ k → mt (esF mt pa v j) ≠ (esF mt pa v i : Int)
theorem es_p (hI : bmI R S mt pa ba ev root rk L) {v k : Nat} (hv : ev v) (h1 : esF mt pa v k = root) (h2 : ∀ i, i < k → esF mt pa v i ≠ root) : esP R S mt pa ev root v k := by
  have hev : ∀ i, i ≤ k → ev (esF mt pa v i) := by
    intro i
    induction i with
    | zero => intro _; exact hv
    | succ i ih =>
      intro hi
      obtain ⟨z, z1, z2, -⟩ := hI.2.2.2.2.2.1 _ (ih (by omega)) (h2 i (by omega))
      show ev (pa (mN mt (esF mt pa v i))).toNat
      rw [z1]; exact z2
  have hst : ∀ i, i < k → pa (mN mt (esF mt pa v i)) = (esF mt pa v (i + 1) : Int) ∧ R (esF mt pa v (i + 1)) (mN mt (esF mt pa v i)) ∧ L (esF mt pa v i) = esF mt pa v i :: L (esF mt pa v (i + 1)) := fun i hi => by
    obtain ⟨z, z1, z2, z3, -, -, z6⟩ := hI.2.2.2.2.2.1 _ (hev i (by omega)) (h2 i hi)
    have e : esF mt pa v (i + 1) = z := by
      show (pa (mN mt (esF mt pa v i))).toNat = z
      rw [z1]; rfl
    rw [e]; exact ⟨z1, z3, z6⟩
  have hup : ∀ i j, i ≤ j → j ≤ k → esF mt pa v j ∈ L (esF mt pa v i) := by
    intro i j hij hj
    induction j with
    | zero => rw [show i = 0 by omega]; exact bm_hd hI (hev 0 (by omega))
    | succ j ih =>
      by_cases e : i = j + 1
      · rw [e]; exact bm_hd hI (hev _ hj)
      · refine bm_sub hI (hev i (by omega)) (ih (by omega) (by omega)) ?_
        rw [(hst j (by omega)).2.2]
        exact List.mem_cons_of_mem _ (bm_hd hI (hev _ hj))
  have hij : ∀ i j, i < j → j ≤ k → esF mt pa v i ≠ esF mt pa v j := fun i j h3 h4 e => by
    have h5 := hup (i + 1) j (by omega) h4
    rw [← e] at h5
    exact bm_nd hI (hev i (by omega)) (hev (i + 1) (by omega)) (hst i (by omega)).2.2 h5
  refine ⟨h1, fun i hi => ⟨hev i hi, (hI.2.1.2.2 _ (hev i hi)).1⟩, fun i hi => ⟨(hI.2.1.2.2 _ (hev i (by omega))).2 (h2 i hi), (hst i hi).1, (hst i hi).2.1⟩, fun i j h3 h4 h5 e => ?_, fun i j h3 h4 => ?_⟩
  · by_cases c : i < j
    · exact hij i j c h4 e
    · exact hij j i (by omega) h3 e.symm
  · exact hI.2.2.2.2.2.2.2.1 v hv _ _ (hup 0 i (by omega) h3) (hup 0 j (by omega) h4)
theorem cn_t : ∀ k : Nat, cnP (fun _ => True) k = k
  | 0 => rfl
  | k + 1 => by rw [cnP_y trivial, cn_t k]
theorem es_15 {v k n : Nat} (h : esP R S mt pa ev root v k) (hS : ∀ a, S a → a < n) : k < n := by
  have h1 : cnP (fun _ => True) (k + 1) ≤ cnP (fun _ => True) n := cnP_inj (φ := esF mt pa v) (fun i hi _ => ⟨hS _ (h.2.1 i (by omega)).2, trivial⟩) (fun i j hi hj _ _ e => Classical.byContradiction (fun g => h.2.2.2.1 i j (by omega) (by omega) g e))
  rw [cn_t, cn_t] at h1
  omega
/-- the pairs behind j steps -/
def flS (mt pa : Nat → Int) (v w : Nat) (N : Nat → Int) (j : Nat) : Prop := (∀ i, i < j → N (esF mt pa v i) = (udF mt pa v w i : Int) ∧ N (udF mt pa v w i) = (esF mt pa v i : Int)) ∧ ∀ y, (∀ i, i < j → y ≠ esF mt pa v i ∧ y ≠ udF mt pa v w i) → N y = mt y
theorem flz_0 {v w : Nat} : flS mt pa v w mt 0 := ⟨fun i hi => by omega, fun _ _ => rfl⟩
/-- the odd places are others -/
theorem ud_x (hM : vmP R S mt) {v w k : Nat} (h : esP R S mt pa ev root v k) (hw : S w) (hm : mt w < 0) (hn : ¬ ev w) : (∀ i j, i ≤ k → j ≤ k → udF mt pa v w i ≠ esF mt pa v j) ∧ (∀ i j, i ≤ k → j ≤ k → i ≠ j → udF mt pa v w i ≠ udF mt pa v w j) ∧ ∀ i, i ≤ k → S (udF mt pa v w i) := by
  have hmm : ∀ i, i < k → mt (esF mt pa v i) = ((mN mt (esF mt pa v i) : Nat) : Int) ∧ mt (mN mt (esF mt pa v i)) = (esF mt pa v i : Int) ∧ S (mN mt (esF mt pa v i)) := fun i hi => by
    have e : mt (esF mt pa v i) = ((mN mt (esF mt pa v i) : Nat) : Int) := by
      have := (h.2.2.1 i hi).1
      unfold mN; omega
    have h1 := vm_at hM (h.2.1 i (by omega)).2 e
    exact ⟨e, h1.2.1, h1.1⟩
  refine ⟨fun i j hi hj e => ?_, fun i j hi hj hne e => ?_, fun i hi => ?_⟩
  · cases i with
    | zero =>
      have e1 : w = esF mt pa v j := e
      rw [e1] at hn
      exact hn (h.2.1 j hj).1
    | succ i =>
      have e1 : mN mt (esF mt pa v i) = esF mt pa v j := e
      refine h.2.2.2.2 j i hj (by omega) ?_
      rw [(hmm i (by omega)).1, e1]
  · cases i with
    | zero =>
      cases j with
      | zero => exact hne rfl
      | succ j =>
        have e1 : w = mN mt (esF mt pa v j) := e
        have h1 := (hmm j (by omega)).2.1
        rw [← e1] at h1
        omega
    | succ i =>
      cases j with
      | zero =>
        have e1 : mN mt (esF mt pa v i) = w := e
        have h1 := (hmm i (by omega)).2.1
        rw [e1] at h1
        omega
      | succ j =>
        have e1 : mN mt (esF mt pa v i) = mN mt (esF mt pa v j) := e
        have h1 := (hmm i (by omega)).2.1
        have h2 := (hmm j (by omega)).2.1
        rw [e1, h2] at h1
        exact h.2.2.2.1 i j (by omega) (by omega) (by omega) (by omega)
  · cases i with
    | zero => exact hw
    | succ i => exact (hmm i (by omega)).2.2
theorem fl_rd (hM : vmP R S mt) {v w k j : Nat} {N : Nat → Int} (h : esP R S mt pa ev root v k) (hw : S w) (hm : mt w < 0) (hn : ¬ ev w) (hj : j ≤ k) (hf : flS mt pa v w N j) : N (esF mt pa v j) = mt (esF mt pa v j) := by
  obtain ⟨u1, u2, u3⟩ := ud_x hM h hw hm hn
  exact hf.2 _ (fun i hi => ⟨h.2.2.2.1 j i hj (by omega) (by omega), fun e => u1 i j (by omega) hj e.symm⟩)
theorem fl_st (hM : vmP R S mt) {v w k j a b : Nat} {N : Nat → Int} (h : esP R S mt pa ev root v k) (hw : S w) (hm : mt w < 0) (hn : ¬ ev w) (hj : j ≤ k) (hf : flS mt pa v w N j) (ha : a = udF mt pa v w j) (hb : b = esF mt pa v j) : flS mt pa v w (fup (fup N a (b : Int)) b (a : Int)) (j + 1) := by
  subst ha hb
  obtain ⟨u1, u2, u3⟩ := ud_x hM h hw hm hn
  have hab := u1 j j hj hj
  refine ⟨fun i hi => ?_, fun y hy => ?_⟩
  · by_cases e : i = j
    · subst e
      refine ⟨if_pos rfl, ?_⟩
      show (if udF mt pa v w i = esF mt pa v i then _ else (if udF mt pa v w i = udF mt pa v w i then (esF mt pa v i : Int) else _)) = _
      rw [if_neg hab, if_pos rfl]
    · have n1 : esF mt pa v i ≠ esF mt pa v j := h.2.2.2.1 i j (by omega) hj e
      have n2 : esF mt pa v i ≠ udF mt pa v w j := fun q => u1 j i hj (by omega) q.symm
      have n3 : udF mt pa v w i ≠ esF mt pa v j := u1 i j (by omega) hj
      have n4 : udF mt pa v w i ≠ udF mt pa v w j := u2 i j (by omega) hj e
      have := hf.1 i (by omega)
      refine ⟨?_, ?_⟩
      · show (if esF mt pa v i = esF mt pa v j then _ else (if esF mt pa v i = udF mt pa v w j then _ else N (esF mt pa v i))) = _
        rw [if_neg n1, if_neg n2]; exact this.1
      · show (if udF mt pa v w i = esF mt pa v j then _ else (if udF mt pa v w i = udF mt pa v w j then _ else N (udF mt pa v w i))) = _
        rw [if_neg n3, if_neg n4]; exact this.2
  · have := hy j (by omega)
    show (if y = esF mt pa v j then _ else (if y = udF mt pa v w j then _ else N y)) = _
    rw [if_neg this.1, if_neg this.2]
    exact hf.2 y (fun i hi => hy i (by omega))
theorem fl_vm (hsy : ∀ i j, R i j → R j i) (hM : vmP R S mt) {v w k : Nat} {N : Nat → Int} (h : esP R S mt pa ev root v k) (hr : mt root < 0) (hw : S w) (hm : mt w < 0) (hn : ¬ ev w) (hR : R v w) (hf : flS mt pa v w N (k + 1)) : vmP R S N ∧ ∀ y, 0 ≤ N y ↔ (0 ≤ mt y ∨ y = w ∨ y = root) := by
  obtain ⟨u1, u2, u3⟩ := ud_x hM h hw hm hn
  have hRj : ∀ j, j ≤ k → R (esF mt pa v j) (udF mt pa v w j) := fun j hj => by
    cases j with
    | zero => exact hR
    | succ j => exact (h.2.2.1 j (by omega)).2.2
  have hmm : ∀ i, i < k → mt (esF mt pa v i) = (udF mt pa v w (i + 1) : Int) ∧ mt (udF mt pa v w (i + 1)) = (esF mt pa v i : Int) := fun i hi => by
    have e : mt (esF mt pa v i) = ((mN mt (esF mt pa v i) : Nat) : Int) := by
      have := (h.2.2.1 i hi).1
      unfold mN; omega
    exact ⟨e, (vm_at hM (h.2.1 i (by omega)).2 e).2.1⟩
  have hek : mt (esF mt pa v k) < 0 := by rw [h.1]; exact hr
  refine ⟨fun a ha => ?_, fun y => ?_⟩
  · by_cases c1 : ∃ j, j ≤ k ∧ a = esF mt pa v j
    · obtain ⟨j, j1, j2⟩ := c1
      rw [j2]
      have := hf.1 j (by omega)
      exact Or.inr ⟨_, this.1, u3 j j1, this.2, u1 j j j1 j1, hRj j j1⟩
    · by_cases c2 : ∃ j, j ≤ k ∧ a = udF mt pa v w j
      · obtain ⟨j, j1, j2⟩ := c2
        rw [j2]
        have := hf.1 j (by omega)
        exact Or.inr ⟨_, this.2, (h.2.1 j j1).2, this.1, fun q => u1 j j j1 j1 q.symm, hsy _ _ (hRj j j1)⟩
      · have ea : N a = mt a := hf.2 a (fun i hi => ⟨fun q => c1 ⟨i, by omega, q⟩, fun q => c2 ⟨i, by omega, q⟩⟩)
        rcases hM a ha with g | ⟨b, b1, b2, b3, b4, b5⟩
        · exact Or.inl (by rw [ea]; exact g)
        · refine Or.inr ⟨b, by rw [ea]; exact b1, b2, ?_, b4, b5⟩
          rw [hf.2 b (fun i hi => ⟨fun q => ?_, fun q => ?_⟩)]
          · exact b3
          · rw [q] at b3
            by_cases e : i = k
            · rw [e] at b3; omega
            · have := (hmm i (by omega)).1
              exact c2 ⟨i + 1, by omega, by omega⟩
          · cases i with
            | zero =>
              have q1 : b = w := q
              rw [q1] at b3; omega
            | succ i =>
              rw [q] at b3
              have := (hmm i (by omega)).2
              exact c1 ⟨i, by omega, by omega⟩
  · by_cases c1 : ∃ j, j ≤ k ∧ y = esF mt pa v j
    · obtain ⟨j, j1, j2⟩ := c1
      have := (hf.1 j (by omega)).1
      rw [j2, this]
      refine ⟨fun _ => ?_, fun _ => by omega⟩
      by_cases e : j = k
      · rw [e, h.1]; exact Or.inr (Or.inr rfl)
      · exact Or.inl (h.2.2.1 j (by omega)).1
    · by_cases c2 : ∃ j, j ≤ k ∧ y = udF mt pa v w j
      · obtain ⟨j, j1, j2⟩ := c2
        have := (hf.1 j (by omega)).2
        rw [j2, this]
        refine ⟨fun _ => ?_, fun _ => by omega⟩
        cases j with
        | zero => exact Or.inr (Or.inl rfl)
        | succ j => exact Or.inl (by rw [(hmm j (by omega)).2]; omega)
      · rw [hf.2 y (fun i hi => ⟨fun q => c1 ⟨i, by omega, q⟩, fun q => c2 ⟨i, by omega, q⟩⟩)]
        refine ⟨Or.inl, fun g => ?_⟩
        rcases g with g | g | g
        · exact g
        · exact absurd ⟨0, by omega, g⟩ c2
        · exact absurd ⟨k, Nat.le_refl k, by rw [h.1]; exact g⟩ c1
theorem fl_cv {n w : Nat} {N : Nat → Int} (hS : ∀ a, S a → a < n) (hrS : S root) (hr : mt root < 0) (hw : S w) (hm : mt w < 0) (hne : w ≠ root) (hc : ∀ y, 0 ≤ N y ↔ (0 ≤ mt y ∨ y = w ∨ y = root)) : cvN S n N = cvN S n mt + 2 := by
  have e1 : cvN S n N = cnP (fun i => S i ∧ (0 ≤ mt i ∨ i = w ∨ i = root)) n := cnP_eq (fun i _ => by rw [hc i])
  have q1 : cnP (fun i => S i ∧ (0 ≤ mt i ∨ i = w ∨ i = root)) n = cnP (fun i => (S i ∧ (0 ≤ mt i ∨ i = w ∨ i = root)) ∧ i ≠ w) n + 1 := cnP_rm (p := fun i => S i ∧ (0 ≤ mt i ∨ i = w ∨ i = root)) (hS w hw) ⟨hw, Or.inr (Or.inl rfl)⟩
  have q2 : cnP (fun i => (S i ∧ (0 ≤ mt i ∨ i = w ∨ i = root)) ∧ i ≠ w) n = cnP (fun i => ((S i ∧ (0 ≤ mt i ∨ i = w ∨ i = root)) ∧ i ≠ w) ∧ i ≠ root) n + 1 := cnP_rm (p := fun i => (S i ∧ (0 ≤ mt i ∨ i = w ∨ i = root)) ∧ i ≠ w) (hS root hrS) ⟨⟨hrS, Or.inr (Or.inr rfl)⟩, fun e => hne e.symm⟩
  have q3 : cvN S n mt = cnP (fun i => ((S i ∧ (0 ≤ mt i ∨ i = w ∨ i = root)) ∧ i ≠ w) ∧ i ≠ root) n := cnP_eq (fun i _ => ⟨fun g => ⟨⟨⟨g.1, Or.inl g.2⟩, fun e => by have h2 := g.2; rw [e] at h2; omega⟩, fun e => by have h2 := g.2; rw [e] at h2; omega⟩, fun g => ⟨g.1.1.1, g.1.1.2.resolve_right (fun q => q.elim g.1.2 g.2)⟩⟩)
  omega
end FL
