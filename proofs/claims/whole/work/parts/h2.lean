/-- distances where far off is another number -/
def dtC (De : Nat → Int64) : Nat → Int := fun v => if (De v).toInt < 1000000000000 then (De v).toInt else 1000000000000
theorem dtc_y {De : Nat → Int64} {v : Nat} (h : (De v).toInt < 1000000000000) : dtC De v = (De v).toInt := if_pos h
theorem dtc_n {De : Nat → Int64} {v : Nat} (h : ¬ (De v).toInt < 1000000000000) : dtC De v = 1000000000000 := if_neg h
theorem dtc_up {De : Nat → Int64} {b : Nat} {w : Int64} (h : w.toInt < 1000000000000) : dtC (fuj De b w) = fup (dtC De) b w.toInt := by
  funext v
  unfold dtC fuj fup
  by_cases e : v = b
  · rw [if_pos e, if_pos e, if_pos h]
  · rw [if_neg e, if_neg e]
/-- each is a distance or far off -/
def farP (De : Nat → Int64) : Prop := ∀ v, v < 16 → (De v).toInt < 1000000000000 ∨ (De v).toInt = 1099511627776
theorem farp_up {De : Nat → Int64} {b : Nat} {w : Int64} (h : farP De) (hw : w.toInt < 1000000000000) : farP (fuj De b w) := fun v hv => by
  unfold fuj
  by_cases e : v = b
  · rw [if_pos e]; exact Or.inl hw
  · rw [if_neg e]; exact h v hv
def bfN (B : Nat → Int) : Nat → Nat := fun v => (B v).toNat
theorem bfn_up {B : Nat → Int} {b : Nat} {k : Int} : bfN (fup B b k) = bup (bfN B) b k.toNat := by
  funext v
  unfold bfN fup bup
  split <;> rfl
/-- in a round of relaxing, before arc k -/
def brD (n x : Nat) (tl hd rm cs : Nat → Int) (J : Nat) (p D : Nat → Int) (B : Nat → Nat) (T : Int) (r k : Nat) : Prop := bfR n x tl hd rm cs J p D B T ∧ ∃ (S : Nat → Prop) (f : Nat → Nat) (u0 : Nat), rdR n tl hd rm cs J p D S u0 k ∧ ((∀ v, v < n → S v) ∨ (u0 < n ∧ (∀ i, i < r → f i < n ∧ S (f i)) ∧ ∀ i j, i < r → j < r → f i = f j → i = j))
def bsD (n x : Nat) (tl hd rm cs : Nat → Int) (J : Nat) (p D : Nat → Int) (B : Nat → Nat) (T : Int) (r : Nat) : Prop := bfR n x tl hd rm cs J p D B T ∧ snR n r tl hd rm cs J p D
theorem brd_go {n x : Nat} {tl hd rm cs : Nat → Int} {J : Nat} {p D : Nat → Int} {B : Nat → Nat} {T : Int} {r : Nat} (h : bsD n x tl hd rm cs J p D B T r) : brD n x tl hd rm cs J p D B T r 0 := ⟨h.1, sn_go h.2⟩
theorem brd_end {n x : Nat} {tl hd rm cs : Nat → Int} {J : Nat} {p D : Nat → Int} {B : Nat → Nat} {T T1 : Int} {r k : Nat} (h : brD n x tl hd rm cs J p D B T r k) (hk : k = J) (hT : T ≤ T1) : bsD n x tl hd rm cs J p D B T1 (r + 1) := by
  subst hk
  obtain ⟨h1, S, f, u0, h2, h3⟩ := h
  exact ⟨bf_mono h1 hT, sn_st h2 h3⟩
theorem brd_no {n x : Nat} {tl hd rm cs : Nat → Int} {J : Nat} {p D : Nat → Int} {B : Nat → Nat} {T T1 : Int} {r k : Nat} (h : brD n x tl hd rm cs J p D B T r k) (hT : T ≤ T1) (hn : tl k ≠ hd k → 0 < rm k → D (tl k).toNat < 1000000000000 → D (hd k).toNat ≤ D (tl k).toNat + cs k) : brD n x tl hd rm cs J p D B T1 r (k + 1) := by
  obtain ⟨h1, S, f, u0, h2, h3⟩ := h
  exact ⟨bf_mono h1 hT, S, f, u0, rd_no h2 hn, h3⟩
theorem brd_up {n x : Nat} {tl hd rm cs : Nat → Int} {J : Nat} {p D : Nat → Int} {B : Nat → Nat} {T : Int} {r k : Nat} (h : brD n x tl hd rm cs J p D B T r k) (hp : ptR tl hd rm cs J p) (hk : k < J) (ht : 0 ≤ tl k ∧ tl k < (n : Int)) (hh : 0 ≤ hd k ∧ hd k < (n : Int)) (hne : tl k ≠ hd k) (hr : 0 < rm k) (hc : -1000 ≤ cs k ∧ cs k ≤ 1000) (hD : D (tl k).toNat < 1000000000000) (hl : D (tl k).toNat + cs k < D (hd k).toNat) : brD n x tl hd rm cs J p (fup D (hd k).toNat (D (tl k).toNat + cs k)) (bup B (hd k).toNat k) (T + 1) r (k + 1) := by
  obtain ⟨h1, S, f, u0, h2, h3⟩ := h
  exact ⟨bf_up h1 hp hk ht hh hne hr hc hD hl, S, f, u0, rd_yes h2 hp hk ht hh hne hr hD hl, h3⟩
theorem inj_on : ∀ (r : Nat) (f : Nat → Nat), (∀ i, i < r → f i < r) → (∀ i j, i < r → j < r → f i = f j → i = j) → ∀ v, v < r → ∃ i, i < r ∧ f i = v := by
  intro r f h1 h2 v hv
  refine Classical.byContradiction (fun g => ?_)
  have h3 := inj_le (r + 1) r (fun i => if i < r then f i else v) (fun i hi => by
    show (if i < r then f i else v) < r
    by_cases c : i < r
    · rw [if_pos c]; exact h1 i c
    · rw [if_neg c]; exact hv) (fun i j hi hj e => by
    have e' : (if i < r then f i else v) = (if j < r then f j else v) := e
    by_cases c1 : i < r
    · rw [if_pos c1] at e'
      by_cases c2 : j < r
      · rw [if_pos c2] at e'; exact h2 i j c1 c2 e'
      · rw [if_neg c2] at e'; exact absurd ⟨i, c1, e'⟩ g
    · rw [if_neg c1] at e'
      by_cases c2 : j < r
      · rw [if_pos c2] at e'; exact absurd ⟨j, c2, e'.symm⟩ g
      · omega)
  omega
theorem sn_cvn {n r : Nat} {tl hd rm cs : Nat → Int} {J : Nat} {p D : Nat → Int} (h : snR n r tl hd rm cs J p D) (hr : r = n) (hT : ∀ j, j < J → 0 ≤ tl j ∧ tl j < (n : Int)) : cvR tl hd rm cs J D := by
  subst hr
  obtain ⟨S, f, h1, h2⟩ := h
  have hall : ∀ v, v < r → S v := by
    rcases h2 with h2 | ⟨h2, h3⟩
    · exact h2
    · intro v hv
      obtain ⟨i, i1, i2⟩ := inj_on r f (fun i hi => (h2 i hi).1) h3 v hv
      rw [← i2]; exact (h2 i i1).2
  intro j hj q1 q2 q3
  exact h1.2 j hj q1 q2 (hall _ (by have := hT j hj; omega)) q3
theorem bsd_0 {n x : Nat} {tl hd rm cs : Nat → Int} {J : Nat} {p D : Nat → Int} {B : Nat → Nat} (hx : x < n) (h : ∀ i : Nat, i < n → D i = if i = x then 0 else 1000000000000) : bsD n x tl hd rm cs J p D B 0 0 := by
  refine ⟨⟨by rw [h x hx, if_pos rfl], fun v hv => ?_, fun v hv hne hD => ?_, fun v hv hD => ?_⟩, fun _ => False, fun i => i, ⟨fun _ _ _ _ q => absurd q id, fun _ _ _ _ q => absurd q id⟩, Or.inr ⟨fun i hi => by omega, fun i j hi => by omega⟩⟩
  · rw [h v hv]
    by_cases e : v = x
    · rw [if_pos e]; omega
    · rw [if_neg e]; omega
  · rw [h v hv, if_neg hne] at hD; omega
  · rw [h v hv] at hD
    by_cases e : v = x
    · rw [e]; exact ⟨0, rc_x _ _ _⟩
    · rw [if_neg e] at hD; omega
/-- so far nothing could be lowered -/
def chN (tl hd rm cs D : Nat → Int) (k : Nat) : Prop := ∀ j, j < k → tl j ≠ hd j → 0 < rm j → D (tl j).toNat < 1000000000000 → D (hd j).toNat ≤ D (tl j).toNat + cs j
theorem chn_st {tl hd rm cs D : Nat → Int} {k : Nat} (h : chN tl hd rm cs D k) (hn : tl k ≠ hd k → 0 < rm k → D (tl k).toNat < 1000000000000 → D (hd k).toNat ≤ D (tl k).toNat + cs k) : chN tl hd rm cs D (k + 1) := fun j hj => by
  by_cases e : j = k
  · subst e; exact hn
  · exact h j (by omega)
/-- the links: what each says -/
def lkR (lt lh lr lc : Nat → Int) (m : Nat) (F T W C h : Nat → Int) : Prop := (∀ j, j < 2 * m → lt j = tlR F T j ∧ lh j = hdR F T j ∧ lr j = rmR W 1 h j ∧ lc j = (if j % 2 = 0 then C (j / 2) else - C (j / 2))) ∧ ∀ i, i < m → (0 < W i ∧ W i ≤ 1000) ∧ (0 ≤ C i ∧ C i ≤ 1000) ∧ F i ≠ T i
theorem lk_ne {lt lh lr lc F T W C h : Nat → Int} {m j : Nat} (hl : lkR lt lh lr lc m F T W C h) (hj : j < 2 * m) : tlR F T j ≠ hdR F T j := by
  have := (hl.2 (j / 2) (by omega)).2.2
  unfold tlR hdR
  by_cases e : j % 2 = 0
  · rw [if_pos e, if_pos e]; exact this
  · rw [if_neg e, if_neg e]; exact fun g => this g.symm
theorem lk_cs {lt lh lr lc F T W C h : Nat → Int} {m j : Nat} (hl : lkR lt lh lr lc m F T W C h) (hf : fiR W 1 m h) (hj : j < 2 * m) (hr : 0 < rmR W 1 h j) : lc j = csR C h j := by
  have h1 := (hl.1 j hj).2.2.2
  have h2 := (hl.2 (j / 2) (by omega)).2.1
  have h3 := (hf (j / 2) (by omega)).2.2 (by omega)
  have e : cpR C (j / 2) = C (j / 2) := by
    unfold cpR
    by_cases g : 0 < C (j / 2)
    · rw [if_pos g]
    · rw [if_neg g]; omega
  rw [h1]
  unfold csR
  unfold rmR at hr
  by_cases q : j % 2 = 0
  · rw [if_pos q, if_pos q, if_neg (by omega), e]
  · rw [if_neg q, if_neg q]
    rw [if_neg q] at hr
    by_cases g : 0 < h (j / 2)
    · rw [if_pos g, e]
    · rw [if_neg g, if_pos (show (1 : Int) ≠ 0 by decide)] at hr; omega
theorem lk_cb {lt lh lr lc F T W C h : Nat → Int} {m j : Nat} (hl : lkR lt lh lr lc m F T W C h) (hj : j < 2 * m) : -1000 ≤ lc j ∧ lc j ≤ 1000 := by
  have h1 := (hl.1 j hj).2.2.2
  have h2 := (hl.2 (j / 2) (by omega)).2.1
  rw [h1]
  by_cases q : j % 2 = 0
  · rw [if_pos q]; omega
  · rw [if_neg q]; omega
theorem cs_bb {C h : Nat → Int} {m : Nat} (hC : ∀ i, i < m → 0 ≤ C i ∧ C i ≤ 1000) (j : Nat) (hj : j < 2 * m) : -1000 ≤ csR C h j ∧ csR C h j ≤ 1000 := by
  have h2 := hC (j / 2) (by omega)
  have e : 0 ≤ cpR C (j / 2) ∧ cpR C (j / 2) ≤ 1000 := by
    unfold cpR
    by_cases g : 0 < C (j / 2)
    · rw [if_pos g]; omega
    · rw [if_neg g]; omega
  unfold csR
  by_cases q : j % 2 = 0
  · rw [if_pos q]
    by_cases g : h (j / 2) < 0
    · rw [if_pos g]; omega
    · rw [if_neg g]; omega
  · rw [if_neg q]
    by_cases g : 0 < h (j / 2)
    · rw [if_pos g]; omega
    · rw [if_neg g]; omega
theorem ex_C2 (p : Nat → Int) : ∀ n : Nat, ∃ C : Int, ∀ v, v < n → 9000000 ≤ p v + C := by
  intro n
  obtain ⟨C, h⟩ := ex_C p n
  exact ⟨C + 6000000, fun v hv => by have := h v hv; omega⟩
theorem pt_new2 {n x : Nat} {tl hd rm cs : Nat → Int} {J : Nat} {p D : Nat → Int} {B : Nat → Nat} {T : Int} (h : bfR n x tl hd rm cs J p D B T) (hT : T ≤ 4000) (hp : ptR tl hd rm cs J p) (hcv : cvR tl hd rm cs J D) (htl : ∀ j, j < J → 0 ≤ tl j ∧ tl j < (n : Int)) (hhd : ∀ j, j < J → 0 ≤ hd j ∧ hd j < (n : Int)) (hcs : ∀ j, j < J → -1000 ≤ cs j ∧ cs j ≤ 1000) : ∃ p1 : Nat → Int, ptR tl hd rm cs J p1 ∧ ∀ v, v < n → D v < 1000000000000 → p1 v = D v := by
  obtain ⟨C, hC⟩ := ex_C2 p n
  obtain ⟨-, h2, -, -⟩ := h
  refine ⟨fun v => if D v < 1000000000000 then D v else p v + C, fun j hj q1 q2 => ?_, fun v _ hD => if_pos hD⟩
  have t1 := htl j hj
  have t2 := hhd j hj
  have t3 := hcs j hj
  have b1 := h2 (tl j).toNat (by omega)
  have b2 := h2 (hd j).toNat (by omega)
  have b3 := hC (tl j).toNat (by omega)
  have b4 := hp j hj q1 q2
  show (if D (hd j).toNat < 1000000000000 then D (hd j).toNat else p (hd j).toNat + C) ≤ cs j + (if D (tl j).toNat < 1000000000000 then D (tl j).toNat else p (tl j).toNat + C)
  by_cases c1 : D (tl j).toNat < 1000000000000
  · have b5 := hcv j hj q1 q2 c1
    rw [if_pos c1, if_pos (show D (hd j).toNat < 1000000000000 by omega)]
    omega
  · rw [if_neg c1]
    by_cases c2 : D (hd j).toNat < 1000000000000
    · rw [if_pos c2]; omega
    · rw [if_neg c2]; omega
/-- a way back has no node twice -/
theorem ex_len {P : Nat → Nat} {x n : Nat} : ∀ (j v : Nat), exR P x j v → v < n → (∀ u i, u < n → exR P x (i + 1) u → P u < n) → j < n := by
  intro j v h hv hP
  have hit : ∀ k, k ≤ j → ∃ u, u < n ∧ exR P x (j - k) u := by
    intro k
    induction k with
    | zero => intro _; exact ⟨v, hv, h⟩
    | succ k ih =>
      intro hk
      obtain ⟨u, u1, u2⟩ := ih (by omega)
      rw [show j - k = (j - (k + 1)) + 1 by omega] at u2
      exact ⟨P u, hP u _ u1 u2, u2.2⟩
  have hf : ∀ k, ∃ u, k ≤ j → u < n ∧ exR P x (j - k) u := fun k => by
    by_cases g : k ≤ j
    · obtain ⟨u, u1⟩ := hit k g
      exact ⟨u, fun _ => u1⟩
    · exact ⟨0, fun q => absurd q g⟩
  have h9 := inj_le (j + 1) n (fun k => Classical.choose (hf k)) (fun k hk => (Classical.choose_spec (hf k) (by omega)).1) (fun a b ha hb e => by
    have e1 := (Classical.choose_spec (hf a) (by omega)).2
    have e2 := (Classical.choose_spec (hf b) (by omega)).2
    have e' : Classical.choose (hf a) = Classical.choose (hf b) := e
    rw [e'] at e1
    have := ex_un _ _ _ e1 e2
    omega)
  omega
