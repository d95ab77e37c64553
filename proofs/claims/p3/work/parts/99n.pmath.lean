def tlR (Fr To : Nat → Int) (j : Nat) : Int := if j % 2 = 0 then Fr (j / 2) else To (j / 2)
def hdR (Fr To : Nat → Int) (j : Nat) : Int := if j % 2 = 0 then To (j / 2) else Fr (j / 2)
def cpR (Wt : Nat → Int) (k : Nat) : Int := if 0 < Wt k then Wt k else 0
def rmR (Wt : Nat → Int) (dr : Int) (g : Nat → Int) (j : Nat) : Int := if j % 2 = 0 then (if g (j / 2) < 0 then - g (j / 2) else cpR Wt (j / 2) - g (j / 2)) else (if 0 < g (j / 2) then g (j / 2) else if dr ≠ 0 then 0 else cpR Wt (j / 2) + g (j / 2))
def csR (Co : Nat → Int) (g : Nat → Int) (j : Nat) : Int := if j % 2 = 0 then (if g (j / 2) < 0 then - cpR Co (j / 2) else cpR Co (j / 2)) else (if 0 < g (j / 2) then - cpR Co (j / 2) else cpR Co (j / 2))
def fiR (Wt : Nat → Int) (dr : Int) (m : Nat) (g : Nat → Int) : Prop := ∀ k, k < m → - cpR Wt k ≤ g k ∧ g k ≤ cpR Wt k ∧ (dr ≠ 0 → 0 ≤ g k)
def ptR (tl hd rm cs : Nat → Int) (J : Nat) (p : Nat → Int) : Prop := ∀ j, j < J → tl j ≠ hd j → 0 < rm j → p (hd j).toNat ≤ cs j + p (tl j).toNat
def rcR (P : Nat → Nat) (x : Nat) : Nat → Nat → Prop
  | 0, v => v = x
  | j + 1, v => v = x ∨ (v ≠ x ∧ rcR P x j (P v))
theorem rc_x (P : Nat → Nat) (x j : Nat) : rcR P x j x := by
  cases j with
  | zero => rfl
  | succ j => exact Or.inl rfl
theorem rc_up {P : Nat → Nat} {x : Nat} : ∀ (j v : Nat), rcR P x j v → rcR P x (j + 1) v := by
  intro j
  induction j with
  | zero => intro v h; exact Or.inl h
  | succ j ih =>
    intro v h
    rcases h with h | ⟨h1, h2⟩
    · exact Or.inl h
    · exact Or.inr ⟨h1, ih _ h2⟩
def bfR (n : Nat) (x : Nat) (tl hd rm cs : Nat → Int) (J : Nat) (p D : Nat → Int) (B : Nat → Nat) (T : Int) : Prop := D x = 0 ∧ (∀ v, v < n → -1000 * T ≤ D v ∧ D v ≤ 1000000000000 ∧ (D v < 1000000000000 → D v ≤ 1000 * T)) ∧ (∀ v, v < n → v ≠ x → D v < 1000000000000 → B v < J ∧ hd (B v) = (v : Int) ∧ 0 ≤ tl (B v) ∧ tl (B v) < (n : Int) ∧ tl (B v) ≠ hd (B v) ∧ 0 < rm (B v) ∧ D (tl (B v)).toNat < 1000000000000 ∧ D (tl (B v)).toNat + cs (B v) ≤ D v) ∧ (∀ v, v < n → D v < 1000000000000 → ∃ j, rcR (fun u => (tl (B u)).toNat) x j v)
theorem rc_avoid {n x : Nat} {tl hd rm cs : Nat → Int} {J : Nat} {p D : Nat → Int} {B : Nat → Nat} {T : Int} (h : bfR n x tl hd rm cs J p D B T) (hp : ptR tl hd rm cs J p) {b a : Nat} (hab : D a - p a < D b - p b) : ∀ (j v : Nat), v < n → D v < 1000000000000 → D v - p v ≤ D a - p a → rcR (fun u => (tl (B u)).toNat) x j v → rcR (fun u => if u = b then a else (tl (B u)).toNat) x j v := by
  obtain ⟨-, -, h3, -⟩ := h
  intro j
  induction j with
  | zero => intro v _ _ _ hr; exact hr
  | succ j ih =>
    intro v hv hD hk hr
    rcases hr with hr | ⟨hr1, hr2⟩
    · exact Or.inl hr
    · have hvb : v ≠ b := by intro e; subst e; omega
      obtain ⟨q1, q2, q3, q4, q5, q6, q7, q8⟩ := h3 v hv hr1 hD
      have h5 := hp (B v) q1 q5 q6
      rw [q2] at h5
      have h6 : ((v : Int)).toNat = v := rfl
      rw [h6] at h5
      refine Or.inr ⟨hr1, ?_⟩
      show rcR (fun u => if u = b then a else (tl (B u)).toNat) x j (if v = b then a else (tl (B v)).toNat)
      rw [if_neg hvb]
      exact ih _ (by omega) q7 (by omega) hr2
theorem rc_all {n x : Nat} {tl hd rm cs : Nat → Int} {J : Nat} {p D : Nat → Int} {B : Nat → Nat} {T : Int} (h : bfR n x tl hd rm cs J p D B T) {b a : Nat} (ha : ∃ j, rcR (fun u => if u = b then a else (tl (B u)).toNat) x j a) (hbx : b ≠ x) : ∀ (j v : Nat), v < n → D v < 1000000000000 → rcR (fun u => (tl (B u)).toNat) x j v → ∃ i, rcR (fun u => if u = b then a else (tl (B u)).toNat) x i v := by
  obtain ⟨-, -, h3, -⟩ := h
  intro j
  induction j with
  | zero => intro v _ _ hr; exact ⟨0, hr⟩
  | succ j ih =>
    intro v hv hD hr
    rcases hr with hr | ⟨hr1, hr2⟩
    · exact ⟨0, hr⟩
    · by_cases e : v = b
      · obtain ⟨i, hi⟩ := ha
        refine ⟨i + 1, Or.inr ⟨hr1, ?_⟩⟩
        show rcR (fun u => if u = b then a else (tl (B u)).toNat) x i (if v = b then a else (tl (B v)).toNat)
        rw [if_pos e]; exact hi
      · obtain ⟨q1, q2, q3, q4, q5, q6, q7, q8⟩ := h3 v hv hr1 hD
        obtain ⟨i, hi⟩ := ih _ (by omega) q7 hr2
        refine ⟨i + 1, Or.inr ⟨hr1, ?_⟩⟩
        show rcR (fun u => if u = b then a else (tl (B u)).toNat) x i (if v = b then a else (tl (B v)).toNat)
        rw [if_neg e]; exact hi
def bup (B : Nat → Nat) (b j : Nat) : Nat → Nat := fun u => if u = b then j else B u
theorem bf_x {n x : Nat} {tl hd rm cs : Nat → Int} {J : Nat} {p D : Nat → Int} {B : Nat → Nat} {T : Int} (h : bfR n x tl hd rm cs J p D B T) (hp : ptR tl hd rm cs J p) : ∀ (j v : Nat), v < n → D v < 1000000000000 → rcR (fun u => (tl (B u)).toNat) x j v → D x - p x ≤ D v - p v := by
  obtain ⟨-, -, h3, -⟩ := h
  intro j
  induction j with
  | zero => intro v _ _ hr; have e : v = x := hr; subst e; omega
  | succ j ih =>
    intro v hv hD hr
    rcases hr with hr | ⟨hr1, hr2⟩
    · subst hr; omega
    · obtain ⟨q1, q2, q3, q4, q5, q6, q7, q8⟩ := h3 v hv hr1 hD
      have h5 := hp (B v) q1 q5 q6
      rw [q2] at h5
      have h6 : ((v : Int)).toNat = v := rfl
      rw [h6] at h5
      have h7 := ih _ (by omega) q7 hr2
      omega
theorem bf_up {n x : Nat} {tl hd rm cs : Nat → Int} {J : Nat} {p D : Nat → Int} {B : Nat → Nat} {T : Int} (h : bfR n x tl hd rm cs J p D B T) (hp : ptR tl hd rm cs J p) {j : Nat} (hj : j < J) (ht : 0 ≤ tl j ∧ tl j < (n : Int)) (hh : 0 ≤ hd j ∧ hd j < (n : Int)) (hne : tl j ≠ hd j) (hr : 0 < rm j) (hc : -1000 ≤ cs j ∧ cs j ≤ 1000) (hD : D (tl j).toNat < 1000000000000) (hl : D (tl j).toNat + cs j < D (hd j).toNat) : bfR n x tl hd rm cs J p (fup D (hd j).toNat (D (tl j).toNat + cs j)) (bup B (hd j).toNat j) (T + 1) := by
  have h5 := hp j hj hne hr
  have hab : D (tl j).toNat - p (tl j).toNat < D (hd j).toNat - p (hd j).toNat := by omega
  obtain ⟨i0, hi0⟩ := h.2.2.2 (tl j).toNat (by omega) hD
  have hx := bf_x h hp i0 (tl j).toNat (by omega) hD hi0
  have hbx : (hd j).toNat ≠ x := by
    intro e
    rw [e] at hab
    omega
  have hav := rc_avoid h hp hab i0 (tl j).toNat (by omega) hD (by omega) hi0
  have hall := rc_all h (b := (hd j).toNat) ⟨i0, hav⟩ hbx
  obtain ⟨h1, h2, h3, h4⟩ := h
  have heq : (fun u => (tl (bup B (hd j).toNat j u)).toNat) = (fun u => if u = (hd j).toNat then (tl j).toNat else (tl (B u)).toNat) := by
    funext u
    unfold bup
    by_cases e : u = (hd j).toNat
    · rw [if_pos e, if_pos e]
    · rw [if_neg e, if_neg e]
  have htb : (tl j).toNat ≠ (hd j).toNat := by omega
  refine ⟨by rw [fup_o _ _ (Ne.symm hbx)]; exact h1, fun v hv => ?_, fun v hv hvx hDv => ?_, fun v hv hDv => ?_⟩
  · have q := h2 v hv
    by_cases e : v = (hd j).toNat
    · subst e
      rw [fup_s]
      have q2 := h2 (tl j).toNat (by omega)
      omega
    · rw [fup_o _ _ e]; omega
  · by_cases e : v = (hd j).toNat
    · subst e
      have e2 : bup B (hd j).toNat j (hd j).toNat = j := by simp [bup]
      rw [e2, fup_s, fup_o _ _ htb]
      exact ⟨hj, by omega, ht.1, ht.2, hne, hr, hD, by omega⟩
    · have e2 : bup B (hd j).toNat j v = B v := by simp [bup, e]
      rw [fup_o _ _ e] at hDv ⊢
      rw [e2]
      obtain ⟨q1, q2, q3, q4, q5, q6, q7, q8⟩ := h3 v hv hvx hDv
      refine ⟨q1, q2, q3, q4, q5, q6, ?_, ?_⟩
      · by_cases e3 : (tl (B v)).toNat = (hd j).toNat
        · rw [e3, fup_s]; rw [e3] at q7; omega
        · rw [fup_o _ _ e3]; exact q7
      · by_cases e3 : (tl (B v)).toNat = (hd j).toNat
        · rw [e3, fup_s]; rw [e3] at q8; omega
        · rw [fup_o _ _ e3]; exact q8
  · rw [heq]
    by_cases e : v = (hd j).toNat
    · subst e
      refine ⟨i0 + 1, Or.inr ⟨hbx, ?_⟩⟩
      show rcR _ x i0 (if (hd j).toNat = (hd j).toNat then (tl j).toNat else _)
      rw [if_pos rfl]; exact hav
    · rw [fup_o _ _ e] at hDv
      obtain ⟨i, hi⟩ := h4 v hv hDv
      exact hall i v hv hDv hi
def cvR (tl hd rm cs : Nat → Int) (J : Nat) (D : Nat → Int) : Prop := ∀ j, j < J → tl j ≠ hd j → 0 < rm j → D (tl j).toNat < 1000000000000 → D (hd j).toNat ≤ D (tl j).toNat + cs j
def stR (n : Nat) (tl hd rm cs : Nat → Int) (J : Nat) (p D : Nat → Int) (S : Nat → Prop) : Prop := (∀ t u, t < n → u < n → S t → ¬ S u → D u < 1000000000000 → D t < 1000000000000 ∧ D t - p t ≤ D u - p u) ∧ (∀ j, j < J → tl j ≠ hd j → 0 < rm j → S (tl j).toNat → D (tl j).toNat < 1000000000000 → D (hd j).toNat ≤ D (tl j).toNat + cs j)
def rdR (n : Nat) (tl hd rm cs : Nat → Int) (J : Nat) (p D : Nat → Int) (S : Nat → Prop) (u0 : Nat) (k : Nat) : Prop := stR n tl hd rm cs J p D S ∧ ¬ S u0 ∧ (∀ u, u < n → ¬ S u → D u < 1000000000000 → D u0 < 1000000000000 ∧ D u0 - p u0 ≤ D u - p u) ∧ (∀ j, j < k → tl j ≠ hd j → 0 < rm j → (tl j).toNat = u0 → D u0 < 1000000000000 → D (hd j).toNat ≤ D u0 + cs j)
theorem rd_no {n : Nat} {tl hd rm cs : Nat → Int} {J : Nat} {p D : Nat → Int} {S : Nat → Prop} {u0 k : Nat} (h : rdR n tl hd rm cs J p D S u0 k) (hn : tl k ≠ hd k → 0 < rm k → D (tl k).toNat < 1000000000000 → D (hd k).toNat ≤ D (tl k).toNat + cs k) : rdR n tl hd rm cs J p D S u0 (k + 1) := by
  obtain ⟨h1, h2, h3, h4⟩ := h
  refine ⟨h1, h2, h3, fun j hj q1 q2 q3 q4 => ?_⟩
  by_cases e : j = k
  · subst e
    have := hn q1 q2 (by rw [q3]; exact q4)
    rw [q3] at this
    exact this
  · exact h4 j (by omega) q1 q2 q3 q4
theorem rd_yes {n : Nat} {tl hd rm cs : Nat → Int} {J : Nat} {p D : Nat → Int} {S : Nat → Prop} {u0 k : Nat} (h : rdR n tl hd rm cs J p D S u0 k) (hp : ptR tl hd rm cs J p) (hk : k < J) (ht : 0 ≤ tl k ∧ tl k < (n : Int)) (hh : 0 ≤ hd k ∧ hd k < (n : Int)) (hne : tl k ≠ hd k) (hr : 0 < rm k) (hD : D (tl k).toNat < 1000000000000) (hl : D (tl k).toNat + cs k < D (hd k).toNat) : rdR n tl hd rm cs J p (fup D (hd k).toNat (D (tl k).toNat + cs k)) S u0 (k + 1) := by
  obtain ⟨⟨a1, a2⟩, h2, h3, h4⟩ := h
  have h5 := hp k hk hne hr
  have haS : ¬ S (tl k).toNat := fun hs => by have := a2 k hk hne hr hs hD; omega
  obtain ⟨b1, b2⟩ := h3 (tl k).toNat (by omega) haS hD
  have hbS : ¬ S (hd k).toNat := fun hs => by have := a1 (hd k).toNat (tl k).toNat (by omega) (by omega) hs haS hD; omega
  have hbu : u0 ≠ (hd k).toNat := by intro e; rw [e] at b2; omega
  refine ⟨⟨fun t u q1 q2 q3 q4 q5 => ?_, fun j q1 q2 q3 q4 q5 => ?_⟩, h2, fun u q1 q2 q3 => ?_, fun j q1 q2 q3 q4 q5 => ?_⟩
  · have htb : t ≠ (hd k).toNat := fun e => hbS (e ▸ q3)
    rw [fup_o _ _ htb]
    by_cases e : u = (hd k).toNat
    · subst e
      rw [fup_s]
      have := a1 t (tl k).toNat q1 (by omega) q3 haS hD
      omega
    · rw [fup_o _ _ e] at q5 ⊢
      exact a1 t u q1 q2 q3 q4 q5
  · have htb : (tl j).toNat ≠ (hd k).toNat := fun e => hbS (e ▸ q4)
    rw [fup_o _ _ htb] at q5 ⊢
    have := a2 j q1 q2 q3 q4 q5
    by_cases e : (hd j).toNat = (hd k).toNat
    · rw [e, fup_s]; rw [e] at this; omega
    · rw [fup_o _ _ e]; exact this
  · rw [fup_o _ _ hbu]
    by_cases e : u = (hd k).toNat
    · subst e
      rw [fup_s]
      exact ⟨b1, by omega⟩
    · rw [fup_o _ _ e] at q3 ⊢
      exact h3 u q1 q2 q3
  · rw [fup_o _ _ hbu] at q5 ⊢
    by_cases e1 : j = k
    · subst e1
      rw [fup_s, q4]
      omega
    · have := h4 j (by omega) q2 q3 q4 q5
      by_cases e : (hd j).toNat = (hd k).toNat
      · rw [e, fup_s]; rw [e] at this; omega
      · rw [fup_o _ _ e]; exact this
theorem rd_end {n : Nat} {tl hd rm cs : Nat → Int} {J : Nat} {p D : Nat → Int} {S : Nat → Prop} {u0 : Nat} (h : rdR n tl hd rm cs J p D S u0 J) : stR n tl hd rm cs J p D (fun v => S v ∨ v = u0) := by
  obtain ⟨⟨a1, a2⟩, h2, h3, h4⟩ := h
  refine ⟨fun t u q1 q2 q3 q4 q5 => ?_, fun j q1 q2 q3 q4 q5 => ?_⟩
  · have hu : ¬ S u := fun hs => q4 (Or.inl hs)
    rcases q3 with q3 | q3
    · exact a1 t u q1 q2 q3 hu q5
    · subst q3; exact h3 u q2 hu q5
  · rcases q4 with q4 | q4
    · exact a2 j q1 q2 q3 q4 q5
    · have := h4 j q1 q2 q3 q4 (by rw [← q4]; exact q5)
      rw [q4]; exact this
theorem argmin (n : Nat) (p D : Nat → Int) (S : Nat → Prop) : ∀ m : Nat, m ≤ n → (∃ u, u < m ∧ ¬ S u) → ∃ u0, u0 < m ∧ ¬ S u0 ∧ ∀ u, u < m → ¬ S u → D u < 1000000000000 → D u0 < 1000000000000 ∧ D u0 - p u0 ≤ D u - p u := by
  intro m
  induction m with
  | zero => rintro _ ⟨u, h, -⟩; omega
  | succ m ih =>
    rintro hm ⟨u, h1, h2⟩
    by_cases hS : S m
    · have hu : u ≠ m := fun e => h2 (e ▸ hS)
      obtain ⟨u0, q1, q2, q3⟩ := ih (by omega) ⟨u, by omega, h2⟩
      refine ⟨u0, by omega, q2, fun v hv hs hd => ?_⟩
      have hvm : v ≠ m := fun e => hs (e ▸ hS)
      exact q3 v (by omega) hs hd
    · by_cases hex : ∃ u, u < m ∧ ¬ S u
      · obtain ⟨u0, q1, q2, q3⟩ := ih (by omega) hex
        by_cases hc : D u0 < 1000000000000 ∧ (D m < 1000000000000 → D u0 - p u0 ≤ D m - p m)
        · refine ⟨u0, by omega, q2, fun v hv hs hd => ?_⟩
          by_cases e : v = m
          · subst e; exact ⟨hc.1, hc.2 hd⟩
          · exact q3 v (by omega) hs hd
        · by_cases hm2 : D m < 1000000000000
          · refine ⟨m, by omega, hS, fun v hv hs hd => ⟨hm2, ?_⟩⟩
            by_cases e : v = m
            · subst e; omega
            · obtain ⟨w1, w2⟩ := q3 v (by omega) hs hd
              by_cases w3 : D u0 - p u0 ≤ D m - p m
              · exact absurd ⟨w1, fun _ => w3⟩ hc
              · omega
          · refine ⟨u0, by omega, q2, fun v hv hs hd => ?_⟩
            by_cases e : v = m
            · subst e; exact absurd hd hm2
            · exact q3 v (by omega) hs hd
      · refine ⟨m, by omega, hS, fun v hv hs hd => ?_⟩
        by_cases e : v = m
        · subst e; exact ⟨hd, Int.le_refl _⟩
        · exact absurd ⟨v, by omega, hs⟩ hex
def snR (n r : Nat) (tl hd rm cs : Nat → Int) (J : Nat) (p D : Nat → Int) : Prop := ∃ (S : Nat → Prop) (f : Nat → Nat), stR n tl hd rm cs J p D S ∧ ((∀ v, v < n → S v) ∨ ((∀ i, i < r → f i < n ∧ S (f i)) ∧ ∀ i j, i < r → j < r → f i = f j → i = j))
theorem inj_le : ∀ (r n : Nat) (f : Nat → Nat), (∀ i, i < r → f i < n) → (∀ i j, i < r → j < r → f i = f j → i = j) → r ≤ n := by
  intro r
  induction r with
  | zero => intro n f _ _; omega
  | succ r ih =>
    intro n f h1 h2
    have hn : f r < n := h1 r (by omega)
    have h3 := ih (n - 1) (fun i => if f i < f r then f i else f i - 1) (fun i hi => by
      have q1 := h1 i (by omega)
      have q2 : f i ≠ f r := fun e => by have := h2 i r (by omega) (by omega) e; omega
      show (if f i < f r then f i else f i - 1) < n - 1
      split <;> omega) (fun i j hi hj e => by
      have q1 : f i ≠ f r := fun e => by have := h2 i r (by omega) (by omega) e; omega
      have q2 : f j ≠ f r := fun e => by have := h2 j r (by omega) (by omega) e; omega
      apply h2 i j (by omega) (by omega)
      have e' : (if f i < f r then f i else f i - 1) = (if f j < f r then f j else f j - 1) := e
      by_cases c1 : f i < f r
      · rw [if_pos c1] at e'
        by_cases c2 : f j < f r
        · rw [if_pos c2] at e'; exact e'
        · rw [if_neg c2] at e'; omega
      · rw [if_neg c1] at e'
        by_cases c2 : f j < f r
        · rw [if_pos c2] at e'; omega
        · rw [if_neg c2] at e'; omega)
    omega
theorem sn_cv {n r : Nat} {tl hd rm cs : Nat → Int} {J : Nat} {p D : Nat → Int} (h : snR n r tl hd rm cs J p D) (hr : n + 1 ≤ r) (hT : ∀ j, j < J → 0 ≤ tl j ∧ tl j < (n : Int)) : cvR tl hd rm cs J D := by
  obtain ⟨S, f, h1, h2⟩ := h
  have hall : ∀ v, v < n → S v := by
    rcases h2 with h2 | ⟨h2, h3⟩
    · exact h2
    · have := inj_le r n f (fun i hi => (h2 i hi).1) h3
      omega
  intro j hj q1 q2 q3
  exact h1.2 j hj q1 q2 (hall _ (by have := hT j hj; omega)) q3
theorem sn_go {n r : Nat} {tl hd rm cs : Nat → Int} {J : Nat} {p D : Nat → Int} (h : snR n r tl hd rm cs J p D) : ∃ (S : Nat → Prop) (f : Nat → Nat) (u0 : Nat), rdR n tl hd rm cs J p D S u0 0 ∧ ((∀ v, v < n → S v) ∨ (u0 < n ∧ (∀ i, i < r → f i < n ∧ S (f i)) ∧ ∀ i j, i < r → j < r → f i = f j → i = j)) := by
  obtain ⟨S, f, h1, h2⟩ := h
  by_cases hex : ∃ u, u < n ∧ ¬ S u
  · obtain ⟨u0, q1, q2, q3⟩ := argmin n p D S n (Nat.le_refl _) hex
    refine ⟨S, f, u0, ⟨h1, q2, q3, fun j hj => by omega⟩, ?_⟩
    rcases h2 with h2 | h2
    · exact Or.inl h2
    · exact Or.inr ⟨q1, h2⟩
  · have hall : ∀ v, v < n → S v := fun v hv => Classical.byContradiction fun hs => hex ⟨v, hv, hs⟩
    refine ⟨fun v => S v ∧ v < n, f, n, ⟨⟨fun t u q1 q2 q3 q4 q5 => absurd ⟨hall u q2, q2⟩ q4, fun j q1 q2 q3 q4 q5 => h1.2 j q1 q2 q3 q4.1 q5⟩, fun q => by omega, fun u q1 q2 => absurd ⟨hall u q1, q1⟩ q2, fun j hj => by omega⟩, Or.inl (fun v hv => ⟨hall v hv, hv⟩)⟩
theorem sn_st {n r : Nat} {tl hd rm cs : Nat → Int} {J : Nat} {p D : Nat → Int} {S : Nat → Prop} {f : Nat → Nat} {u0 : Nat} (h : rdR n tl hd rm cs J p D S u0 J) (h2 : (∀ v, v < n → S v) ∨ (u0 < n ∧ (∀ i, i < r → f i < n ∧ S (f i)) ∧ ∀ i j, i < r → j < r → f i = f j → i = j)) : snR n (r + 1) tl hd rm cs J p D := by
  have hu := h.2.1
  refine ⟨fun v => S v ∨ v = u0, fun i => if i < r then f i else u0, rd_end h, ?_⟩
  rcases h2 with h2 | ⟨q0, q1, q2⟩
  · exact Or.inl (fun v hv => Or.inl (h2 v hv))
  · right
    refine ⟨fun i hi => ?_, fun i j hi hj e => ?_⟩
    · show (if i < r then f i else u0) < n ∧ (S (if i < r then f i else u0) ∨ (if i < r then f i else u0) = u0)
      by_cases c : i < r
      · rw [if_pos c]; exact ⟨(q1 i c).1, Or.inl (q1 i c).2⟩
      · rw [if_neg c]; exact ⟨q0, Or.inr rfl⟩
    · have e' : (if i < r then f i else u0) = (if j < r then f j else u0) := e
      by_cases c1 : i < r
      · rw [if_pos c1] at e'
        by_cases c2 : j < r
        · rw [if_pos c2] at e'; exact q2 i j c1 c2 e'
        · rw [if_neg c2] at e'
          exact absurd (e' ▸ (q1 i c1).2) hu
      · rw [if_neg c1] at e'
        by_cases c2 : j < r
        · rw [if_pos c2] at e'
          exact absurd (e' ▸ (q1 j c2).2) hu
        · omega
theorem am_f {c e g dr dF dT t : Int} (hc : 0 ≤ c) (he : 0 ≤ e) (hfi : -c ≤ g ∧ g ≤ c ∧ (dr ≠ 0 → 0 ≤ g)) (ht : 0 < t) (hr : t ≤ (if g < 0 then -g else c - g)) (hd : dT = dF + (if g < 0 then -e else e)) : (-c ≤ g + t ∧ g + t ≤ c ∧ (dr ≠ 0 → 0 ≤ g + t)) ∧ (0 < (if g + t < 0 then -(g + t) else c - (g + t)) → dT ≤ (if g + t < 0 then -e else e) + dF) ∧ (0 < (if 0 < g + t then g + t else if dr ≠ 0 then 0 else c + (g + t)) → dF ≤ (if 0 < g + t then -e else e) + dT) := by
  by_cases h1 : g < 0
  · rw [if_pos h1] at hr hd
    by_cases h2 : g + t < 0
    · rw [if_pos h2, if_pos h2, if_neg (show ¬ 0 < g + t by omega), if_neg (show ¬ 0 < g + t by omega)]
      refine ⟨by omega, by omega, fun _ => by omega⟩
    · have e0 : g + t = 0 := by omega
      rw [if_neg h2, if_neg h2, if_neg (show ¬ 0 < g + t by omega), if_neg (show ¬ 0 < g + t by omega)]
      refine ⟨by omega, by omega, fun _ => by omega⟩
  · rw [if_neg h1] at hr hd
    rw [if_neg (show ¬ g + t < 0 by omega), if_neg (show ¬ g + t < 0 by omega), if_pos (show 0 < g + t by omega), if_pos (show 0 < g + t by omega)]
    refine ⟨by omega, by omega, fun _ => by omega⟩
theorem am_b {c e g dr dF dT t : Int} (hc : 0 ≤ c) (he : 0 ≤ e) (hfi : -c ≤ g ∧ g ≤ c ∧ (dr ≠ 0 → 0 ≤ g)) (ht : 0 < t) (hr : t ≤ (if 0 < g then g else if dr ≠ 0 then 0 else c + g)) (hd : dF = dT + (if 0 < g then -e else e)) : (-c ≤ g - t ∧ g - t ≤ c ∧ (dr ≠ 0 → 0 ≤ g - t)) ∧ (0 < (if g - t < 0 then -(g - t) else c - (g - t)) → dT ≤ (if g - t < 0 then -e else e) + dF) ∧ (0 < (if 0 < g - t then g - t else if dr ≠ 0 then 0 else c + (g - t)) → dF ≤ (if 0 < g - t then -e else e) + dT) := by
  by_cases h1 : 0 < g
  · rw [if_pos h1] at hr hd
    by_cases h2 : 0 < g - t
    · rw [if_neg (show ¬ g - t < 0 by omega), if_neg (show ¬ g - t < 0 by omega), if_pos h2, if_pos h2]
      refine ⟨by omega, fun _ => by omega, fun _ => by omega⟩
    · rw [if_neg (show ¬ g - t < 0 by omega), if_neg (show ¬ g - t < 0 by omega), if_neg h2, if_neg h2]
      refine ⟨by omega, fun _ => by omega, fun _ => by omega⟩
  · rw [if_neg h1] at hr hd
    by_cases h3 : dr ≠ 0
    · rw [if_pos h3] at hr; omega
    · rw [if_neg h3] at hr
      rw [if_pos (show g - t < 0 by omega), if_pos (show g - t < 0 by omega), if_neg (show ¬ 0 < g - t by omega), if_neg (show ¬ 0 < g - t by omega)]
      refine ⟨⟨by omega, by omega, fun q => absurd q h3⟩, fun _ => by omega, fun _ => by omega⟩
def exR (P : Nat → Nat) (x : Nat) : Nat → Nat → Prop
  | 0, v => v = x
  | j + 1, v => v ≠ x ∧ exR P x j (P v)
theorem ex_rc {P : Nat → Nat} {x : Nat} : ∀ (j v : Nat), rcR P x j v → ∃ i, i ≤ j ∧ exR P x i v := by
  intro j
  induction j with
  | zero => intro v h; exact ⟨0, Nat.le_refl _, h⟩
  | succ j ih =>
    intro v h
    rcases h with h | ⟨h1, h2⟩
    · exact ⟨0, by omega, h⟩
    · obtain ⟨i, q1, q2⟩ := ih _ h2
      exact ⟨i + 1, by omega, h1, q2⟩
theorem ex_un {P : Nat → Nat} {x : Nat} : ∀ (i j v : Nat), exR P x i v → exR P x j v → i = j := by
  intro i
  induction i with
  | zero =>
    intro j v h1 h2
    cases j with
    | zero => rfl
    | succ j => exact absurd h1 h2.1
  | succ i ih =>
    intro j v h1 h2
    cases j with
    | zero => exact absurd h2 h1.1
    | succ j => rw [ih j _ h1.2 h2.2]
def onR (P : Nat → Nat) (Q : Nat → Prop) : Nat → Nat → Prop
  | 0, _ => True
  | j + 1, v => Q v ∧ onR P Q j (P v)
theorem on_imp {P : Nat → Nat} {x : Nat} {Q Q1 : Nat → Prop} : ∀ (j v : Nat), exR P x j v → onR P Q j v → (∀ i u, i < j → exR P x (i + 1) u → Q u → Q1 u) → onR P Q1 j v := by
  intro j
  induction j with
  | zero => intro v _ _ _; trivial
  | succ j ih =>
    intro v h1 h2 h3
    exact ⟨h3 j v (by omega) h1 h2.1, ih _ h1.2 h2.2 (fun i u hi => h3 i u (by omega))⟩
theorem cp_nn (W : Nat → Int) (k : Nat) : 0 ≤ cpR W k := by unfold cpR; split <;> omega
theorem rm_o {Wt : Nat → Int} {dr : Int} {g g1 : Nat → Int} {j : Nat} (h : g (j / 2) = g1 (j / 2)) : rmR Wt dr g j = rmR Wt dr g1 j := by unfold rmR; rw [h]
theorem cs_o {Co g g1 : Nat → Int} {j : Nat} (h : g (j / 2) = g1 (j / 2)) : csR Co g j = csR Co g1 j := by unfold csR; rw [h]
def psR (g : Nat → Int) (j : Nat) (t : Int) : Nat → Int := fup g (j / 2) (if j % 2 = 0 then g (j / 2) + t else g (j / 2) - t)
theorem pu_arc {F T Wt Co : Nat → Int} {dr : Int} {m : Nat} {g p : Nat → Int} {j : Nat} {t : Int} (hj : j < 2 * m) (hfi : fiR Wt dr m g) (hpt : ptR (tlR F T) (hdR F T) (rmR Wt dr g) (csR Co g) (2 * m) p) (ht : 0 < t) (hr : t ≤ rmR Wt dr g j) (htt : p (hdR F T j).toNat = p (tlR F T j).toNat + csR Co g j) : fiR Wt dr m (psR g j t) ∧ ptR (tlR F T) (hdR F T) (rmR Wt dr (psR g j t)) (csR Co (psR g j t)) (2 * m) p := by
  have hk : j / 2 < m := by omega
  have hf := hfi (j / 2) hk
  have hc := cp_nn Wt (j / 2)
  have he := cp_nn Co (j / 2)
  have hself : psR g j t (j / 2) = (if j % 2 = 0 then g (j / 2) + t else g (j / 2) - t) := by unfold psR; rw [fup_s]
  have hoth : ∀ k, k ≠ j / 2 → psR g j t k = g k := fun k h => by unfold psR; rw [fup_o _ _ h]
  have key : (- cpR Wt (j / 2) ≤ psR g j t (j / 2) ∧ psR g j t (j / 2) ≤ cpR Wt (j / 2) ∧ (dr ≠ 0 → 0 ≤ psR g j t (j / 2))) ∧ (0 < (if psR g j t (j / 2) < 0 then -(psR g j t (j / 2)) else cpR Wt (j / 2) - psR g j t (j / 2)) → p (T (j / 2)).toNat ≤ (if psR g j t (j / 2) < 0 then - cpR Co (j / 2) else cpR Co (j / 2)) + p (F (j / 2)).toNat) ∧ (0 < (if 0 < psR g j t (j / 2) then psR g j t (j / 2) else if dr ≠ 0 then 0 else cpR Wt (j / 2) + psR g j t (j / 2)) → p (F (j / 2)).toNat ≤ (if 0 < psR g j t (j / 2) then - cpR Co (j / 2) else cpR Co (j / 2)) + p (T (j / 2)).toNat) := by
    rw [hself]
    by_cases hpar : j % 2 = 0
    · rw [if_pos hpar]
      have e1 : rmR Wt dr g j = (if g (j / 2) < 0 then - g (j / 2) else cpR Wt (j / 2) - g (j / 2)) := by unfold rmR; rw [if_pos hpar]
      have e2 : csR Co g j = (if g (j / 2) < 0 then - cpR Co (j / 2) else cpR Co (j / 2)) := by unfold csR; rw [if_pos hpar]
      have e3 : hdR F T j = T (j / 2) := by unfold hdR; rw [if_pos hpar]
      have e4 : tlR F T j = F (j / 2) := by unfold tlR; rw [if_pos hpar]
      rw [e1] at hr
      rw [e2, e3, e4] at htt
      exact am_f hc he hf ht hr htt
    · rw [if_neg hpar]
      have e1 : rmR Wt dr g j = (if 0 < g (j / 2) then g (j / 2) else if dr ≠ 0 then 0 else cpR Wt (j / 2) + g (j / 2)) := by unfold rmR; rw [if_neg hpar]
      have e2 : csR Co g j = (if 0 < g (j / 2) then - cpR Co (j / 2) else cpR Co (j / 2)) := by unfold csR; rw [if_neg hpar]
      have e3 : hdR F T j = F (j / 2) := by unfold hdR; rw [if_neg hpar]
      have e4 : tlR F T j = T (j / 2) := by unfold tlR; rw [if_neg hpar]
      rw [e1] at hr
      rw [e2, e3, e4] at htt
      exact am_b hc he hf ht hr htt
  obtain ⟨k1, k2, k3⟩ := key
  refine ⟨fun k hkm => ?_, fun i hi q1 q2 => ?_⟩
  · by_cases e : k = j / 2
    · subst e; exact k1
    · rw [hoth k e]; exact hfi k hkm
  · by_cases e : i / 2 = j / 2
    · by_cases hpi : i % 2 = 0
      · have e1 : rmR Wt dr (psR g j t) i = (if psR g j t (j / 2) < 0 then -(psR g j t (j / 2)) else cpR Wt (j / 2) - psR g j t (j / 2)) := by unfold rmR; rw [if_pos hpi, e]
        have e2 : csR Co (psR g j t) i = (if psR g j t (j / 2) < 0 then - cpR Co (j / 2) else cpR Co (j / 2)) := by unfold csR; rw [if_pos hpi, e]
        have e3 : hdR F T i = T (j / 2) := by unfold hdR; rw [if_pos hpi, e]
        have e4 : tlR F T i = F (j / 2) := by unfold tlR; rw [if_pos hpi, e]
        rw [e1] at q2
        rw [e2, e3, e4]
        exact k2 q2
      · have e1 : rmR Wt dr (psR g j t) i = (if 0 < psR g j t (j / 2) then psR g j t (j / 2) else if dr ≠ 0 then 0 else cpR Wt (j / 2) + psR g j t (j / 2)) := by unfold rmR; rw [if_neg hpi, e]
        have e2 : csR Co (psR g j t) i = (if 0 < psR g j t (j / 2) then - cpR Co (j / 2) else cpR Co (j / 2)) := by unfold csR; rw [if_neg hpi, e]
        have e3 : hdR F T i = F (j / 2) := by unfold hdR; rw [if_neg hpi, e]
        have e4 : tlR F T i = T (j / 2) := by unfold tlR; rw [if_neg hpi, e]
        rw [e1] at q2
        rw [e2, e3, e4]
        exact k3 q2
    · have eo := hoth (i / 2) e
      rw [rm_o (g1 := g) eo] at q2
      rw [cs_o (g1 := g) eo]
      exact hpt i hi q1 q2
theorem ex_C (p : Nat → Int) : ∀ n : Nat, ∃ C : Int, ∀ v, v < n → 3000000 ≤ p v + C := by
  intro n
  induction n with
  | zero => exact ⟨0, fun v h => by omega⟩
  | succ n ih =>
    obtain ⟨C, h⟩ := ih
    by_cases q : 3000000 ≤ p n + C
    · refine ⟨C, fun v hv => ?_⟩
      by_cases e : v = n
      · subst e; exact q
      · exact h v (by omega)
    · refine ⟨3000000 - p n, fun v hv => ?_⟩
      by_cases e : v = n
      · subst e; omega
      · have := h v (by omega); omega
theorem pt_new {n x : Nat} {tl hd rm cs : Nat → Int} {J : Nat} {p D : Nat → Int} {B : Nat → Nat} {T : Int} (h : bfR n x tl hd rm cs J p D B T) (hT : T ≤ 2100) (hp : ptR tl hd rm cs J p) (hcv : cvR tl hd rm cs J D) (htl : ∀ j, j < J → 0 ≤ tl j ∧ tl j < (n : Int)) (hhd : ∀ j, j < J → 0 ≤ hd j ∧ hd j < (n : Int)) (hcs : ∀ j, j < J → -1000 ≤ cs j ∧ cs j ≤ 1000) : ∃ p1 : Nat → Int, ptR tl hd rm cs J p1 ∧ ∀ v, v < n → D v < 1000000000000 → p1 v = D v := by
  obtain ⟨C, hC⟩ := ex_C p n
  obtain ⟨-, h2, -, -⟩ := h
  refine ⟨fun v => if D v < 1000000000000 then D v else p v + C, fun j hj q1 q2 => ?_, fun v _ hD => if_pos hD⟩
  have t1 := htl j hj
  have t2 := hhd j hj
  have t3 := hcs j hj
  have b1 := h2 (tl j).toNat (by omega)
  have b2 := h2 (hd j).toNat (by omega)
  have b3 := hC (tl j).toNat (by omega)
  have b4 := hp j hj q1 q2
  show (if D (hd j).toNat < 1000000000000 then D (hd j).toNat else p (hd j).toNat + C) ≤ cs j + (if D (tl j).toNat < 1000000000000 then D (tl j).toNat else p (tl j).toNat + C)
  by_cases c1 : D (tl j).toNat < 1000000000000
  · have b5 := hcv j hj q1 q2 c1
    rw [if_pos c1, if_pos (show D (hd j).toNat < 1000000000000 by omega)]
    omega
  · rw [if_neg c1]
    by_cases c2 : D (hd j).toNat < 1000000000000
    · rw [if_pos c2]; omega
    · rw [if_neg c2]; omega
def nfR (F T : Nat → Int) (x : Int) (g : Nat → Int) : Nat → Int
  | 0 => 0
  | k + 1 => nfR F T x g k + (if F k = x ∧ T k ≠ x then g k else if T k = x ∧ F k ≠ x then - g k else 0)
theorem nf_congr {F T : Nat → Int} {x : Int} {g g1 : Nat → Int} : ∀ m : Nat, (∀ k, k < m → g k = g1 k) → nfR F T x g m = nfR F T x g1 m := by
  intro m
  induction m with
  | zero => intro _; rfl
  | succ m ih =>
    intro h
    show nfR F T x g m + _ = nfR F T x g1 m + _
    rw [ih (fun k hk => h k (by omega)), h m (by omega)]
theorem nf_up {F T : Nat → Int} {x : Int} {g : Nat → Int} {k : Nat} {w : Int} : ∀ m : Nat, k < m → nfR F T x (fup g k w) m = nfR F T x g m + (if F k = x ∧ T k ≠ x then w - g k else if T k = x ∧ F k ≠ x then g k - w else 0) := by
  intro m
  induction m with
  | zero => intro h; omega
  | succ m ih =>
    intro h
    show nfR F T x (fup g k w) m + (if F m = x ∧ T m ≠ x then fup g k w m else if T m = x ∧ F m ≠ x then - fup g k w m else 0) = nfR F T x g m + (if F m = x ∧ T m ≠ x then g m else if T m = x ∧ F m ≠ x then - g m else 0) + _
    by_cases e : m = k
    · subst e
      rw [nf_congr m (g1 := g) (fun i hi => fup_o _ _ (by omega)), fup_s]
      by_cases c1 : F m = x ∧ T m ≠ x
      · rw [if_pos c1, if_pos c1, if_pos c1]; omega
      · rw [if_neg c1, if_neg c1, if_neg c1]
        by_cases c2 : T m = x ∧ F m ≠ x
        · rw [if_pos c2, if_pos c2, if_pos c2]; omega
        · rw [if_neg c2, if_neg c2, if_neg c2]; omega
    · rw [fup_o _ _ e, ih (by omega)]
      omega
theorem nf_hi {F T : Nat → Int} {x : Int} {g : Nat → Int} : ∀ m : Nat, (∀ k, k < m → -1000 ≤ g k ∧ g k ≤ 1000) → nfR F T x g m ≤ 1000 * (m : Int) := by
  intro m
  induction m with
  | zero => intro _; exact Int.le_refl _
  | succ m ih =>
    intro h
    have h1 := ih (fun k hk => h k (by omega))
    have h2 := h m (by omega)
    show nfR F T x g m + (if F m = x ∧ T m ≠ x then g m else if T m = x ∧ F m ≠ x then - g m else 0) ≤ 1000 * ((m + 1 : Nat) : Int)
    by_cases c1 : F m = x ∧ T m ≠ x
    · rw [if_pos c1]; omega
    · rw [if_neg c1]
      by_cases c2 : T m = x ∧ F m ≠ x
      · rw [if_pos c2]; omega
      · rw [if_neg c2]; omega
def wyR (n x : Nat) (F T Wt Co : Nat → Int) (dr : Int) (m : Nat) (g0 D : Nat → Int) (B : Nat → Nat) : Prop := ∀ u, u < n → u ≠ x → D u < 1000000000000 → B u < 2 * m ∧ hdR F T (B u) = (u : Int) ∧ 0 ≤ tlR F T (B u) ∧ tlR F T (B u) < (n : Int) ∧ tlR F T (B u) ≠ hdR F T (B u) ∧ 0 < rmR Wt dr g0 (B u) ∧ D (tlR F T (B u)).toNat < 1000000000000 ∧ D u = D (tlR F T (B u)).toNat + csR Co g0 (B u)
def puR (n x : Nat) (F T Wt Co : Nat → Int) (dr : Int) (m : Nat) (g0 D p : Nat → Int) (B : Nat → Nat) (t N0 : Int) (g : Nat → Int) (j v : Nat) : Prop := fiR Wt dr m g ∧ ptR (tlR F T) (hdR F T) (rmR Wt dr g) (csR Co g) (2 * m) p ∧ exR (fun u => (tlR F T (B u)).toNat) x j v ∧ v < n ∧ D v < 1000000000000 ∧ onR (fun u => (tlR F T (B u)).toNat) (fun u => u < n ∧ D u < 1000000000000 ∧ g (B u / 2) = g0 (B u / 2) ∧ t ≤ rmR Wt dr g0 (B u)) j v ∧ (v ≠ x → nfR F T (x : Int) g m = N0) ∧ (v = x → nfR F T (x : Int) g m = N0 + t)
theorem par_hd {F T : Nat → Int} {i j : Nat} (h : i / 2 = j / 2) (hne : i ≠ j) : hdR F T i = tlR F T j ∧ tlR F T i = hdR F T j := by
  unfold hdR tlR
  rw [h]
  rcases Nat.mod_two_eq_zero_or_one i with h1 | h1
  · have h2 : j % 2 = 1 := by omega
    rw [if_pos h1, if_pos h1, if_neg (show ¬ j % 2 = 0 by omega), if_neg (show ¬ j % 2 = 0 by omega)]
    exact ⟨rfl, rfl⟩
  · have h2 : j % 2 = 0 := by omega
    rw [if_neg (show ¬ i % 2 = 0 by omega), if_neg (show ¬ i % 2 = 0 by omega), if_pos h2, if_pos h2]
    exact ⟨rfl, rfl⟩
theorem pu_st {n x : Nat} {F T Wt Co : Nat → Int} {dr : Int} {m : Nat} {g0 D p : Nat → Int} {B : Nat → Nat} {t N0 : Int} {g : Nat → Int} {j v : Nat} (hw : wyR n x F T Wt Co dr m g0 D B) (hp : ∀ u, u < n → D u < 1000000000000 → p u = D u) (ht : 0 < t) (h : puR n x F T Wt Co dr m g0 D p B t N0 g (j + 1) v) : puR n x F T Wt Co dr m g0 D p B t N0 (psR g (B v) t) j (tlR F T (B v)).toNat := by
  obtain ⟨a1, a2, a3, a4, a5, a6, a7, a8⟩ := h
  have a3q := a3
  obtain ⟨hvx, a3'⟩ := a3
  obtain ⟨⟨-, -, c3, c4⟩, a6'⟩ := a6
  obtain ⟨w1, w2, w3, w4, w5, w6, w7, w8⟩ := hw v a4 hvx a5
  have erm : rmR Wt dr g (B v) = rmR Wt dr g0 (B v) := rm_o c3
  have ecs : csR Co g (B v) = csR Co g0 (B v) := cs_o c3
  have hv1 : ((v : Int)).toNat = v := rfl
  have htt : p (hdR F T (B v)).toNat = p (tlR F T (B v)).toNat + csR Co g (B v) := by
    rw [w2, hv1, hp v a4 a5, hp _ (by omega) w7, ecs]; exact w8
  obtain ⟨b1, b2⟩ := pu_arc w1 a1 a2 ht (by rw [erm]; exact c4) htt
  have hnf : nfR F T (x : Int) (psR g (B v) t) m = nfR F T (x : Int) g m + (if F (B v / 2) = (x : Int) ∧ T (B v / 2) ≠ (x : Int) then (if B v % 2 = 0 then g (B v / 2) + t else g (B v / 2) - t) - g (B v / 2) else if T (B v / 2) = (x : Int) ∧ F (B v / 2) ≠ (x : Int) then g (B v / 2) - (if B v % 2 = 0 then g (B v / 2) + t else g (B v / 2) - t) else 0) := nf_up m (by omega)
  have hN := a7 hvx
  refine ⟨b1, b2, a3', by omega, w7, ?_, fun q => ?_, fun q => ?_⟩
  · refine on_imp j _ a3' a6' (fun i u hi he hq => ?_)
    obtain ⟨q1, q2, q3, q4⟩ := hq
    refine ⟨q1, q2, ?_, q4⟩
    obtain ⟨z1, z2, z3, z4, z5, z6, z7, z8⟩ := hw u q1 he.1 q2
    have hne : B u / 2 ≠ B v / 2 := by
      intro e
      by_cases e2 : B u = B v
      · have e3 : (u : Int) = (v : Int) := by rw [← z2, ← w2, e2]
        have e4 : u = v := by omega
        subst e4
        have := ex_un _ _ _ he a3q
        omega
      · obtain ⟨r1, r2⟩ := par_hd (F := F) (T := T) e e2
        have e5 : (tlR F T (B u)).toNat = v := by rw [r2, w2]; rfl
        have e6 : exR (fun u => (tlR F T (B u)).toNat) x i v := by rw [← e5]; exact he.2
        have := ex_un _ _ _ e6 a3q
        omega
    have : psR g (B v) t (B u / 2) = g (B u / 2) := by unfold psR; rw [fup_o _ _ hne]
    rw [this]; exact q3
  · rw [hnf, hN]
    have t1 : tlR F T (B v) ≠ (x : Int) := fun e => q (by rw [e]; rfl)
    have t2 : hdR F T (B v) ≠ (x : Int) := fun e => hvx (by rw [w2] at e; omega)
    have t3 : F (B v / 2) ≠ (x : Int) ∧ T (B v / 2) ≠ (x : Int) := by
      unfold tlR at t1
      unfold hdR at t2
      by_cases c : B v % 2 = 0
      · rw [if_pos c] at t1 t2; exact ⟨t1, t2⟩
      · rw [if_neg c] at t1 t2; exact ⟨t2, t1⟩
    rw [if_neg (fun q => t3.1 q.1), if_neg (fun q => t3.2 q.1)]
    omega
  · rw [hnf, hN]
    have t1 : tlR F T (B v) = (x : Int) := by omega
    have t2 : hdR F T (B v) ≠ (x : Int) := fun e => hvx (by rw [w2] at e; omega)
    unfold tlR at t1
    unfold hdR at t2
    by_cases c : B v % 2 = 0
    · rw [if_pos c] at t1 t2
      rw [if_pos ⟨t1, t2⟩, if_pos c]
      omega
    · rw [if_neg c] at t1 t2
      rw [if_neg (fun q => t2 q.1), if_pos ⟨t1, t2⟩, if_neg c]
      omega
