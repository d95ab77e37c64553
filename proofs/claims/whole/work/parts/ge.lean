/-- an arc is taken only when its turn has come -/
theorem lgi_got {F T W : Nat → Int} {w : Int} {s : LgS} {i : Nat} : ∀ k : Nat, (lgI F T W w s k).2 i = true → s.2 i = true ∨ (W i = w ∧ i < k)
  | 0, h => Or.inl h
  | k + 1, h => by
    have h' : (lgT F T W w k (lgI F T W w s k)).2 i = true := h
    unfold lgT at h'
    split at h'
    · rename_i hc
      have h2 : (if i = k then true else (lgI F T W w s k).2 i) = true := h'
      by_cases e : i = k
      · exact Or.inr ⟨by rw [e]; exact hc.1, by omega⟩
      · rw [if_neg e] at h2
        rcases lgi_got k h2 with g | g
        · exact Or.inl g
        · exact Or.inr ⟨g.1, by omega⟩
    · rcases lgi_got k h' with g | g
      · exact Or.inl g
      · exact Or.inr ⟨g.1, by omega⟩
theorem lgo_got {m : Nat} {F T W : Nat → Int} {i : Nat} : ∀ j : Nat, (lgO m F T W j).2 i = true → W i < (j : Int) - 1000
  | 0, h => by cases h
  | j + 1, h => by
    rcases lgi_got m (show (lgI F T W ((j : Int) - 1000) (lgO m F T W j) m).2 i = true from h) with g | g
    · have := lgo_got j g; omega
    · omega
theorem lga_got {m : Nat} {F T W : Nat → Int} {w : Int} {k i : Nat} (hw : -1000 ≤ w) (h : (lgA m F T W w k).2 i = true) : W i < w ∨ (W i = w ∧ i < k) := by
  rcases lgi_got k h with g | g
  · have := lgo_got _ g; omega
  · exact Or.inr g
/-- the reference's rows when weight w and the arcs below k are done -/
def lgRw (m : Nat) (F T W : Nat → Int) (n : Nat) (x w : Int) (k : Nat) (jw : Nat → Int) (sm is : Int) : Prop := (∀ v, v < n → jw v = (lgA m F T W w k).1 v) ∧ sm = lgW W (lgA m F T W w k).2 m ∧ ((is = 1 ∧ 0 ≤ x ∧ (lgA m F T W w k).2 x.toNat = true) ∨ (is = 0 ∧ ¬ (0 ≤ x ∧ (lgA m F T W w k).2 x.toNat = true)))
def lgQ (m : Nat) (F T W : Nat → Int) (n : Nat) (x w : Int) (k : Nat) (v : Int) (jw : Nat → Int) (sm is : Int) : Prop := (∀ u, u < n → ((u : Int) < v → jw u = (lgA m F T W w (k + 1)).1 u) ∧ (v ≤ (u : Int) → jw u = (lgA m F T W w k).1 u)) ∧ sm = lgW W (lgA m F T W w (k + 1)).2 m ∧ ((is = 1 ∧ 0 ≤ x ∧ (lgA m F T W w (k + 1)).2 x.toNat = true) ∨ (is = 0 ∧ ¬ (0 ≤ x ∧ (lgA m F T W w (k + 1)).2 x.toNat = true)))
theorem lgw_0 {W : Nat → Int} : ∀ k : Nat, lgW W (fun _ => false) k = 0
  | 0 => rfl
  | k + 1 => by
    show lgW W (fun _ => false) k + (if false = true then W k else 0) = 0
    rw [lgw_0 k]; rfl
theorem lgp_0 {m : Nat} {F T W : Nat → Int} {n : Nat} {x : Int} {jw : Nat → Int} (h : ∀ v, v < n → jw v = (v : Int)) : lgRw m F T W n x (-1000) 0 jw 0 0 := ⟨h, (lgw_0 m).symm, Or.inr ⟨rfl, fun g => by cases g.2⟩⟩
theorem lgp_w {m : Nat} {F T W : Nat → Int} {n : Nat} {x w : Int} {k : Nat} {jw : Nat → Int} {sm is : Int} (hw : -1000 ≤ w) (hk : k = m) (h : lgRw m F T W n x w k jw sm is) : lgRw m F T W n x (w + 1) 0 jw sm is := by
  subst hk
  unfold lgRw at h ⊢
  rw [lgn_w hw]; exact h
theorem lgp_e {m : Nat} {F T W : Nat → Int} {n : Nat} {x w : Int} {k : Nat} {jw : Nat → Int} {sm is : Int} (he : lgA m F T W w (k + 1) = lgA m F T W w k) (h : lgRw m F T W n x w k jw sm is) : lgRw m F T W n x w (k + 1) jw sm is := by
  unfold lgRw at h ⊢
  rw [he]; exact h
theorem lgp_no {m : Nat} {F T W : Nat → Int} {n : Nat} {x w : Int} {k : Nat} {jw : Nat → Int} {sm is : Int} (hn : W k ≠ w) (h : lgRw m F T W n x w k jw sm is) : lgRw m F T W n x w (k + 1) jw sm is := lgp_e (by rw [lgn_k]; exact lgt_no hn) h
theorem lgp_eq {m : Nat} {F T W : Nat → Int} {n : Nat} {x w : Int} {k : Nat} {jw : Nat → Int} {sm is : Int} (hF : (F k).toNat < n ∧ (T k).toNat < n) (hn : jw (F k).toNat = jw (T k).toNat) (h : lgRw m F T W n x w k jw sm is) : lgRw m F T W n x w (k + 1) jw sm is := lgp_e (by
  rw [lgn_k]
  refine if_neg (fun g => g.2 ?_)
  rw [← h.1 _ hF.1, ← h.1 _ hF.2]; exact hn) h
theorem lgq_0 {m : Nat} {F T W : Nat → Int} {n : Nat} {x w : Int} {k : Nat} {jw : Nat → Int} {sm is is1 : Int} (hw : -1000 ≤ w) (hk : k < m) (hF : (F k).toNat < n ∧ (T k).toNat < n) (hW : W k = w) (hn : jw (F k).toNat ≠ jw (T k).toNat) (h : lgRw m F T W n x w k jw sm is) (hi : (is1 = 1 ∧ (is = 1 ∨ x = (k : Int))) ∨ (is1 = 0 ∧ is ≠ 1 ∧ x ≠ (k : Int))) : lgQ m F T W n x w k 0 jw (sm + w) is1 := by
  obtain ⟨h1, h2, h3⟩ := h
  have hc : W k = w ∧ (lgA m F T W w k).1 (F k).toNat ≠ (lgA m F T W w k).1 (T k).toNat := ⟨hW, by rw [← h1 _ hF.1, ← h1 _ hF.2]; exact hn⟩
  have hg : (lgA m F T W w k).2 k = false := by
    cases e : (lgA m F T W w k).2 k with
    | false => rfl
    | true => have := lga_got hw e; omega
  have e2 : (lgA m F T W w (k + 1)).2 = fun i => if i = k then true else (lgA m F T W w k).2 i := by
    rw [lgn_k]; unfold lgT; rw [if_pos hc]
  refine ⟨fun u hu => ⟨fun g => by omega, fun _ => h1 u hu⟩, ?_, ?_⟩
  · rw [e2, lgw_ins hg m, if_pos hk, ← h2, hW]
  · rw [e2]
    show (is1 = 1 ∧ 0 ≤ x ∧ (if x.toNat = k then true else (lgA m F T W w k).2 x.toNat) = true) ∨ (is1 = 0 ∧ ¬ (0 ≤ x ∧ (if x.toNat = k then true else (lgA m F T W w k).2 x.toNat) = true))
    rcases hi with ⟨i1, i2⟩ | ⟨i1, i2, i3⟩
    · refine Or.inl ⟨i1, ?_⟩
      rcases i2 with i2 | i2
      · rcases h3 with h3 | h3
        · refine ⟨h3.2.1, ?_⟩
          split
          · rfl
          · exact h3.2.2
        · omega
      · exact ⟨by omega, if_pos (by omega)⟩
    · refine Or.inr ⟨i1, fun g => ?_⟩
      have g2 := g.2
      rw [if_neg (by omega)] at g2
      rcases h3 with h3 | h3
      · exact i2 h3.1
      · exact h3.2 ⟨g.1, g2⟩
theorem lgq_up {m : Nat} {F T W : Nat → Int} {n : Nat} {x w : Int} {k : Nat} {v a b z : Int} {jw : Nat → Int} {sm is : Int} (hv : 0 ≤ v) (hc : W k = w ∧ (lgA m F T W w k).1 (F k).toNat ≠ (lgA m F T W w k).1 (T k).toNat) (ha : a = (lgA m F T W w k).1 (F k).toNat) (hb : b = (lgA m F T W w k).1 (T k).toNat) (hz : (jw v.toNat = b ∧ z = a) ∨ (jw v.toNat ≠ b ∧ z = jw v.toNat)) (h : lgQ m F T W n x w k v jw sm is) : lgQ m F T W n x w k (v + 1) (fup jw v.toNat z) sm is := by
  obtain ⟨h1, h2⟩ := h
  refine ⟨fun u hu => ?_, h2⟩
  by_cases e : u = v.toNat
  · subst e
    have e9 : fup jw v.toNat z v.toNat = z := if_pos rfl
    rw [e9]
    refine ⟨fun _ => ?_, fun g => by omega⟩
    have h3 := (h1 _ hu).2 (by omega)
    have e2 : (lgA m F T W w (k + 1)).1 v.toNat = if (lgA m F T W w k).1 v.toNat = (lgA m F T W w k).1 (T k).toNat then (lgA m F T W w k).1 (F k).toNat else (lgA m F T W w k).1 v.toNat := by
      rw [lgn_k]; unfold lgT; rw [if_pos hc]
    rw [e2]
    rcases hz with ⟨z1, z2⟩ | ⟨z1, z2⟩
    · rw [if_pos (by rw [← h3, z1, hb]), z2, ha]
    · rw [if_neg (by rw [← h3, ← hb]; exact z1), z2, h3]
  · rw [show fup jw v.toNat z u = jw u from if_neg e]
    exact ⟨fun g => (h1 u hu).1 (by omega), fun g => (h1 u hu).2 (by omega)⟩
theorem lgq_end {m : Nat} {F T W : Nat → Int} {n : Nat} {x w : Int} {k : Nat} {v : Int} {jw : Nat → Int} {sm is : Int} (hv : (n : Int) ≤ v) (h : lgQ m F T W n x w k v jw sm is) : lgRw m F T W n x w (k + 1) jw sm is := ⟨fun u hu => (h.1 u hu).1 (by omega), h.2⟩
/-- the answer: the weight of what was taken, or whether an arc was -/
def lwA (m : Nat) (F T W : Nat → Int) (x r : Int) : Prop := (x < 0 ∧ r = lgW W (lgA m F T W 1001 0).2 m) ∨ (0 ≤ x ∧ (((lgA m F T W 1001 0).2 x.toNat = true ∧ r = 1) ∨ ((lgA m F T W 1001 0).2 x.toNat = false ∧ r = 0)))
theorem lw_uq {m : Nat} {F T W : Nat → Int} {x r q : Int} (h : lwA m F T W x r) (h' : lwA m F T W x q) : r = q := by
  rcases h with h | ⟨h, h1 | h1⟩ <;> rcases h' with g | ⟨g, g1 | g1⟩
  · rw [h.2, g.2]
  · omega
  · omega
  · omega
  · rw [h1.2, g1.2]
  · rw [h1.1] at g1; cases g1.1
  · omega
  · rw [h1.1] at g1; cases g1.1
  · rw [h1.2, g1.2]
