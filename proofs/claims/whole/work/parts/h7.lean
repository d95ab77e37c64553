/-- a going that can bear something -/
abbrev usG (Tl Hd By W : Nat → Int) (j : Nat) : Prop := 0 < W (By j).toNat ∧ Tl j ≠ Hd j
/-- the links of the goings below k -/
def ukQ (Tl Hd By W C : Nat → Int) (L : Int) (lt lh lr lc : Nat → Int) (k : Nat) : Prop := ∃ (c : Nat) (u w : Nat → Nat), (L = 2 * (c : Int) ∧ c ≤ k) ∧ lkR lt lh lr lc c (fun i => Tl (u i)) (fun i => Hd (u i)) (fun i => W (By (u i)).toNat) (fun i => cpR C (By (u i)).toNat) (fun _ => 0) ∧ (∀ i, i < c → u i < k ∧ usG Tl Hd By W (u i) ∧ w (u i) = i) ∧ (∀ j, j < k → usG Tl Hd By W j → w j < c ∧ u (w j) = j) ∧ ∀ f : Nat → Int, sgm (fun i => f (u i)) c = sgm (fun j => if usG Tl Hd By W j then f j else 0) k
theorem uk_0 {Tl Hd By W C lt lh lr lc : Nat → Int} : ukQ Tl Hd By W C 0 lt lh lr lc 0 := ⟨0, fun _ => 0, fun _ => 0, by omega, ⟨fun j hj => by omega, fun i hi => by omega⟩, fun i hi => by omega, fun j hj => by omega, fun f => rfl⟩
theorem uk_no {Tl Hd By W C lt lh lr lc : Nat → Int} {L : Int} {k : Nat} (h : ukQ Tl Hd By W C L lt lh lr lc k) (hn : ¬ usG Tl Hd By W k) : ukQ Tl Hd By W C L lt lh lr lc (k + 1) := by
  obtain ⟨c, u, w, h1, h2, h3, h4, h5⟩ := h
  refine ⟨c, u, w, by omega, h2, fun i hi => by have := h3 i hi; exact ⟨by omega, this.2⟩, fun j hj hu => ?_, fun f => ?_⟩
  · by_cases e : j = k
    · subst e; exact absurd hu hn
    · exact h4 j (by omega) hu
  · show _ = sgm (fun j => if usG Tl Hd By W j then f j else 0) k + (if usG Tl Hd By W k then f k else 0)
    rw [if_neg hn, h5 f]; omega
theorem lkr_x {lt lh lr lc F T W C h F1 T1 W1 C1 : Nat → Int} {c : Nat} (hl : lkR lt lh lr lc c F T W C h) (he : ∀ i, i < c → F1 i = F i ∧ T1 i = T i ∧ W1 i = W i ∧ C1 i = C i) : lkR lt lh lr lc c F1 T1 W1 C1 h := by
  refine ⟨fun j hj => ?_, fun i hi => ?_⟩
  · obtain ⟨g1, g2, g3, g4⟩ := hl.1 j hj
    obtain ⟨e1, e2, e3, e4⟩ := he (j / 2) (by omega)
    refine ⟨?_, ?_, ?_, by rw [e4]; exact g4⟩
    · rw [g1]; unfold tlR; rw [e1, e2]
    · rw [g2]; unfold hdR; rw [e1, e2]
    · rw [g3]; unfold rmR cpR; rw [e3]
  · obtain ⟨e1, e2, e3, e4⟩ := he i hi
    rw [e1, e2, e3, e4]; exact hl.2 i hi
theorem uk_yes {Tl Hd By W C lt lh lr lc : Nat → Int} {L a b q e1 e2 : Int} {k : Nat} (h : ukQ Tl Hd By W C L lt lh lr lc k) (hy : usG Tl Hd By W k) (hW : W (By k).toNat ≤ 1000) (ha : a = Tl k) (hb : b = Hd k) (hq : q = W (By k).toNat) (he : e1 = cpR C (By k).toNat ∧ e2 = -e1) (heb : e1 ≤ 1000) : ukQ Tl Hd By W C (L + 1 + 1) (fup (fup lt L.toNat a) (L + 1).toNat b) (fup (fup lh L.toNat b) (L + 1).toNat a) (fup (fup lr L.toNat q) (L + 1).toNat 0) (fup (fup lc L.toNat e1) (L + 1).toNat e2) (k + 1) := by
  obtain ⟨c, u, w, h1, h2, h3, h4, h5⟩ := h
  obtain ⟨eL, hck⟩ := h1
  have hL0 : L.toNat = 2 * c := by omega
  have hL1 : (L + 1).toNat = 2 * c + 1 := by omega
  have hue : ∀ i, i < c → (if i = c then k else u i) = u i := fun i hi => if_neg (by omega)
  have hcc : (if c = c then k else u c) = k := if_pos rfl
  have hune : ∀ i, i < c → u i ≠ k := fun i hi e => by have := (h3 i hi).1; omega
  have f2 : ∀ (r : Nat → Int) (p q : Int) (j : Nat), fup (fup r L.toNat p) (L + 1).toNat q j = if j = 2 * c + 1 then q else if j = 2 * c then p else r j := fun r p q j => by
    rw [hL0, hL1]; rfl
  refine ⟨c + 1, fun i => if i = c then k else u i, fun j => if j = k then c else w j, by omega, ⟨fun j hj => ?_, fun i hi => ?_⟩, fun i hi => ?_, fun j hj hu => ?_, fun f => ?_⟩
  · rw [f2, f2, f2, f2]
    by_cases ej : j = 2 * c + 1
    · rw [if_pos ej, if_pos ej, if_pos ej, if_pos ej]
      unfold tlR hdR rmR
      have d2 : j / 2 = c := by omega
      rw [if_neg (show ¬ j % 2 = 0 by omega), if_neg (show ¬ j % 2 = 0 by omega), if_neg (show ¬ j % 2 = 0 by omega), if_neg (show ¬ j % 2 = 0 by omega), d2]
      refine ⟨?_, ?_, ?_, ?_⟩
      · show b = Hd (if c = c then k else u c)
        rw [hcc]; exact hb
      · show a = Tl (if c = c then k else u c)
        rw [hcc]; exact ha
      · show (0 : Int) = if (0 : Int) < 0 then 0 else if (1 : Int) ≠ 0 then 0 else _
        rw [if_neg (by omega), if_pos (by decide)]
      · show e2 = - cpR C (By (if c = c then k else u c)).toNat
        rw [hcc, he.2, he.1]
    · rw [if_neg ej, if_neg ej, if_neg ej, if_neg ej]
      by_cases ek : j = 2 * c
      · rw [if_pos ek, if_pos ek, if_pos ek, if_pos ek]
        unfold tlR hdR rmR
        have d2 : j / 2 = c := by omega
        rw [if_pos (show j % 2 = 0 by omega), if_pos (show j % 2 = 0 by omega), if_pos (show j % 2 = 0 by omega), if_pos (show j % 2 = 0 by omega), d2]
        have hcw : cpR (fun i => W (By (if i = c then k else u i)).toNat) c = W (By k).toNat := by
          show (if 0 < W (By (if c = c then k else u c)).toNat then W (By (if c = c then k else u c)).toNat else 0) = _
          rw [hcc]; exact if_pos hy.1
        refine ⟨?_, ?_, ?_, ?_⟩
        · show a = Tl (if c = c then k else u c)
          rw [hcc]; exact ha
        · show b = Hd (if c = c then k else u c)
          rw [hcc]; exact hb
        · show q = if (0 : Int) < 0 then -0 else cpR (fun i => W (By (if i = c then k else u i)).toNat) c - 0
          rw [if_neg (by omega), hcw]; omega
        · show e1 = cpR C (By (if c = c then k else u c)).toNat
          rw [hcc]; exact he.1
      · rw [if_neg ek, if_neg ek, if_neg ek, if_neg ek]
        have hx : lkR lt lh lr lc c (fun i => Tl (if i = c then k else u i)) (fun i => Hd (if i = c then k else u i)) (fun i => W (By (if i = c then k else u i)).toNat) (fun i => cpR C (By (if i = c then k else u i)).toNat) (fun _ => 0) := lkr_x h2 (fun i hi => by
          show Tl (if i = c then k else u i) = Tl (u i) ∧ Hd (if i = c then k else u i) = Hd (u i) ∧ W (By (if i = c then k else u i)).toNat = W (By (u i)).toNat ∧ cpR C (By (if i = c then k else u i)).toNat = cpR C (By (u i)).toNat
          rw [hue i hi]; exact ⟨rfl, rfl, rfl, rfl⟩)
        exact hx.1 j (by omega)
  · show (0 < W (By (if i = c then k else u i)).toNat ∧ W (By (if i = c then k else u i)).toNat ≤ 1000) ∧ (0 ≤ cpR C (By (if i = c then k else u i)).toNat ∧ cpR C (By (if i = c then k else u i)).toNat ≤ 1000) ∧ Tl (if i = c then k else u i) ≠ Hd (if i = c then k else u i)
    by_cases e : i = c
    · rw [if_pos e]; exact ⟨⟨hy.1, hW⟩, ⟨cpr_nn _ _, by rw [← he.1]; exact heb⟩, hy.2⟩
    · rw [if_neg e]; exact h2.2 i (by omega)
  · show (if i = c then k else u i) < k + 1 ∧ usG Tl Hd By W (if i = c then k else u i) ∧ (if (if i = c then k else u i) = k then c else w (if i = c then k else u i)) = i
    by_cases e : i = c
    · rw [if_pos e, if_pos rfl]; exact ⟨by omega, hy, e.symm⟩
    · rw [if_neg e, if_neg (hune i (by omega))]
      have := h3 i (by omega)
      exact ⟨by omega, this.2.1, this.2.2⟩
  · show (if j = k then c else w j) < c + 1 ∧ (if (if j = k then c else w j) = c then k else u (if j = k then c else w j)) = j
    by_cases e : j = k
    · rw [if_pos e, if_pos rfl]; exact ⟨by omega, e.symm⟩
    · rw [if_neg e]
      have := h4 j (by omega) hu
      rw [if_neg (by omega)]
      exact ⟨by omega, this.2⟩
  · show sgm (fun i => f (if i = c then k else u i)) c + f (if c = c then k else u c) = sgm (fun j => if usG Tl Hd By W j then f j else 0) k + (if usG Tl Hd By W k then f k else 0)
    rw [if_pos hy, if_pos rfl, ← h5 f, sgm_cg (f := fun i => f (if i = c then k else u i)) (g := fun i => f (u i)) (fun i hi => by show f (if i = c then k else u i) = f (u i); rw [hue i hi])]
/-- sums over the goings are sums over the arcs -/
theorem go_sum {m q : Nat} {d : Int} {F T Tl Hd By : Nat → Int} {pos : Nat → Nat} (hg : GoS m q d F T Tl Hd By pos) (f : Nat → Int) : ∀ i, i ≤ m → sgm f (pos i) = sgm (fun a => f (pos a) + (if d = 0 ∧ F a ≠ T a then f (pos a + 1) else 0)) i := by
  obtain ⟨h0, hm, hs⟩ := hg
  intro i
  induction i with
  | zero => intro _; rw [h0]; rfl
  | succ i ih =>
    intro hi
    obtain ⟨g1, g2, g3, g4, g5⟩ := hs i (by omega)
    have i1 := ih (by omega)
    show _ = sgm (fun a => f (pos a) + (if d = 0 ∧ F a ≠ T a then f (pos a + 1) else 0)) i + (f (pos i) + (if d = 0 ∧ F i ≠ T i then f (pos i + 1) else 0))
    by_cases c : d = 0 ∧ F i ≠ T i
    · rw [(g4 c).1, if_pos c]
      show sgm f (pos i) + f (pos i) + f (pos i + 1) = _
      omega
    · rw [g5 c, if_neg c]
      show sgm f (pos i) + f (pos i) = _
      omega
