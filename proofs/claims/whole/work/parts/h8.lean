def mx0 (a : Int) : Int := if 0 < a then a else 0
theorem mx0_p {a : Int} (h : 0 ≤ a) : mx0 a = a := by
  unfold mx0
  by_cases g : 0 < a
  · rw [if_pos g]
  · rw [if_neg g]; omega
theorem mx0_n {a : Int} (h : a ≤ 0) : mx0 a = 0 := if_neg (by omega)
theorem mx0_nn (a : Int) : 0 ≤ mx0 a := by
  unfold mx0
  by_cases g : 0 < a
  · rw [if_pos g]; omega
  · rw [if_neg g]; omega
theorem cpr_p {W : Nat → Int} {k : Nat} (h : 0 < W k) : cpR W k = W k := if_pos h
theorem cpr_n {W : Nat → Int} {k : Nat} (h : ¬ 0 < W k) : cpR W k = 0 := if_neg h
section BR
variable {m q c : Nat} {d : Int} {F T W C Tl Hd By : Nat → Int} {pos u w : Nat → Nat}
/-- a sum over the links is one over the arcs -/
theorem lk_sum (hg : GoS m q d F T Tl Hd By pos) (h5 : ∀ f : Nat → Int, sgm (fun i => f (u i)) c = sgm (fun j => if usG Tl Hd By W j then f j else 0) q) (e : Nat → Int) : sgm (fun i => e (u i)) c = sgm (fun a => if 0 < W a ∧ F a ≠ T a then e (pos a) + (if d = 0 then e (pos a + 1) else 0) else 0) m := by
  rw [h5 e]
  have h1 := go_sum hg (fun j => if usG Tl Hd By W j then e j else 0) m (Nat.le_refl _)
  rw [hg.2.1] at h1
  rw [h1]
  refine sgm_cg (fun a ha => ?_)
  obtain ⟨g1, g2, g3, g4, g5⟩ := hg.2.2 a ha
  show (if usG Tl Hd By W (pos a) then e (pos a) else 0) + (if d = 0 ∧ F a ≠ T a then (if usG Tl Hd By W (pos a + 1) then e (pos a + 1) else 0) else 0) = if 0 < W a ∧ F a ≠ T a then e (pos a) + (if d = 0 then e (pos a + 1) else 0) else 0
  have k1 : usG Tl Hd By W (pos a) ↔ (0 < W a ∧ F a ≠ T a) := by
    show (0 < W (By (pos a)).toNat ∧ Tl (pos a) ≠ Hd (pos a)) ↔ _
    rw [g1, g2, g3]; exact Iff.rfl
  by_cases c1 : 0 < W a ∧ F a ≠ T a
  · rw [if_pos (k1.mpr c1), if_pos c1]
    by_cases c2 : d = 0
    · obtain ⟨k2, k3, k4, k5⟩ := g4 ⟨c2, c1.2⟩
      have k6 : usG Tl Hd By W (pos a + 1) := by
        show 0 < W (By (pos a + 1)).toNat ∧ Tl (pos a + 1) ≠ Hd (pos a + 1)
        rw [k3, k4, k5]; exact ⟨c1.1, fun g => c1.2 g.symm⟩
      rw [if_pos ⟨c2, c1.2⟩, if_pos k6, if_pos c2]
    · rw [if_neg (fun g => c2 g.1), if_neg c2]
  · rw [if_neg (fun g => c1 (k1.mp g)), if_neg c1]
    by_cases c2 : d = 0 ∧ F a ≠ T a
    · obtain ⟨k2, k3, k4, k5⟩ := g4 c2
      have k6 : ¬ usG Tl Hd By W (pos a + 1) := fun g => by
        have g9 : 0 < W (By (pos a + 1)).toNat ∧ Tl (pos a + 1) ≠ Hd (pos a + 1) := g
        rw [k3, k4, k5] at g9
        exact c1 ⟨g9.1, fun e => g9.2 e.symm⟩
      rw [if_pos c2, if_neg k6]; rfl
    · rw [if_neg c2]; rfl
/-- a flow over the arcs as one over the goings -/
def hAg (By : Nat → Int) (pos : Nat → Nat) (g : Nat → Int) (j : Nat) : Int := if j = pos (By j).toNat then mx0 (g (By j).toNat) else mx0 (- g (By j).toNat)
theorem ha_1 (hg : GoS m q d F T Tl Hd By pos) {a : Nat} (ha : a < m) (g : Nat → Int) : hAg By pos g (pos a) = mx0 (g a) := by
  obtain ⟨g1, g2, g3, g4, g5⟩ := hg.2.2 a ha
  unfold hAg
  rw [g3]
  exact if_pos rfl
theorem ha_2 (hg : GoS m q d F T Tl Hd By pos) {a : Nat} (ha : a < m) (hd : d = 0 ∧ F a ≠ T a) (g : Nat → Int) : hAg By pos g (pos a + 1) = mx0 (- g a) := by
  obtain ⟨g1, g2, g3, g4, g5⟩ := hg.2.2 a ha
  obtain ⟨k2, k3, k4, k5⟩ := g4 hd
  unfold hAg
  rw [k5]
  exact if_neg (show ¬ pos a + 1 = pos a by omega)
theorem ha_nn (g : Nat → Int) (j : Nat) : 0 ≤ hAg By pos g j := by
  unfold hAg
  by_cases e : j = pos (By j).toNat
  · rw [if_pos e]; exact mx0_nn _
  · rw [if_neg e]; exact mx0_nn _
theorem cpr_2 {C : Nat → Int} {f : Nat → Nat} (i : Nat) : cpR (fun i => cpR C (f i)) i = cpR C (f i) := by
  have := cpr_nn C (f i)
  show (if 0 < cpR C (f i) then cpR C (f i) else 0) = cpR C (f i)
  by_cases g : 0 < cpR C (f i)
  · rw [if_pos g]
  · rw [if_neg g]; omega
theorem br_A (hg : GoS m q d F T Tl Hd By pos) (h3 : ∀ i, i < c → u i < q ∧ usG Tl Hd By W (u i) ∧ w (u i) = i) (h5 : ∀ f : Nat → Int, sgm (fun i => f (u i)) c = sgm (fun j => if usG Tl Hd By W j then f j else 0) q) {x y : Nat} {g : Nat → Int} {v : Int} (hf : flwP m d F T W x y g v) : flwP c 1 (fun i => Tl (u i)) (fun i => Hd (u i)) (fun i => W (By (u i)).toNat) x y (fun i => hAg By pos g (u i)) v ∧ coS c (fun i => cpR C (By (u i)).toNat) (fun i => hAg By pos g (u i)) ≤ coS m C g := by
  refine ⟨⟨fun i hi => ?_, fun φ => ?_⟩, ?_⟩
  · have hn := ha_nn (By := By) (pos := pos) g (u i)
    have hu := h3 i hi
    obtain ⟨a, a1, a2, a3⟩ := go_arc hg (u i) hu.1
    have hb := hf.1 a a1
    have hw : cpR (fun i => W (By (u i)).toNat) i = W a := by
      rw [cpr_p (W := fun i => W (By (u i)).toNat) (k := i) hu.2.1.1]
      show W (By (u i)).toNat = W a
      rw [a2]; rfl
    have hwa : 0 < W a := by
      have := hu.2.1.1
      rw [a2] at this; exact this
    rw [cpr_p hwa] at hb
    rw [hw]
    have hle : hAg By pos g (u i) ≤ W a := by
      unfold hAg
      rw [a2, show (((a : Nat) : Int)).toNat = a from rfl]
      unfold mx0
      by_cases e1 : u i = pos a
      · rw [if_pos e1]
        by_cases e2 : 0 < g a
        · rw [if_pos e2]; omega
        · rw [if_neg e2]; omega
      · rw [if_neg e1]
        by_cases e2 : 0 < - g a
        · rw [if_pos e2]; omega
        · rw [if_neg e2]; omega
    show - W a ≤ hAg By pos g (u i) ∧ hAg By pos g (u i) ≤ W a ∧ ((1 : Int) ≠ 0 → 0 ≤ hAg By pos g (u i))
    exact ⟨by omega, hle, fun _ => hn⟩
  · rw [← hf.2 φ]
    have h9 := lk_sum hg h5 (fun j => hAg By pos g j * (φ (Hd j).toNat - φ (Tl j).toNat))
    refine Eq.trans h9 (sgm_cg (fun a ha => ?_))
    obtain ⟨g1, g2, g3, g4, g5⟩ := hg.2.2 a ha
    have hb := hf.1 a ha
    show (if 0 < W a ∧ F a ≠ T a then hAg By pos g (pos a) * (φ (Hd (pos a)).toNat - φ (Tl (pos a)).toNat) + (if d = 0 then hAg By pos g (pos a + 1) * (φ (Hd (pos a + 1)).toNat - φ (Tl (pos a + 1)).toNat) else 0) else 0) = g a * (φ (T a).toNat - φ (F a).toNat)
    by_cases c1 : 0 < W a ∧ F a ≠ T a
    · rw [if_pos c1, ha_1 hg ha, g1, g2]
      by_cases c2 : d = 0
      · obtain ⟨k2, k3, k4, k5⟩ := g4 ⟨c2, c1.2⟩
        rw [if_pos c2, ha_2 hg ha ⟨c2, c1.2⟩, k3, k4]
        by_cases c3 : 0 ≤ g a
        · rw [mx0_p c3, mx0_n (show - g a ≤ 0 by omega), Int.zero_mul]; omega
        · rw [mx0_n (show g a ≤ 0 by omega), mx0_p (show 0 ≤ - g a by omega), Int.zero_mul, show φ (F a).toNat - φ (T a).toNat = -(φ (T a).toNat - φ (F a).toNat) by omega, Int.neg_mul_neg]; omega
      · rw [if_neg c2, mx0_p (hb.2.2 c2)]; omega
    · rw [if_neg c1]
      by_cases c2 : 0 < W a
      · have c3 : F a = T a := Classical.byContradiction (fun g => c1 ⟨c2, g⟩)
        rw [c3, Int.sub_self, Int.mul_zero]
      · rw [cpr_n c2] at hb
        rw [show g a = 0 by omega, Int.zero_mul]
  · have h8 : coS c (fun i => cpR C (By (u i)).toNat) (fun i => hAg By pos g (u i)) = sgm (fun i => (fun j => cpR C (By j).toNat * hAg By pos g j) (u i)) c := sgm_cg (fun i hi => by
      show cpR (fun i => cpR C (By (u i)).toNat) i * abI (hAg By pos g (u i)) = cpR C (By (u i)).toNat * hAg By pos g (u i)
      rw [cpr_2 (f := fun i => (By (u i)).toNat), ab_p (ha_nn g (u i))])
    rw [h8, lk_sum hg h5 (fun j => cpR C (By j).toNat * hAg By pos g j)]
    refine sgm_le (fun a ha => ?_)
    obtain ⟨g1, g2, g3, g4, g5⟩ := hg.2.2 a ha
    have hb := hf.1 a ha
    have hnn : 0 ≤ cpR C a * abI (g a) := Int.mul_nonneg (cpr_nn C a) (ab_nn _)
    show (if 0 < W a ∧ F a ≠ T a then cpR C (By (pos a)).toNat * hAg By pos g (pos a) + (if d = 0 then cpR C (By (pos a + 1)).toNat * hAg By pos g (pos a + 1) else 0) else 0) ≤ cpR C a * abI (g a)
    by_cases c1 : 0 < W a ∧ F a ≠ T a
    · rw [if_pos c1, ha_1 hg ha, g3, show (((a : Nat) : Int)).toNat = a from rfl]
      by_cases c2 : d = 0
      · obtain ⟨k2, k3, k4, k5⟩ := g4 ⟨c2, c1.2⟩
        rw [if_pos c2, ha_2 hg ha ⟨c2, c1.2⟩, k5, show (((a : Nat) : Int)).toNat = a from rfl]
        by_cases c3 : 0 ≤ g a
        · rw [mx0_p c3, mx0_n (show - g a ≤ 0 by omega), Int.mul_zero, ab_p c3]; omega
        · rw [mx0_n (show g a ≤ 0 by omega), mx0_p (show 0 ≤ - g a by omega), Int.mul_zero, ab_n (show g a ≤ 0 by omega)]; omega
      · rw [if_neg c2, mx0_p (hb.2.2 c2), ab_p (hb.2.2 c2)]; omega
    · rw [if_neg c1]; exact hnn
/-- a flow over the links as one over the goings, and over the arcs -/
def hBg (Tl Hd By W : Nat → Int) (w : Nat → Nat) (h : Nat → Int) (j : Nat) : Int := if usG Tl Hd By W j then h (w j) else 0
def gBa (Tl Hd By W F T : Nat → Int) (d : Int) (pos w : Nat → Nat) (h : Nat → Int) (a : Nat) : Int := if 0 < W a ∧ F a ≠ T a then hBg Tl Hd By W w h (pos a) - (if d = 0 then hBg Tl Hd By W w h (pos a + 1) else 0) else 0
theorem br_B (hg : GoS m q d F T Tl Hd By pos) (h3 : ∀ i, i < c → u i < q ∧ usG Tl Hd By W (u i) ∧ w (u i) = i) (h4 : ∀ j, j < q → usG Tl Hd By W j → w j < c ∧ u (w j) = j) (h5 : ∀ f : Nat → Int, sgm (fun i => f (u i)) c = sgm (fun j => if usG Tl Hd By W j then f j else 0) q) {x y : Nat} {h : Nat → Int} {v : Int} (hf : flwP c 1 (fun i => Tl (u i)) (fun i => Hd (u i)) (fun i => W (By (u i)).toNat) x y h v) : flwP m d F T W x y (gBa Tl Hd By W F T d pos w h) v ∧ coS m C (gBa Tl Hd By W F T d pos w h) ≤ coS c (fun i => cpR C (By (u i)).toNat) h := by
  have hbd : ∀ j, j < q → 0 ≤ hBg Tl Hd By W w h j ∧ (usG Tl Hd By W j → hBg Tl Hd By W w h j ≤ W (By j).toNat) := fun j hj => by
    unfold hBg
    by_cases e : usG Tl Hd By W j
    · rw [if_pos e]
      obtain ⟨a1, a2⟩ := h4 j hj e
      have b1 := hf.1 (w j) a1
      have b2 : cpR (fun i => W (By (u i)).toNat) (w j) = W (By j).toNat := by
        rw [cpr_p (W := fun i => W (By (u i)).toNat) (k := w j) (by show 0 < W (By (u (w j))).toNat; rw [a2]; exact e.1)]
        show W (By (u (w j))).toNat = _
        rw [a2]
      rw [b2] at b1
      exact ⟨b1.2.2 (by omega), fun _ => b1.2.1⟩
    · rw [if_neg e]; exact ⟨Int.le_refl _, fun g => absurd g e⟩
  have hub : ∀ i, i < c → hBg Tl Hd By W w h (u i) = h i := fun i hi => by
    unfold hBg
    rw [if_pos (h3 i hi).2.1, (h3 i hi).2.2]
  have hpos : ∀ a, a < m → pos a < q ∧ ((d = 0 ∧ F a ≠ T a) → pos a + 1 < q) := fun a ha => by
    obtain ⟨g1, g2, g3, g4, g5⟩ := hg.2.2 a ha
    have m1 := go_lt hg (a + 1) m (by omega) (Nat.le_refl _)
    rw [hg.2.1] at m1
    by_cases e : d = 0 ∧ F a ≠ T a
    · have := (g4 e).1
      exact ⟨by omega, fun _ => by omega⟩
    · have := g5 e
      exact ⟨by omega, fun g => absurd g e⟩
  have hus : ∀ a, a < m → (0 < W a ∧ F a ≠ T a) → (hBg Tl Hd By W w h (pos a) ≤ W a ∧ 0 ≤ hBg Tl Hd By W w h (pos a)) ∧ (d = 0 → hBg Tl Hd By W w h (pos a + 1) ≤ W a ∧ 0 ≤ hBg Tl Hd By W w h (pos a + 1)) := fun a ha c1 => by
    obtain ⟨g1, g2, g3, g4, g5⟩ := hg.2.2 a ha
    have p1 := hpos a ha
    refine ⟨?_, fun c2 => ?_⟩
    · have b1 := hbd (pos a) p1.1
      have b2 := b1.2 (by show 0 < W (By (pos a)).toNat ∧ Tl (pos a) ≠ Hd (pos a); rw [g1, g2, g3]; exact c1)
      rw [g3] at b2
      exact ⟨b2, b1.1⟩
    · obtain ⟨k2, k3, k4, k5⟩ := g4 ⟨c2, c1.2⟩
      have b1 := hbd (pos a + 1) (p1.2 ⟨c2, c1.2⟩)
      have b2 := b1.2 (by show 0 < W (By (pos a + 1)).toNat ∧ Tl (pos a + 1) ≠ Hd (pos a + 1); rw [k3, k4, k5]; exact ⟨c1.1, fun g => c1.2 g.symm⟩)
      rw [k5] at b2
      exact ⟨b2, b1.1⟩
  refine ⟨⟨fun a ha => ?_, fun φ => ?_⟩, ?_⟩
  · unfold gBa
    by_cases c1 : 0 < W a ∧ F a ≠ T a
    · have b1 := hus a ha c1
      rw [if_pos c1, cpr_p c1.1]
      by_cases c2 : d = 0
      · have b2 := b1.2 c2
        rw [if_pos c2]; exact ⟨by omega, by omega, fun g => absurd c2 g⟩
      · rw [if_neg c2]; exact ⟨by omega, by omega, fun _ => by omega⟩
    · rw [if_neg c1]
      have := cpr_nn W a
      exact ⟨by omega, by omega, fun _ => Int.le_refl _⟩
  · rw [← hf.2 φ]
    have h9 := lk_sum hg h5 (fun j => hBg Tl Hd By W w h j * (φ (Hd j).toNat - φ (Tl j).toNat))
    have h8 : phS c (fun i => Tl (u i)) (fun i => Hd (u i)) h φ = sgm (fun i => (fun j => hBg Tl Hd By W w h j * (φ (Hd j).toNat - φ (Tl j).toNat)) (u i)) c := sgm_cg (fun i hi => by
      show h i * (φ (Hd (u i)).toNat - φ (Tl (u i)).toNat) = hBg Tl Hd By W w h (u i) * (φ (Hd (u i)).toNat - φ (Tl (u i)).toNat)
      rw [hub i hi])
    rw [h8, h9]
    refine sgm_cg (fun a ha => ?_)
    obtain ⟨g1, g2, g3, g4, g5⟩ := hg.2.2 a ha
    show gBa Tl Hd By W F T d pos w h a * (φ (T a).toNat - φ (F a).toNat) = (if 0 < W a ∧ F a ≠ T a then hBg Tl Hd By W w h (pos a) * (φ (Hd (pos a)).toNat - φ (Tl (pos a)).toNat) + (if d = 0 then hBg Tl Hd By W w h (pos a + 1) * (φ (Hd (pos a + 1)).toNat - φ (Tl (pos a + 1)).toNat) else 0) else 0)
    unfold gBa
    by_cases c1 : 0 < W a ∧ F a ≠ T a
    · rw [if_pos c1, if_pos c1, g1, g2]
      by_cases c2 : d = 0
      · obtain ⟨k2, k3, k4, k5⟩ := g4 ⟨c2, c1.2⟩
        rw [if_pos c2, if_pos c2, k3, k4, Int.sub_mul, show φ (F a).toNat - φ (T a).toNat = -(φ (T a).toNat - φ (F a).toNat) by omega, Int.mul_neg]; omega
      · rw [if_neg c2, if_neg c2, Int.sub_zero]; omega
    · rw [if_neg c1, if_neg c1, Int.zero_mul]
  · have h8 : coS c (fun i => cpR C (By (u i)).toNat) h = sgm (fun i => (fun j => cpR C (By j).toNat * hBg Tl Hd By W w h j) (u i)) c := sgm_cg (fun i hi => by
      show cpR (fun i => cpR C (By (u i)).toNat) i * abI (h i) = cpR C (By (u i)).toNat * hBg Tl Hd By W w h (u i)
      rw [cpr_2 (f := fun i => (By (u i)).toNat), hub i hi, ab_p ((hf.1 i hi).2.2 (by omega))])
    rw [h8, lk_sum hg h5 (fun j => cpR C (By j).toNat * hBg Tl Hd By W w h j)]
    refine sgm_le (fun a ha => ?_)
    obtain ⟨g1, g2, g3, g4, g5⟩ := hg.2.2 a ha
    show cpR C a * abI (gBa Tl Hd By W F T d pos w h a) ≤ (if 0 < W a ∧ F a ≠ T a then cpR C (By (pos a)).toNat * hBg Tl Hd By W w h (pos a) + (if d = 0 then cpR C (By (pos a + 1)).toNat * hBg Tl Hd By W w h (pos a + 1) else 0) else 0)
    unfold gBa
    by_cases c1 : 0 < W a ∧ F a ≠ T a
    · have b1 := hus a ha c1
      rw [if_pos c1, if_pos c1, g3, show (((a : Nat) : Int)).toNat = a from rfl]
      by_cases c2 : d = 0
      · obtain ⟨k2, k3, k4, k5⟩ := g4 ⟨c2, c1.2⟩
        have b2 := b1.2 c2
        rw [if_pos c2, if_pos c2, k5, show (((a : Nat) : Int)).toNat = a from rfl, ← Int.mul_add]
        refine Int.mul_le_mul_of_nonneg_left ?_ (cpr_nn C a)
        unfold abI
        by_cases c3 : hBg Tl Hd By W w h (pos a) - hBg Tl Hd By W w h (pos a + 1) < 0
        · rw [if_pos c3]; omega
        · rw [if_neg c3]; omega
      · rw [if_neg c2, if_neg c2, Int.sub_zero, ab_p b1.1.2]; omega
    · rw [if_neg c1, if_neg c1, show abI 0 = 0 from rfl, Int.mul_zero]; exact Int.le_refl _
theorem br_pr (hg : GoS m q d F T Tl Hd By pos) (h3 : ∀ i, i < c → u i < q ∧ usG Tl Hd By W (u i) ∧ w (u i) = i) (h4 : ∀ j, j < q → usG Tl Hd By W j → w j < c ∧ u (w j) = j) (h5 : ∀ f : Nat → Int, sgm (fun i => f (u i)) c = sgm (fun j => if usG Tl Hd By W j then f j else 0) q) {x y : Nat} {r : Int} (hp : prcA c 1 (fun i => Tl (u i)) (fun i => Hd (u i)) (fun i => W (By (u i)).toNat) (fun i => cpR C (By (u i)).toNat) x y r) : prcA m d F T W C x y r := by
  obtain ⟨h, v, a1, a2, a3, a4⟩ := hp
  obtain ⟨b1, b2⟩ := br_B (C := C) hg h3 h4 h5 a1
  have hA : ∀ g1, flwP m d F T W x y g1 v → coS c (fun i => cpR C (By (u i)).toNat) h ≤ coS m C g1 := fun g1 hg1 => by
    obtain ⟨c1, c2⟩ := br_A (C := C) hg h3 h5 hg1
    have := a4 _ c1
    omega
  have e := hA _ b1
  refine ⟨_, v, b1, fun g1 v1 hg1 => a2 _ _ (br_A (C := C) hg h3 h5 hg1).1, by omega, fun g1 hg1 => ?_⟩
  have := hA g1 hg1
  omega
theorem br_cap (hg : GoS m q d F T Tl Hd By pos) (hW : ∀ k, k < m → -1000 ≤ W k ∧ W k ≤ 1000) (hm : m ≤ 60) (h5 : ∀ f : Nat → Int, sgm (fun i => f (u i)) c = sgm (fun j => if usG Tl Hd By W j then f j else 0) q) (x : Int) : sgm (fun i => if Tl (u i) = x then W (By (u i)).toNat else 0) c ≤ 60000 := by
  have h9 := lk_sum hg h5 (fun j => if Tl j = x then W (By j).toNat else 0)
  have h8 : sgm (fun a => if 0 < W a ∧ F a ≠ T a then (if Tl (pos a) = x then W (By (pos a)).toNat else 0) + (if d = 0 then (if Tl (pos a + 1) = x then W (By (pos a + 1)).toNat else 0) else 0) else 0) m ≤ (m : Int) * 1000 := sgm_b (fun a ha => by
    obtain ⟨g1, g2, g3, g4, g5⟩ := hg.2.2 a ha
    have hw := hW a ha
    show (if 0 < W a ∧ F a ≠ T a then (if Tl (pos a) = x then W (By (pos a)).toNat else 0) + (if d = 0 then (if Tl (pos a + 1) = x then W (By (pos a + 1)).toNat else 0) else 0) else 0) ≤ 1000
    by_cases c1 : 0 < W a ∧ F a ≠ T a
    · rw [if_pos c1, g1, g3, show (((a : Nat) : Int)).toNat = a from rfl]
      by_cases c2 : d = 0
      · obtain ⟨k2, k3, k4, k5⟩ := g4 ⟨c2, c1.2⟩
        rw [if_pos c2, k3, k5, show (((a : Nat) : Int)).toNat = a from rfl]
        by_cases c3 : F a = x
        · rw [if_pos c3, if_neg (fun g => c1.2 (by rw [c3, g]))]; omega
        · rw [if_neg c3]
          by_cases c4 : T a = x
          · rw [if_pos c4]; omega
          · rw [if_neg c4]; omega
      · rw [if_neg c2]
        by_cases c3 : F a = x
        · rw [if_pos c3]; omega
        · rw [if_neg c3]; omega
    · rw [if_neg c1]; omega)
  have h7 : sgm (fun i => if Tl (u i) = x then W (By (u i)).toNat else 0) c ≤ (m : Int) * 1000 := Int.le_trans (Int.le_of_eq h9) h8
  have h6 : (m : Int) * 1000 ≤ 60 * 1000 := Int.mul_le_mul_of_nonneg_right (by omega) (by omega)
  omega
end BR
/-- no flow is greater than what can leave x -/
theorem fl_cap {c : Nat} {F T W g : Nat → Int} {x y : Nat} {v : Int} (hf : flwP c 1 F T W x y g v) (hW : ∀ i, i < c → 0 < W i) (hF : ∀ i, i < c → 0 ≤ F i ∧ 0 ≤ T i) (hxy : x ≠ y) : v ≤ sgm (fun i => if F i = (x : Int) then W i else 0) c := by
  have h1 := hf.2 (fun k => if k = x then 0 else 1)
  rw [if_neg (show ¬ y = x from fun e => hxy e.symm), if_pos (show x = x from rfl)] at h1
  have h2 : phS c F T g (fun k => if k = x then 0 else 1) ≤ sgm (fun i => if F i = (x : Int) then W i else 0) c := sgm_le (fun i hi => by
    have b1 := hf.1 i hi
    have b2 := b1.2.2 (by omega)
    have b3 := hF i hi
    rw [cpr_p (hW i hi)] at b1
    have b4 := hW i hi
    show g i * ((if (T i).toNat = x then 0 else 1) - (if (F i).toNat = x then 0 else 1)) ≤ (if F i = (x : Int) then W i else 0)
    by_cases c1 : F i = (x : Int)
    · rw [if_pos c1, if_pos (show (F i).toNat = x by omega)]
      by_cases c2 : (T i).toNat = x
      · rw [if_pos c2]; omega
      · rw [if_neg c2]; omega
    · rw [if_neg c1, if_neg (show ¬ (F i).toNat = x by omega)]
      by_cases c2 : (T i).toNat = x
      · rw [if_pos c2]; omega
      · rw [if_neg c2]; omega)
  omega
