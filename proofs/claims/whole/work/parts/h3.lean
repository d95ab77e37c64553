theorem ov_in5 {Γ : TG} {a b c e f : Nat} {T U V W X T1 : va_E → Prop} (h : a ≠ b) (h1 : a ≠ c) (h2 : a ≠ e) (h3 : a ≠ f) : ov (ov (ov (ov (ov (ov Γ a T) b U) c V) e W) f X) a T1 = ov (ov (ov (ov (ov Γ a T1) b U) c V) e W) f X := by
  rw [ov_c _ X T1 (Ne.symm h3), ov_in4 h h1 h2]
theorem ov_in6 {Γ : TG} {a b c e f g : Nat} {T U V W X Y T1 : va_E → Prop} (h : a ≠ b) (h1 : a ≠ c) (h2 : a ≠ e) (h3 : a ≠ f) (h4 : a ≠ g) : ov (ov (ov (ov (ov (ov (ov Γ a T) b U) c V) e W) f X) g Y) a T1 = ov (ov (ov (ov (ov (ov Γ a T1) b U) c V) e W) f X) g Y := by
  rw [ov_c _ Y T1 (Ne.symm h4), ov_in5 h h1 h2 h3]
theorem ov_in7 {Γ : TG} {a b c e f g i : Nat} {T U V W X Y Z T1 : va_E → Prop} (h : a ≠ b) (h1 : a ≠ c) (h2 : a ≠ e) (h3 : a ≠ f) (h4 : a ≠ g) (h5 : a ≠ i) : ov (ov (ov (ov (ov (ov (ov (ov Γ a T) b U) c V) e W) f X) g Y) i Z) a T1 = ov (ov (ov (ov (ov (ov (ov Γ a T1) b U) c V) e W) f X) g Y) i Z := by
  rw [ov_c _ Z T1 (Ne.symm h5), ov_in6 h h1 h2 h3 h4]
abbrev flG (s : Nat) (L : Int) : List (Value → Prop) := [fE (.ref (s + 1)), fE (.ref (s + 2)), fE (.ref (s + 3)), fI 0 65535, fE (.int (iv L)), fE (.ref (s + 4)), fE (.ref (s + 5)), fE (.ref (s + 6)), fE (.ref (s + 7)), fE (.ref (s + 8))]
/-- the flows' cells for the price: how many links, from where, tails, heads, rooms, costs, distances -/
abbrev LSt (Γ : TG) (cI cJ : ClassId) (s : Nat) (L : Int) (B lt lh lr lc : Nat → Int) (De : Nat → Int64) : TG := ov (ov (ov (ov (ov (ov (ov Γ s (tO 2 (flG s L))) (s + 2) (xI cI 16 B)) (s + 4) (xI cI 240 lt)) (s + 5) (xI cI 240 lh)) (s + 6) (xI cI 240 lr)) (s + 7) (xI cI 240 lc)) (s + 8) (xJ cJ 16 De)
theorem LSt_op {Γ : TG} {cI cJ cZ : ClassId} {s : Nat} {hp : MH} (hf : TyFlows Γ cI cJ cZ s) (ht : Tw Γ hp) : ∃ (L : Int) (B lt lh lr lc : Nat → Int) (De : Nat → Int64), (0 ≤ L ∧ L ≤ 240) ∧ Rfx 16 0 239 B ∧ Rfx 240 0 15 lt ∧ Rfx 240 0 15 lh ∧ Tw (LSt Γ cI cJ s L B lt lh lr lc De) hp := by
  obtain ⟨h0, h1, h2, h3, h4, h5, h6, h7, h8⟩ := hf
  obtain ⟨L, hL1, hL2, t1⟩ := ht.openF 4 (rd_of h0) rfl
  have t1 : Tw (ov Γ s (tO 2 (flG s L))) hp := t1
  obtain ⟨B, hB, t2⟩ := t1.openI (rd_of (eq_ov (by omega) h2))
  obtain ⟨lt, hlt, t4⟩ := t2.openI (rd_of (eq_ov (by omega) (eq_ov (by omega) h4)))
  obtain ⟨lh, hlh, t5⟩ := t4.openI (rd_of (eq_ov (by omega) (eq_ov (by omega) (eq_ov (by omega) h5))))
  obtain ⟨lr, hlr, t6⟩ := t5.openI (rd_of (eq_ov (by omega) (eq_ov (by omega) (eq_ov (by omega) (eq_ov (by omega) h6)))))
  obtain ⟨lc, hlc, t7⟩ := t6.openI (rd_of (eq_ov (by omega) (eq_ov (by omega) (eq_ov (by omega) (eq_ov (by omega) (eq_ov (by omega) h7))))))
  obtain ⟨De, hDe, t8⟩ := t7.openJ (rd_of (eq_ov (by omega) (eq_ov (by omega) (eq_ov (by omega) (eq_ov (by omega) (eq_ov (by omega) (eq_ov (by omega) h8)))))))
  exact ⟨L, B, lt, lh, lr, lc, De, ⟨hL1, hL2⟩, fun i hi => (hB i hi).1, fun i hi => (hlt i hi).1, fun i hi => (hlh i hi).1, t8⟩
theorem LSt_cl {Γ : TG} {cI cJ cZ : ClassId} {s : Nat} {hp : MH} {L : Int} {B lt lh lr lc : Nat → Int} {De : Nat → Int64} (hf : TyFlows Γ cI cJ cZ s) (hL : 0 ≤ L ∧ L ≤ 240) (hB : Rfx 16 0 239 B) (hlt : Rfx 240 0 15 lt) (hlh : Rfx 240 0 15 lh) (ht : Tw (LSt Γ cI cJ s L B lt lh lr lc De) hp) : Tw Γ hp := by
  obtain ⟨h0, h1, h2, h3, h4, h5, h6, h7, h8⟩ := hf
  have t8 := Tw.closeJ ht (eq_ov (by omega) (eq_ov (by omega) (eq_ov (by omega) (eq_ov (by omega) (eq_ov (by omega) (eq_ov (by omega) h8)))))) (fun _ _ => trivial)
  have t7 := Tw.closeI t8 (eq_ov (by omega) (eq_ov (by omega) (eq_ov (by omega) (eq_ov (by omega) (eq_ov (by omega) h7))))) (fun _ _ => trivial)
  have t6 := Tw.closeI t7 (eq_ov (by omega) (eq_ov (by omega) (eq_ov (by omega) (eq_ov (by omega) h6)))) (fun _ _ => trivial)
  have t5 := Tw.closeI t6 (eq_ov (by omega) (eq_ov (by omega) (eq_ov (by omega) h5))) hlh
  have t4 := Tw.closeI t5 (eq_ov (by omega) (eq_ov (by omega) h4)) hlt
  have t2 := Tw.closeI t4 (eq_ov (by omega) h2) hB
  exact Tw.weak t2 h0 (fun e he => tO_close (k := 4) (w := .int (iv L)) rfl ⟨L, rfl, hL.1, hL.2⟩ e he)
set_option maxRecDepth 100000 in
theorem xor_one : ∀ k : Nat, k < 240 → iv (k : Int) ^^^ iv 1 = iv (if k % 2 = 0 then (k : Int) + 1 else (k : Int) - 1) := by decide +kernel
/-- what goes over a link, and back -/
theorem lk_ps {lt lh lr lc F T W C h : Nat → Int} {m j q : Nat} {a : Int} (hl : lkR lt lh lr lc m F T W C h) (hf : fiR W 1 m h) (hj : j < 2 * m) (hq : q = if j % 2 = 0 then j + 1 else j - 1) (ha : 0 < a ∧ a ≤ lr j) : lkR lt lh (fup (fup lr j (lr j - a)) q (fup lr j (lr j - a) q + a)) lc m F T W C (psR h j a) := by
  obtain ⟨h1, h2⟩ := hl
  have hi := (h2 (j / 2) (by omega)).1
  have hw : cpR W (j / 2) = W (j / 2) := by unfold cpR; rw [if_pos hi.1]
  have h3 := hf (j / 2) (by omega)
  have h4 := h3.2.2 (by omega)
  have hqj : q ≠ j := by
    by_cases e : j % 2 = 0
    · rw [if_pos e] at hq; omega
    · rw [if_neg e] at hq; omega
  have hq2 : q / 2 = j / 2 ∧ q < 2 * m ∧ q % 2 ≠ j % 2 := by
    by_cases e : j % 2 = 0
    · rw [if_pos e] at hq; omega
    · rw [if_neg e] at hq; omega
  have hrj := (h1 j hj).2.2.1
  have hrq := (h1 q hq2.2.1).2.2.1
  refine ⟨fun i hi9 => ?_, h2⟩
  obtain ⟨g1, g2, g3, g4⟩ := h1 i hi9
  refine ⟨g1, g2, ?_, g4⟩
  have hself : psR h j a (j / 2) = (if j % 2 = 0 then h (j / 2) + a else h (j / 2) - a) := by unfold psR; exact if_pos rfl
  by_cases ei : i = q
  · subst ei
    rw [show fup (fup lr j (lr j - a)) i (fup lr j (lr j - a) i + a) i = fup lr j (lr j - a) i + a from if_pos rfl, show fup lr j (lr j - a) i = lr i from if_neg hqj, g3]
    unfold rmR at hrj ⊢
    rw [hq2.1, hself, hw]
    by_cases e : j % 2 = 0
    · rw [if_neg (show ¬ i % 2 = 0 by omega), if_neg (show ¬ i % 2 = 0 by omega), if_pos e, if_pos (show 0 < h (j / 2) + a by omega)]
      by_cases c : 0 < h (j / 2)
      · rw [if_pos c]
      · rw [if_neg c, if_pos (show (1 : Int) ≠ 0 by decide)]; omega
    · rw [if_neg e] at hrj
      have c : 0 < h (j / 2) := Classical.byContradiction (fun c => by
        rw [if_neg c, if_pos (show (1 : Int) ≠ 0 by decide)] at hrj; omega)
      rw [if_pos c] at hrj
      rw [if_pos (show i % 2 = 0 by omega), if_pos (show i % 2 = 0 by omega), if_neg e, if_neg (show ¬ h (j / 2) < 0 by omega), if_neg (show ¬ h (j / 2) - a < 0 by omega)]; omega
  · rw [show fup (fup lr j (lr j - a)) q (fup lr j (lr j - a) q + a) i = fup lr j (lr j - a) i from if_neg ei]
    by_cases ej : i = j
    · subst ej
      rw [show fup lr i (lr i - a) i = lr i - a from if_pos rfl]
      rw [hrj] at ha ⊢
      unfold rmR at ha ⊢
      rw [hself, hw]
      rw [hw] at ha
      by_cases e : i % 2 = 0
      · rw [if_pos e, if_neg (show ¬ h (i / 2) < 0 by omega)] at ha
        rw [if_pos e, if_pos e, if_pos e, if_neg (show ¬ h (i / 2) < 0 by omega), if_neg (show ¬ h (i / 2) + a < 0 by omega)]; omega
      · rw [if_neg e] at ha
        have c : 0 < h (i / 2) := Classical.byContradiction (fun c => by
          rw [if_neg c, if_pos (show (1 : Int) ≠ 0 by decide)] at ha; omega)
        rw [if_pos c] at ha
        rw [if_neg e, if_neg e, if_neg e, if_pos c]
        by_cases c1 : 0 < h (i / 2) - a
        · rw [if_pos c1]
        · rw [if_neg c1, if_pos (show (1 : Int) ≠ 0 by decide)]; omega
    · rw [show fup lr j (lr j - a) i = lr i from if_neg ej, g3]
      exact rm_o (by
        unfold psR
        exact (if_neg (show ¬ i / 2 = j / 2 by omega)).symm)
/-- the price of what goes over the links -/
def lcS (m : Nat) (C h : Nat → Int) : Int := sgm (fun i => C i * h i) m
theorem lcs_ps {m : Nat} {C h : Nat → Int} {j : Nat} {a : Int} (hj : j < 2 * m) : lcS m C (psR h j a) = lcS m C h + a * (if j % 2 = 0 then C (j / 2) else - C (j / 2)) := by
  unfold lcS
  rw [sgm_up (f := fun i => C i * h i) (i := j / 2) (fun k hk hne => by
    show C k * psR h j a k = C k * h k
    unfold psR
    rw [show fup h (j / 2) (if j % 2 = 0 then h (j / 2) + a else h (j / 2) - a) k = h k from if_neg hne]) (show j / 2 < m by omega)]
  show _ + (C (j / 2) * psR h j a (j / 2) - C (j / 2) * h (j / 2)) = _
  unfold psR
  rw [show fup h (j / 2) (if j % 2 = 0 then h (j / 2) + a else h (j / 2) - a) (j / 2) = (if j % 2 = 0 then h (j / 2) + a else h (j / 2) - a) from if_pos rfl]
  by_cases e : j % 2 = 0
  · rw [if_pos e, if_pos e, Int.mul_add, Int.mul_comm (C (j / 2)) a]; omega
  · rw [if_neg e, if_neg e, Int.mul_sub, Int.mul_neg, Int.mul_comm (C (j / 2)) a]; omega
theorem lcs_co {m : Nat} {C h : Nat → Int} (hC : ∀ i, i < m → 0 ≤ C i) (hh : ∀ i, i < m → 0 ≤ h i) : lcS m C h = coS m C h := sgm_cg (fun i hi => by
  show C i * h i = cpR C i * abI (h i)
  rw [ab_p (hh i hi)]
  have := hC i hi
  unfold cpR
  by_cases g : 0 < C i
  · rw [if_pos g]
  · rw [if_neg g, show C i = 0 by omega])
