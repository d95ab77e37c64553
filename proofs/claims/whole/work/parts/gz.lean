/-- what a flow carries from potential to potential -/
def phS (m : Nat) (F T g φ : Nat → Int) : Int := sgm (fun k => g k * (φ (T k).toNat - φ (F k).toNat)) m
/-- a flow of v from x to y -/
def flwP (m : Nat) (dr : Int) (F T W : Nat → Int) (x y : Nat) (g : Nat → Int) (v : Int) : Prop := fiR W dr m g ∧ ∀ φ : Nat → Int, phS m F T g φ = v * (φ y - φ x)
def abI (a : Int) : Int := if a < 0 then -a else a
/-- what it costs -/
def coS (m : Nat) (C g : Nat → Int) : Int := sgm (fun k => cpR C k * abI (g k)) m
/-- the least price of a greatest flow -/
def prcA (m : Nat) (dr : Int) (F T W C : Nat → Int) (x y : Nat) (r : Int) : Prop := ∃ (g : Nat → Int) (v : Int), flwP m dr F T W x y g v ∧ (∀ g1 v1, flwP m dr F T W x y g1 v1 → v1 ≤ v) ∧ coS m C g = r ∧ ∀ g1, flwP m dr F T W x y g1 v → coS m C g ≤ coS m C g1
theorem pr_uq {m : Nat} {dr : Int} {F T W C : Nat → Int} {x y : Nat} {r q : Int} (h : prcA m dr F T W C x y r) (h' : prcA m dr F T W C x y q) : r = q := by
  obtain ⟨g, v, a1, a2, a3, a4⟩ := h
  obtain ⟨k, w, b1, b2, b3, b4⟩ := h'
  have h1 := a2 k w b1
  have h2 := b2 g v a1
  have e : v = w := by omega
  subst e
  have h3 := a4 k b1
  have h4 := b4 g a1
  omega
theorem cpr_nn (W : Nat → Int) (k : Nat) : 0 ≤ cpR W k := by
  unfold cpR
  by_cases g : 0 < W k
  · rw [if_pos g]; omega
  · rw [if_neg g]; omega
theorem ab_nn (a : Int) : 0 ≤ abI a := by
  unfold abI
  by_cases g : a < 0
  · rw [if_pos g]; omega
  · rw [if_neg g]; omega
theorem ab_p {a : Int} (h : 0 ≤ a) : abI a = a := if_neg (by omega)
theorem ab_n {a : Int} (h : a ≤ 0) : abI a = -a := by
  unfold abI
  by_cases g : a < 0
  · rw [if_pos g]
  · rw [if_neg g]; omega
/-- one arc, moved by t, moves so much between potentials -/
theorem ph_st {m : Nat} {F T g φ : Nat → Int} {j : Nat} {t : Int} (hj : j < 2 * m) : phS m F T (psR g j t) φ = phS m F T g φ + t * (φ (hdR F T j).toNat - φ (tlR F T j).toNat) := by
  unfold phS
  rw [sgm_up (f := fun k => g k * (φ (T k).toNat - φ (F k).toNat)) (i := j / 2) (fun k hk hne => by
    show psR g j t k * _ = g k * _
    unfold psR
    rw [show fup g (j / 2) (if j % 2 = 0 then g (j / 2) + t else g (j / 2) - t) k = g k from if_neg hne]) (show j / 2 < m by omega)]
  show _ + (psR g j t (j / 2) * (φ (T (j / 2)).toNat - φ (F (j / 2)).toNat) - g (j / 2) * (φ (T (j / 2)).toNat - φ (F (j / 2)).toNat)) = _
  unfold psR hdR tlR
  rw [show fup g (j / 2) (if j % 2 = 0 then g (j / 2) + t else g (j / 2) - t) (j / 2) = (if j % 2 = 0 then g (j / 2) + t else g (j / 2) - t) from if_pos rfl]
  by_cases e : j % 2 = 0
  · rw [if_pos e, if_pos e, if_pos e, Int.add_mul]; omega
  · rw [if_neg e, if_neg e, if_neg e, Int.sub_mul]
    have e1 : t * (φ (F (j / 2)).toNat - φ (T (j / 2)).toNat) = -(t * (φ (T (j / 2)).toNat - φ (F (j / 2)).toNat)) := by
      rw [← Int.mul_neg]; congr 1; omega
    omega
/-- one arc costs no less: its room fore and back, and the potentials -/
theorem co_arc {c e dr g g1 p q : Int} (hc : 0 ≤ c) (he : 0 ≤ e) (hg : -c ≤ g ∧ g ≤ c ∧ (dr ≠ 0 → 0 ≤ g)) (hg1 : -c ≤ g1 ∧ g1 ≤ c ∧ (dr ≠ 0 → 0 ≤ g1)) (hf : 0 < (if g < 0 then -g else c - g) → q ≤ (if g < 0 then -e else e) + p) (hb : 0 < (if 0 < g then g else if dr ≠ 0 then 0 else c + g) → p ≤ (if 0 < g then -e else e) + q) : e * abI g + (g1 - g) * (q - p) ≤ e * abI g1 := by
  have key : ∀ (d r : Int), 0 ≤ d → r ≤ e → d * r ≤ e * d := fun d r hd hr => by rw [Int.mul_comm e d]; exact Int.mul_le_mul_of_nonneg_left hr hd
  have key2 : ∀ (d r : Int), 0 ≤ d → -e ≤ r → -(e * d) ≤ d * r := fun d r hd hr => by
    have := Int.mul_le_mul_of_nonneg_left hr hd
    rw [Int.mul_neg, Int.mul_comm d e] at this; exact this
  have nn : ∀ a : Int, 0 ≤ a → 0 ≤ e * a := fun a ha => Int.mul_nonneg he ha
  by_cases h1 : g1 = g
  · subst h1; rw [Int.sub_self, Int.zero_mul]; omega
  · by_cases h2 : g < g1
    · -- more goes fore
      by_cases h3 : g < 0
      · rw [if_pos h3, if_pos h3] at hf
        have hq := hf (by omega)
        have k1 : (g1 - g) * (q - p) ≤ (g1 - g) * (-e) := Int.mul_le_mul_of_nonneg_left (by omega) (by omega)
        rw [ab_n (show g ≤ 0 by omega)]
        rw [Int.mul_neg] at k1
        rw [Int.mul_neg]
        by_cases h4 : 0 ≤ g1
        · rw [ab_p h4]
          have e1 : (g1 - g) * e = e * g1 - e * g := by rw [Int.sub_mul, Int.mul_comm g1 e, Int.mul_comm g e]
          have := nn g1 h4
          omega
        · rw [ab_n (show g1 ≤ 0 by omega), Int.mul_neg]
          have e1 : (g1 - g) * e = e * g1 - e * g := by rw [Int.sub_mul, Int.mul_comm g1 e, Int.mul_comm g e]
          omega
      · rw [if_neg h3, if_neg h3] at hf
        have hq := hf (by omega)
        have k1 := key (g1 - g) (q - p) (by omega) (by omega)
        rw [ab_p (show 0 ≤ g by omega), ab_p (show 0 ≤ g1 by omega)]
        rw [Int.mul_sub e g1 g] at k1
        omega
    · by_cases h3 : 0 < g
      · rw [if_pos h3, if_pos h3] at hb
        have hq := hb h3
        have k1 : (g - g1) * (p - q) ≤ (g - g1) * (-e) := Int.mul_le_mul_of_nonneg_left (by omega) (by omega)
        have e0 : (g1 - g) * (q - p) = (g - g1) * (p - q) := by
          rw [show g1 - g = -(g - g1) by omega, show q - p = -(p - q) by omega, Int.neg_mul_neg]
        rw [e0, ab_p (show 0 ≤ g by omega)]
        rw [Int.mul_neg] at k1
        have e1 : (g - g1) * e = e * g - e * g1 := by rw [Int.sub_mul, Int.mul_comm g1 e, Int.mul_comm g e]
        by_cases h4 : 0 ≤ g1
        · rw [ab_p h4]; omega
        · rw [ab_n (show g1 ≤ 0 by omega), Int.mul_neg]
          have := nn (-g1) (by omega)
          rw [Int.mul_neg] at this
          omega
      · rw [if_neg h3, if_neg h3] at hb
        have hdr : ¬ dr ≠ 0 := fun h => by
          have := hg1.2.2 h
          have := hg.2.2 h
          omega
        rw [if_neg hdr] at hb
        have hq := hb (by omega)
        have k1 := key (g - g1) (p - q) (by omega) (by omega)
        have e0 : (g1 - g) * (q - p) = (g - g1) * (p - q) := by
          rw [show g1 - g = -(g - g1) by omega, show q - p = -(p - q) by omega, Int.neg_mul_neg]
        rw [e0, ab_n (show g ≤ 0 by omega), ab_n (show g1 ≤ 0 by omega), Int.mul_neg, Int.mul_neg]
        rw [Int.mul_sub e g g1] at k1
        omega
/-- loops carry nothing -/
def lpZ (m : Nat) (F T g : Nat → Int) : Prop := ∀ k, k < m → F k = T k → g k = 0
theorem sgm_add {f g : Nat → Int} : ∀ n : Nat, sgm (fun i => f i + g i) n = sgm f n + sgm g n
  | 0 => rfl
  | n + 1 => by
    show sgm (fun i => f i + g i) n + (f n + g n) = sgm f n + f n + (sgm g n + g n)
    rw [sgm_add n]; omega
theorem sgm_sub {f g : Nat → Int} : ∀ n : Nat, sgm (fun i => f i - g i) n = sgm f n - sgm g n
  | 0 => rfl
  | n + 1 => by
    show sgm (fun i => f i - g i) n + (f n - g n) = sgm f n + f n - (sgm g n + g n)
    rw [sgm_sub n]; omega
theorem pt_fb {F T W C g p : Nat → Int} {dr : Int} {m : Nat} (h : ptR (tlR F T) (hdR F T) (rmR W dr g) (csR C g) (2 * m) p) {k : Nat} (hk : k < m) (hne : F k ≠ T k) : (0 < (if g k < 0 then -g k else cpR W k - g k) → p (T k).toNat ≤ (if g k < 0 then -cpR C k else cpR C k) + p (F k).toNat) ∧ (0 < (if 0 < g k then g k else if dr ≠ 0 then 0 else cpR W k + g k) → p (F k).toNat ≤ (if 0 < g k then -cpR C k else cpR C k) + p (T k).toNat) := by
  constructor
  · intro h1
    have h9 := h (2 * k) (by omega)
    unfold tlR hdR rmR csR at h9
    rw [if_pos (show 2 * k % 2 = 0 by omega), if_pos (show 2 * k % 2 = 0 by omega), if_pos (show 2 * k % 2 = 0 by omega), if_pos (show 2 * k % 2 = 0 by omega), show 2 * k / 2 = k by omega] at h9
    exact h9 hne h1
  · intro h1
    have h9 := h (2 * k + 1) (by omega)
    unfold tlR hdR rmR csR at h9
    rw [if_neg (show ¬ (2 * k + 1) % 2 = 0 by omega), if_neg (show ¬ (2 * k + 1) % 2 = 0 by omega), if_neg (show ¬ (2 * k + 1) % 2 = 0 by omega), if_neg (show ¬ (2 * k + 1) % 2 = 0 by omega), show (2 * k + 1) / 2 = k by omega] at h9
    exact h9 (fun e => hne e.symm) h1
/-- with potentials a flow is a cheapest of its size -/
theorem pr_min {m : Nat} {dr : Int} {F T W C g p : Nat → Int} {x y : Nat} {v : Int} (hf : flwP m dr F T W x y g v) (hl : lpZ m F T g) (hp : ptR (tlR F T) (hdR F T) (rmR W dr g) (csR C g) (2 * m) p) (g1 : Nat → Int) (hg : flwP m dr F T W x y g1 v) : coS m C g ≤ coS m C g1 := by
  have h1 : sgm (fun k => cpR C k * abI (g k) + (g1 k - g k) * (p (T k).toNat - p (F k).toNat)) m ≤ coS m C g1 := sgm_le (fun k hk => by
    show cpR C k * abI (g k) + (g1 k - g k) * (p (T k).toNat - p (F k).toNat) ≤ cpR C k * abI (g1 k)
    by_cases e : F k = T k
    · rw [hl k hk e, e, Int.sub_self (p (T k).toNat), Int.mul_zero, show abI 0 = 0 from rfl, Int.mul_zero]
      exact Int.mul_nonneg (cpr_nn C k) (ab_nn _)
    · have q := pt_fb hp hk e
      exact co_arc (cpr_nn W k) (cpr_nn C k) (hf.1 k hk) (hg.1 k hk) q.1 q.2)
  have h2 : sgm (fun k => cpR C k * abI (g k) + (g1 k - g k) * (p (T k).toNat - p (F k).toNat)) m = coS m C g + (phS m F T g1 p - phS m F T g p) := by
    rw [sgm_add (f := fun k => cpR C k * abI (g k)) (g := fun k => (g1 k - g k) * (p (T k).toNat - p (F k).toNat)), sgm_cg (f := fun k => (g1 k - g k) * (p (T k).toNat - p (F k).toNat)) (g := fun k => g1 k * (p (T k).toNat - p (F k).toNat) - g k * (p (T k).toNat - p (F k).toNat)) (fun k _ => Int.sub_mul _ _ _), sgm_sub (f := fun k => g1 k * (p (T k).toNat - p (F k).toNat)) (g := fun k => g k * (p (T k).toNat - p (F k).toNat))]
    rfl
  rw [hf.2 p, hg.2 p] at h2
  omega
/-- a flow that no way can make greater is a greatest -/
theorem pr_max {m : Nat} {dr : Int} {F T W C g D : Nat → Int} {x y : Nat} {v : Int} (hf : flwP m dr F T W x y g v) (hc : cvR (tlR F T) (hdR F T) (rmR W dr g) (csR C g) (2 * m) D) (hx : D x < 1000000000000) (hy : 1000000000000 ≤ D y) (hb : ∀ j, j < 2 * m → D (tlR F T j).toNat < 1000000000000 → D (tlR F T j).toNat + csR C g j < 1000000000000) (g1 : Nat → Int) (v1 : Int) (hg : flwP m dr F T W x y g1 v1) : v1 ≤ v := by
  have e0 := hf.2 (fun u => if D u < 1000000000000 then 0 else 1)
  have e1 := hg.2 (fun u => if D u < 1000000000000 then 0 else 1)
  rw [if_neg (show ¬ D y < 1000000000000 by omega), if_pos hx] at e0 e1
  have h1 : phS m F T g1 (fun u => if D u < 1000000000000 then 0 else 1) ≤ phS m F T g (fun u => if D u < 1000000000000 then 0 else 1) := sgm_le (fun k hk => by
    show g1 k * ((if D (T k).toNat < 1000000000000 then 0 else 1) - (if D (F k).toNat < 1000000000000 then 0 else 1)) ≤ g k * ((if D (T k).toNat < 1000000000000 then 0 else 1) - (if D (F k).toNat < 1000000000000 then 0 else 1))
    have a1 := hf.1 k hk
    have a2 := hg.1 k hk
    by_cases c1 : D (T k).toNat < 1000000000000
    · by_cases c2 : D (F k).toNat < 1000000000000
      · rw [if_pos c1, if_pos c2]; omega
      · rw [if_pos c1, if_neg c2]
        -- the arc comes in: nothing can be taken back
        have b1 : ¬ 0 < rmR W dr g (2 * k + 1) := fun r1 => by
          have t1 : tlR F T (2 * k + 1) = T k := by unfold tlR; rw [if_neg (by omega), show (2 * k + 1) / 2 = k by omega]
          have t2 : hdR F T (2 * k + 1) = F k := by unfold hdR; rw [if_neg (by omega), show (2 * k + 1) / 2 = k by omega]
          have := hc (2 * k + 1) (by omega) (by rw [t1, t2]; intro e; rw [e] at c1; exact c2 c1) r1 (by rw [t1]; exact c1)
          have := hb (2 * k + 1) (by omega) (by rw [t1]; exact c1)
          rw [t1] at *
          rw [t2] at *
          omega
        unfold rmR at b1
        rw [if_neg (show ¬ (2 * k + 1) % 2 = 0 by omega), show (2 * k + 1) / 2 = k by omega] at b1
        by_cases c3 : 0 < g k
        · rw [if_pos c3] at b1; omega
        · rw [if_neg c3] at b1
          by_cases c4 : dr ≠ 0
          · have := a1.2.2 c4
            have := a2.2.2 c4
            omega
          · rw [if_neg c4] at b1; omega
    · by_cases c2 : D (F k).toNat < 1000000000000
      · rw [if_neg c1, if_pos c2]
        have b1 : ¬ 0 < rmR W dr g (2 * k) := fun r1 => by
          have t1 : tlR F T (2 * k) = F k := by unfold tlR; rw [if_pos (by omega), show (2 * k) / 2 = k by omega]
          have t2 : hdR F T (2 * k) = T k := by unfold hdR; rw [if_pos (by omega), show (2 * k) / 2 = k by omega]
          have := hc (2 * k) (by omega) (by rw [t1, t2]; intro e; rw [e] at c2; exact c1 c2) r1 (by rw [t1]; exact c2)
          have := hb (2 * k) (by omega) (by rw [t1]; exact c2)
          rw [t1] at *
          rw [t2] at *
          omega
        unfold rmR at b1
        rw [if_pos (show (2 * k) % 2 = 0 by omega), show (2 * k) / 2 = k by omega] at b1
        by_cases c3 : g k < 0
        · rw [if_pos c3] at b1; omega
        · rw [if_neg c3] at b1; omega
      · rw [if_neg c1, if_neg c2]; omega)
  omega
