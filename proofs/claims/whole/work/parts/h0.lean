theorem l_mul {x y : Int64} (h : -9223372036854775808 ≤ x.toInt * y.toInt ∧ x.toInt * y.toInt ≤ 9223372036854775807) : (x * y).toInt = x.toInt * y.toInt := by
  rw [Int64.toInt_mul]
  exact Int.bmod_eq_of_le (by omega) (by omega)
/-- what has been moved on the way so far -/
def pxI (m : Nat) (F T g0 g : Nat → Int) (t : Int) (y v : Nat) : Prop := (∀ φ : Nat → Int, phS m F T g φ = phS m F T g0 φ + t * (φ y - φ v)) ∧ ∀ k, k < m → F k = T k → g k = g0 k
theorem px_0 {m : Nat} {F T g : Nat → Int} {t : Int} {y : Nat} : pxI m F T g g t y y := ⟨fun φ => by rw [Int.sub_self, Int.mul_zero]; omega, fun _ _ _ => rfl⟩
theorem px_st {m : Nat} {F T g0 g : Nat → Int} {t : Int} {y v : Nat} {j : Nat} (h : pxI m F T g0 g t y v) (hj : j < 2 * m) (hh : hdR F T j = (v : Int)) (hne : tlR F T j ≠ hdR F T j) : pxI m F T g0 (psR g j t) t y (tlR F T j).toNat := by
  refine ⟨fun φ => ?_, fun k hk e => ?_⟩
  · rw [ph_st hj, h.1 φ, hh, show (((v : Nat) : Int)).toNat = v from rfl]
    have e1 : t * (φ y - φ (tlR F T j).toNat) = t * (φ y - φ v) + t * (φ v - φ (tlR F T j).toNat) := by
      rw [← Int.mul_add]; congr 1; omega
    omega
  · rw [← h.2 k hk e]
    unfold psR
    refine if_neg (fun e1 => hne ?_)
    unfold tlR hdR
    rw [← e1, e]
/-- a flow of some size -/
def flE (m : Nat) (F T : Nat → Int) (x y : Nat) (g : Nat → Int) : Prop := ∃ v : Int, ∀ φ : Nat → Int, phS m F T g φ = v * (φ y - φ x)
theorem fle_0 {m : Nat} {F T : Nat → Int} {x y : Nat} {g : Nat → Int} (h : ∀ k, k < m → g k = 0) : flE m F T x y g := ⟨0, fun φ => by
  rw [Int.zero_mul]
  unfold phS
  rw [sgm_cg (g := fun _ => 0) (fun k hk => by rw [h k hk, Int.zero_mul])]
  exact sgm_0 m⟩
theorem fle_st {m : Nat} {F T : Nat → Int} {x y : Nat} {g g1 : Nat → Int} {t : Int} (h : flE m F T x y g) (hp : pxI m F T g g1 t y x) : flE m F T x y g1 := by
  obtain ⟨v, hv⟩ := h
  exact ⟨v + t, fun φ => by rw [hp.1 φ, hv φ, Int.add_mul]⟩
theorem lpz_st {m : Nat} {F T : Nat → Int} {x y : Nat} {g g1 : Nat → Int} {t : Int} (h : lpZ m F T g) (hp : pxI m F T g g1 t y x) : lpZ m F T g1 := fun k hk e => by rw [hp.2 k hk e]; exact h k hk e
/-- no flow is greater -/
def mxQ (m : Nat) (dr : Int) (F T W : Nat → Int) (x y : Nat) (g : Nat → Int) : Prop := ∀ v, flwP m dr F T W x y g v → ∀ g1 v1, flwP m dr F T W x y g1 v1 → v1 ≤ v
theorem mx_of {n x y m : Nat} {dr : Int} {F T W C g p D : Nat → Int} {B : Nat → Nat} {K : Int} (hb : bfR n x (tlR F T) (hdR F T) (rmR W dr g) (csR C g) (2 * m) p D B K) (hc : cvR (tlR F T) (hdR F T) (rmR W dr g) (csR C g) (2 * m) D) (hK : K ≤ 5000) (ht : ∀ j, j < 2 * m → 0 ≤ tlR F T j ∧ tlR F T j < (n : Int)) (hcs : ∀ j, j < 2 * m → -1000 ≤ csR C g j ∧ csR C g j ≤ 1000) (hy : 1000000000000 ≤ D y) : mxQ m dr F T W x y g := fun v hf g1 v1 hg =>
  pr_max (C := C) hf hc (by rw [hb.1]; omega) hy (fun j hj hD => by
    have h1 := ht j hj
    have h2 := (hb.2.1 (tlR F T j).toNat (by omega)).2.2 hD
    have h3 := hcs j hj
    omega) g1 v1 hg
theorem pr_fin {m : Nat} {dr : Int} {F T W C g p : Nat → Int} {x y : Nat} {r : Int} (hfi : fiR W dr m g) (hfl : flE m F T x y g) (hmx : mxQ m dr F T W x y g) (hl : lpZ m F T g) (hp : ptR (tlR F T) (hdR F T) (rmR W dr g) (csR C g) (2 * m) p) (hr : coS m C g = r) : prcA m dr F T W C x y r := by
  obtain ⟨v, hv⟩ := hfl
  exact ⟨g, v, ⟨hfi, hv⟩, hmx v ⟨hfi, hv⟩, hr, fun g1 hg1 => pr_min ⟨hfi, hv⟩ hl hp g1 hg1⟩
theorem cos_up {C g : Nat → Int} {x c y : Int64} {k : Int} (h0 : 0 ≤ k ∧ k < 60) (hx : x.toInt = sgm (fun k => cpR C k * abI (g k)) (Int.toNat k)) (hxb : 0 ≤ x.toInt ∧ x.toInt ≤ 1000000 * k) (hc : c.toInt = cpR C (Int.toNat k)) (hy : y.toInt = abI (g (Int.toNat k))) (hcb : 0 ≤ c.toInt ∧ c.toInt ≤ 1000) (hyb : 0 ≤ y.toInt ∧ y.toInt ≤ 1000) : (x + c * y).toInt = sgm (fun k => cpR C k * abI (g k)) (Int.toNat (k + 1)) ∧ 0 ≤ (x + c * y).toInt ∧ (x + c * y).toInt ≤ 1000000 * (k + 1) := by
  have h1 : c.toInt * y.toInt ≤ 1000 * y.toInt := Int.mul_le_mul_of_nonneg_right hcb.2 hyb.1
  have h2 : 0 ≤ c.toInt * y.toInt := Int.mul_nonneg hcb.1 hyb.1
  have h3 := l_mul (x := c) (y := y) (by omega)
  have h4 := l_add (x := x) (y := c * y) (by omega)
  refine ⟨?_, by omega, by omega⟩
  rw [h4, h3, show Int.toNat (k + 1) = Int.toNat k + 1 by omega]
  show _ = sgm (fun k => cpR C k * abI (g k)) (Int.toNat k) + cpR C (Int.toNat k) * abI (g (Int.toNat k))
  rw [← hx, ← hc, ← hy]
