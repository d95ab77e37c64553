theorem spr_x {sp sp1 : Nat → Int} {e : Nat → Nat → Int} {p : Int} {S : Nat} (h : ∀ t, 0 < t → t ≤ S → sp1 t = sp t) (hS : 0 < S) (hr : spR sp e p S) : spR sp1 e p S := by
  obtain ⟨r, r1, r2, r3⟩ := hr
  refine ⟨r, r1, r2, ?_⟩
  rcases r3 with ⟨g1, g2⟩ | ⟨s, g1, g2, g3, g4⟩
  · exact Or.inl ⟨g1, by rw [h S hS (Nat.le_refl _)]; exact g2⟩
  · refine Or.inr ⟨s, g1, g2, g3, ?_⟩
    rw [h S hS (Nat.le_refl _), g4, sgm_cg (f := tvF sp1 e r s S) (g := tvF sp e r s S) (fun t ht => tv_x r1 g2 g1 (fun t h1 h2 => h t h1 (by omega)) t ht)]
/-- the table of trees, below X -/
def spT (sp : Nat → Int) (e : Nat → Nat → Int) (p X : Int) : Prop := ∀ S : Nat, 0 < S → (S : Int) < X → (0 ≤ sp S ∧ sp S < p) ∧ spR sp e p S
theorem spt_1 {sp : Nat → Int} {e : Nat → Nat → Int} {p : Int} : spT sp e p 1 := fun S h1 h2 => by omega
theorem spt_up {sp : Nat → Int} {e : Nat → Nat → Int} {p X w : Int} (h : spT sp e p X) (h0 : 0 < X) (hw : 0 ≤ w ∧ w < p) (hr : spR (fup sp (Int.toNat X) w) e p (Int.toNat X)) : spT (fup sp (Int.toNat X) w) e p (X + 1) := fun S h1 h2 => by
  by_cases g : (S : Int) < X
  · have e1 : ∀ t, 0 < t → t ≤ S → fup sp (Int.toNat X) w t = sp t := fun t _ ht => if_neg (by omega)
    have := h S h1 g
    rw [e1 S h1 (Nat.le_refl _)]
    exact ⟨this.1, spr_x e1 h1 this.2⟩
  · have e1 : S = Int.toNat X := by omega
    subst e1
    rw [show fup sp (Int.toNat X) w (Int.toNat X) = w from if_pos rfl]
    exact ⟨hw, hr⟩
/-- the branches above b have been added -/
def trI (f : Nat → Int) (S b : Nat) (p sum : Int) : Prop := (0 ≤ sum ∧ sum < p) ∧ sum = (sgm f S - sgm f (b + 1)) % p
theorem tv_0 {sp : Nat → Int} {e : Nat → Nat → Int} {r s S t : Nat} (h : ¬ (t &&& (S ^^^ 2 ^ r) = t ∧ t.testBit s = true)) : tvF sp e r s S t = 0 := if_neg h
theorem tri_0 {sp : Nat → Int} {e : Nat → Nat → Int} {r s S b : Nat} {p sum : Int} (hp : 0 < p) (hb : b = S ^^^ 2 ^ r) (hbS : b < S) (hs : sum = 0) : trI (tvF sp e r s S) S b p sum := by
  subst hs
  refine ⟨by omega, ?_⟩
  rw [sgm_z (f := tvF sp e r s S) (a := b + 1) (b := S) (by omega) (fun t h1 h2 => tv_0 (fun g => by
    have := Nat.and_le_right (n := t) (m := S ^^^ 2 ^ r)
    rw [g.1] at this
    omega)), Int.sub_self, Int.zero_emod]
theorem tri_nx {sp : Nat → Int} {e : Nat → Nat → Int} {r s S b z : Nat} (hb : 0 < b) (hbs : ∀ i, b.testBit i = true → (S ^^^ 2 ^ r).testBit i = true) (hz : z = (b - 1) &&& (S ^^^ 2 ^ r)) : sgm (tvF sp e r s S) (b + 1) = sgm (tvF sp e r s S) (z + 1) + tvF sp e r s S b := by
  have hzb : z ≤ b - 1 := by rw [hz]; exact Nat.and_le_left
  show sgm (tvF sp e r s S) b + tvF sp e r s S b = _
  rw [sgm_z (f := tvF sp e r s S) (a := z + 1) (b := b) (by omega) (fun t h1 h2 => tv_0 (fun g => by
    have := sb_nat (S ^^^ 2 ^ r) (S ^^^ 2 ^ r) b t Nat.lt_two_pow_self hbs (fun i hi => by
      have h9 : (t &&& (S ^^^ 2 ^ r)).testBit i = true := by rw [g.1]; exact hi
      rw [Nat.testBit_and, Bool.and_eq_true] at h9
      exact h9.2) h2
    rw [← hz] at this
    omega))]
theorem tri_sk {sp : Nat → Int} {e : Nat → Nat → Int} {r s S b z : Nat} {p sum : Int} (h : trI (tvF sp e r s S) S b p sum) (hb : 0 < b) (hbs : ∀ i, b.testBit i = true → (S ^^^ 2 ^ r).testBit i = true) (hz : z = (b - 1) &&& (S ^^^ 2 ^ r)) (h0 : tvF sp e r s S b = 0) : trI (tvF sp e r s S) S z p sum := by
  refine ⟨h.1, ?_⟩
  rw [h.2, tri_nx hb hbs hz, h0]
  congr 1; omega
theorem tri_st {sp : Nat → Int} {e : Nat → Nat → Int} {r s S b z : Nat} {p sum c : Int} (h : trI (tvF sp e r s S) S b p sum) (hp : 0 < p) (hb : 0 < b) (hbs : ∀ i, b.testBit i = true → (S ^^^ 2 ^ r).testBit i = true) (hz : z = (b - 1) &&& (S ^^^ 2 ^ r)) (hs : b.testBit s = true) (hc : c = e r b) : trI (tvF sp e r s S) S z p ((sum + sp b * sp (S ^^^ b) % p * c) % p) := by
  have hf : tvF sp e r s S b = sp b * sp (S ^^^ b) * c := by
    unfold tvF
    rw [hc]
    refine if_pos ⟨?_, hs⟩
    exact Nat.eq_of_testBit_eq (fun i => by
      rw [Nat.testBit_and]
      cases q : b.testBit i
      · rfl
      · rw [hbs i q]; rfl)
  refine ⟨⟨Int.emod_nonneg _ (by omega), Int.emod_lt_of_pos _ hp⟩, ?_⟩
  have e1 : sgm (tvF sp e r s S) S - sgm (tvF sp e r s S) (z + 1) = (sgm (tvF sp e r s S) S - sgm (tvF sp e r s S) (b + 1)) + sp b * sp (S ^^^ b) * c := by
    rw [tri_nx hb hbs hz, hf]; omega
  rw [e1, h.2]
  rw [Int.emod_add_emod, Int.add_emod, Int.mul_emod (sp b * sp (S ^^^ b) % p) c, Int.emod_emod_of_dvd _ (Int.dvd_refl p), ← Int.mul_emod, ← Int.add_emod]
theorem tri_e {sp : Nat → Int} {e : Nat → Nat → Int} {r s S b : Nat} {p sum : Int} (h : trI (tvF sp e r s S) S b p sum) (hb : b = 0) : sum = sgm (tvF sp e r s S) S % p := by
  rw [h.2, hb]
  have : sgm (tvF sp e r s S) (0 + 1) = 0 := by
    show 0 + tvF sp e r s S 0 = 0
    rw [tv_0 (fun g => by rw [Nat.zero_testBit] at g; cases g.2)]; rfl
  rw [this, Int.sub_zero]
def spI (sp : Nat → Int64) : Nat → Int := fun t => (sp t).toInt
theorem spi_up {sp : Nat → Int64} {i : Nat} {w : Int64} : spI (fuj sp i w) = fup (spI sp) i w.toInt := by
  funext v
  unfold spI fuj fup
  split <;> rfl
theorem xo_eq {S b z : Int} (hz : ∀ j, Me z j ↔ Me S j ∧ ¬ Me b j) (hb : ∀ j, Me b j → Me S j) : Int.toNat z = Int.toNat S ^^^ Int.toNat b := Nat.eq_of_testBit_eq (fun j => by
  rw [Nat.testBit_xor]
  have h1 := hz j
  have h2 := hb j
  unfold Me at h1 h2
  cases q1 : S.toNat.testBit j <;> cases q2 : b.toNat.testBit j <;> cases q3 : z.toNat.testBit j <;> simp_all)
theorem an_eq {x y z : Int} (hz : ∀ j, Me z j ↔ Me x j ∧ Me y j) : Int.toNat z = Int.toNat x &&& Int.toNat y := Nat.eq_of_testBit_eq (fun j => by
  rw [Nat.testBit_and]
  exact Bool.eq_iff_iff.mpr (by rw [Bool.and_eq_true]; exact hz j))
theorem eb_y {F T : Nat → Int} {r t : Nat} {k c : Int} (h0 : 0 ≤ k) (hc : c = sgm (ebF F T r t) (Int.toNat k)) (hy : (F (Int.toNat k) = (r : Int) ∧ t.testBit (T (Int.toNat k)).toNat = true) ∨ (T (Int.toNat k) = (r : Int) ∧ t.testBit (F (Int.toNat k)).toNat = true)) : c + 1 = sgm (ebF F T r t) (Int.toNat (k + 1)) := by
  rw [show Int.toNat (k + 1) = Int.toNat k + 1 by omega, hc]
  show _ = sgm (ebF F T r t) (Int.toNat k) + ebF F T r t (Int.toNat k)
  rw [show ebF F T r t (Int.toNat k) = 1 from if_pos hy]
theorem eb_n {F T : Nat → Int} {r t : Nat} {k c : Int} (h0 : 0 ≤ k) (hc : c = sgm (ebF F T r t) (Int.toNat k)) (hn : ¬ ((F (Int.toNat k) = (r : Int) ∧ t.testBit (T (Int.toNat k)).toNat = true) ∨ (T (Int.toNat k) = (r : Int) ∧ t.testBit (F (Int.toNat k)).toNat = true))) : c + 0 = sgm (ebF F T r t) (Int.toNat (k + 1)) := by
  rw [show Int.toNat (k + 1) = Int.toNat k + 1 by omega, hc]
  show _ = sgm (ebF F T r t) (Int.toNat k) + ebF F T r t (Int.toNat k)
  rw [show ebF F T r t (Int.toNat k) = 0 from if_neg hn]
