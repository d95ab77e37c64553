theorem fl_ex {R : Nat → Nat → Prop} {S : Nat → Prop} {mt pa : Nat → Int} {ev : Nat → Prop} {root v w k : Nat} (hM : vmP R S mt) (h : esP R S mt pa ev root v k) (hw : S w) (hm : mt w < 0) (hn : ¬ ev w) : ∀ j, j ≤ k + 1 → ∃ N, flS mt pa v w N j
  | 0, _ => ⟨mt, flz_0⟩
  | j + 1, hj => by
    obtain ⟨N, hN⟩ := fl_ex hM h hw hm hn j (by omega)
    exact ⟨_, fl_st hM h hw hm hn (by omega) hN rfl rfl⟩
theorem S_v {n v : Nat} {z : Int} (hz : ∀ j, Me z j ↔ j = v) : (fun j => j < n ∧ ¬ Me z j) = (fun j => j < n ∧ j ≠ v) := funext (fun j => propext ⟨fun g => ⟨g.1, fun e => g.2 ((hz j).mpr e)⟩, fun g => ⟨g.1, fun q => g.2 ((hz j).mp q)⟩⟩)
/-- who can be missed, below v -/
def msJ9 (R : Nat → Nat → Prop) (n : Nat) (k s v : Int) : Prop := ∀ i : Nat, Me s i ↔ (i : Int) < v ∧ maA R (fun j => j < n ∧ j ≠ i) k
theorem msj_0 {R : Nat → Nat → Prop} {n : Nat} {k : Int} : msJ9 R n k 0 0 := fun i => ⟨fun g => absurd g (Me_0 i), fun g => by have := g.1; omega⟩
theorem msj_y {R : Nat → Nat → Prop} {n : Nat} {k s s1 v : Int} (h : msJ9 R n k s v) (hv : 0 ≤ v) (hm : maA R (fun j => j < n ∧ j ≠ v.toNat) k) (h1 : ∀ i, Me s1 i ↔ Me s i ∨ i = v.toNat) : msJ9 R n k s1 (v + 1) := fun i => by
  rw [h1 i, h i]
  constructor
  · rintro (g | g)
    · exact ⟨by have := g.1; omega, g.2⟩
    · rw [g]; exact ⟨by omega, hm⟩
  · rintro ⟨g1, g2⟩
    by_cases c : i = v.toNat
    · exact Or.inr c
    · exact Or.inl ⟨by omega, g2⟩
theorem msj_n {R : Nat → Nat → Prop} {n : Nat} {k s s1 v : Int} (h : msJ9 R n k s v) (hv : 0 ≤ v) (hm : ¬ maA R (fun j => j < n ∧ j ≠ v.toNat) k) (h1 : ∀ i, Me s1 i ↔ Me s i) : msJ9 R n k s1 (v + 1) := fun i => by
  rw [h1 i, h i]
  constructor
  · rintro g
    exact ⟨by have := g.1; omega, g.2⟩
  · rintro ⟨g1, g2⟩
    refine ⟨Classical.byContradiction (fun c => hm ?_), g2⟩
    rw [← show i = v.toNat by omega]; exact g2
theorem msj_e {R : Nat → Nat → Prop} {n : Nat} {M : Nat → Int} {k s v : Int} (hg : gtP R n M k) (h : msJ9 R n k s v) (hv : v = (n : Int)) : msA R n s := ⟨k, hg.2.2, fun i => (h i).trans ⟨fun g => ⟨by have := g.1; omega, g.2⟩, fun g => ⟨by have := g.1; omega, g.2⟩⟩⟩
theorem gt_un {R : Nat → Nat → Prop} {n v : Nat} {M : Nat → Int} {k : Int} (hg : gtP R n M k) (hv : M v < 0) : maA R (fun j => j < n ∧ j ≠ v) k := by
  have h := ms_un hg.1 (k := k.toNat) hg.2.1.2 (by rw [show ((k.toNat : Nat) : Int) = k by have := hg.2.1.1; omega]; exact hg.2.2) hv
  rw [show ((k.toNat : Nat) : Int) = k by have := hg.2.1.1; omega] at h
  exact h
theorem gt_no {R : Nat → Nat → Prop} (hsy : ∀ i j, R i j → R j i) {n v u : Nat} {M : Nat → Int} {k : Int} (hg : gtP R n M k) (hv : v < n) (hu : M v = (u : Int)) (hx : ¬ ∃ N : Nat → Int, vmP R (fun j => j < n ∧ j ≠ v) N ∧ 0 ≤ N u ∧ ∀ z, (z < n ∧ z ≠ v) → 0 ≤ fup M u (-1) z → 0 ≤ N z) : ¬ maA R (fun j => j < n ∧ j ≠ v) k := by
  have h := ms_nx hsy hg.1 (k := k.toNat) hg.2.1.2 (by rw [show ((k.toNat : Nat) : Int) = k by have := hg.2.1.1; omega]; exact hg.2.2) hv hu hx
  rw [show ((k.toNat : Nat) : Int) = k by have := hg.2.1.1; omega] at h
  exact h
theorem gt_fd {R : Nat → Nat → Prop} (hsy : ∀ i j, R i j → R j i) {n v u w : Nat} {M pa1 : Nat → Int} {k : Int} (hg : gtP R n M k) (hv : v < n) (hu : M v = (u : Int)) (hf : fwP9 R (fun j => j < n ∧ j ≠ v) (fup M u (-1)) pa1 u w) : maA R (fun j => j < n ∧ j ≠ v) k := by
  obtain ⟨po, ev9, v9, k9, -, e2, e3, e4, e5, e6, e7, e8, e9⟩ := hf
  have hM := vm_wo hg.1 hv hu
  obtain ⟨N, hN⟩ := fl_ex hM e2 e3 e4 e5 (k9 + 1) (Nat.le_refl _)
  obtain ⟨n1, n2⟩ := fl_vm hsy hM e2 e7 e3 e4 e5 e6 hN
  have hc := fl_cv (S := fun j => j < n ∧ j ≠ v) (n := n) (fun a h9 => h9.1) e8 e7 e3 e4 e9 n2
  have hw := cv_wo hg.1 hv hu
  have h := ms_fd (k := k.toNat) (by rw [show ((k.toNat : Nat) : Int) = k by have := hg.2.1.1; omega]; exact hg.2.2) n1 (by rw [hc]; have := hg.2.1.2; omega)
  rw [show ((k.toNat : Nat) : Int) = k by have := hg.2.1.1; omega] at h
  exact h
