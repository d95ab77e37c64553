theorem ask_ok {cn N M : Int} {so : Nat → Int} {x1 x2 x3 x4 : Int} (h : (0 : Int) = hdQ (x2 = 16 ∨ x2 = 17) (dn2 cn so x1 1 x4 1 (x2 = 17 ∧ (x3 < 0 ∨ N ≤ x3))) (dn1 cn so x1 1 (x2 < 0 ∨ 17 < x2 ∨ ((x2 = 0 ∨ x2 = 2) ∧ (x3 < 0 ∨ N ≤ x3)) ∨ (x2 = 11 ∧ (x3 < 0 ∨ M ≤ x3)) ∨ (12 ≤ x2 ∧ x2 ≤ 15 ∧ (x3 < 0 ∨ N ≤ x3 ∨ x4 < 0 ∨ N ≤ x4 ∨ x3 = x4))))) : (0 ≤ x1 ∧ x1 < cn ∧ so x1.toNat = 1) ∧ (0 ≤ x2 ∧ x2 ≤ 17) ∧ (x2 = 0 ∨ x2 = 2 ∨ x2 = 17 → 0 ≤ x3 ∧ x3 < N) := by
  by_cases e : x2 = 16 ∨ x2 = 17
  · rw [hdQ_y e] at h
    by_cases g : 0 ≤ x1 ∧ x1 < cn ∧ 0 ≤ x4 ∧ x4 < cn
    · by_cases g2 : so x1.toNat = 1 ∧ so x4.toNat = 1
      · by_cases g3 : x2 = 17 ∧ (x3 < 0 ∨ N ≤ x3)
        · have := dn2_b (cn := cn) (so := so) (x := x1) (s := 1) (y := x4) (t := 1) (v := -3) rfl ⟨g.1, g.2.1, g.2.2.1, g.2.2.2, g2.1, g2.2⟩ g3
          omega
        · exact ⟨⟨g.1, g.2.1, g2.1⟩, by omega, fun q => by omega⟩
      · have := dn2_r (cn := cn) (so := so) (x := x1) (s := 1) (y := x4) (t := 1) (v := -2) (bad := x2 = 17 ∧ (x3 < 0 ∨ N ≤ x3)) (Or.inr ⟨rfl, g.1, g.2.1, g.2.2.1, g.2.2.2, g2⟩)
        omega
    · have := dn2_r (cn := cn) (so := so) (x := x1) (s := 1) (y := x4) (t := 1) (v := -1) (bad := x2 = 17 ∧ (x3 < 0 ∨ N ≤ x3)) (Or.inl ⟨rfl, g⟩)
      omega
  · rw [hdQ_n e] at h
    by_cases g : 0 ≤ x1 ∧ x1 < cn
    · by_cases g2 : so x1.toNat = 1
      · by_cases g3 : (x2 < 0 ∨ 17 < x2 ∨ ((x2 = 0 ∨ x2 = 2) ∧ (x3 < 0 ∨ N ≤ x3)) ∨ (x2 = 11 ∧ (x3 < 0 ∨ M ≤ x3)) ∨ (12 ≤ x2 ∧ x2 ≤ 15 ∧ (x3 < 0 ∨ N ≤ x3 ∨ x4 < 0 ∨ N ≤ x4 ∨ x3 = x4)))
        · have := dn1_b (cn := cn) (so := so) (x := x1) (s := 1) (v := -3) rfl ⟨g.1, g.2, g2⟩ g3
          omega
        · exact ⟨⟨g.1, g.2, g2⟩, by omega, fun q => by omega⟩
      · have := dn1_r (cn := cn) (so := so) (x := x1) (s := 1) (v := -2) (bad := (x2 < 0 ∨ 17 < x2 ∨ ((x2 = 0 ∨ x2 = 2) ∧ (x3 < 0 ∨ N ≤ x3)) ∨ (x2 = 11 ∧ (x3 < 0 ∨ M ≤ x3)) ∨ (12 ≤ x2 ∧ x2 ≤ 15 ∧ (x3 < 0 ∨ N ≤ x3 ∨ x4 < 0 ∨ N ≤ x4 ∨ x3 = x4)))) (Or.inr ⟨rfl, g.1, g.2, g2⟩)
        omega
    · have := dn1_r (cn := cn) (so := so) (x := x1) (s := 1) (v := -1) (bad := (x2 < 0 ∨ 17 < x2 ∨ ((x2 = 0 ∨ x2 = 2) ∧ (x3 < 0 ∨ N ≤ x3)) ∨ (x2 = 11 ∧ (x3 < 0 ∨ M ≤ x3)) ∨ (12 ≤ x2 ∧ x2 ≤ 15 ∧ (x3 < 0 ∨ N ≤ x3 ∨ x4 < 0 ∨ N ≤ x4 ∨ x3 = x4)))) (Or.inl ⟨rfl, g⟩)
      omega
theorem ask_eq {rf cn nm : Int} {so sz dr mn fr tt wt co : Nat → Int} {nu : Nat → Int64} {qi qc nf nt nw nc : Nat → Int} {w x1 x2 x3 x4 : Int} {v q : Int64} (hk : RK rf cn nm so sz dr mn fr tt wt co nu qi qc nf nt nw nc) (hw : w = hdQ (x2 = 16 ∨ x2 = 17) (dn2 cn so x1 1 x4 1 (x2 = 17 ∧ (x3 < 0 ∨ sz (Int.toNat x1) ≤ x3))) (dn1 cn so x1 1 (x2 < 0 ∨ 17 < x2 ∨ ((x2 = 0 ∨ x2 = 2) ∧ (x3 < 0 ∨ sz (Int.toNat x1) ≤ x3)) ∨ (x2 = 11 ∧ (x3 < 0 ∨ mn (Int.toNat x1) ≤ x3)) ∨ (12 ≤ x2 ∧ x2 ≤ 15 ∧ (x3 < 0 ∨ sz (Int.toNat x1) ≤ x3 ∨ x4 < 0 ∨ sz (Int.toNat x1) ≤ x4 ∨ x3 = x4))))) (a1 : w ≠ 0 → v = 0) (a2 : w = 0 → akN sz dr mn fr tt wt co x1 x2 x3 x4 v.toInt) (b1 : w ≠ 0 → q = 0) (b2 : w = 0 → akN sz dr mn fr tt wt co x1 x2 x3 x4 q.toInt) : v = q := by
  by_cases e : w = 0
  · rw [e] at hw
    obtain ⟨h1, h2, h3⟩ := ask_ok hw
    obtain ⟨_, hsz, _, hmn, hfr, htt, _, _, _, _, hcn, _, _, _, hen, _, _⟩ := hk
    have g1 := hsz x1.toNat (by omega)
    have g2 := hmn x1.toNat (by omega)
    have g3 := hen x1 h1.1 h1.2.1 h1.2.2
    refine akn_uq (by omega) (fun k hk9 => ?_) h2 h3 (a2 e) (b2 e)
    have := en_FT g3.2 hfr htt (by omega) (by omega) k (by omega)
    omega
  · rw [a1 e, b1 e]
