theorem th_em {R : Nat → Nat → Prop} {P : Nat → Prop} {a b : Nat} (h : thP R (fun j => P j ∧ ¬ P j) a b) : a = b ∨ R a b :=
  (h (fun x => x = a ∨ R a x) (Or.inl rfl) (fun x y _ hg hr => Or.inr (by
    rcases hg with e | g
    · rw [← e]; exact hr
    · exact absurd g.1 g.2))).imp (fun e => e.symm) id
theorem hg_R {R : Nat → Nat → Prop} {P : Nat → Prop} {a b : Nat} (h : hG R P P a b) : R a b := (th_em h.2.2.2).elim (fun e => absurd e h.2.2.1) id
theorem R_hg {R : Nat → Nat → Prop} {P : Nat → Prop} {a b : Nat} (ha : P a) (hb : P b) (hab : a ≠ b) (h : R a b) : hG R P P a b := ⟨ha, hb, hab, th_st th_v (Or.inl rfl) h⟩
theorem gw_ew {R : Nat → Nat → Prop} {k E : Int} (hR : ∀ i j, R i j → R j i) : gW R (Me E) k E ↔ ∃ l, ewL k.toNat l R (Me E) :=
  ⟨fun ⟨_, h⟩ => ew_su (hg_sy hR) (fun _ g => g) (fun _ _ ha hb hab q => R_hg ha hb hab q) h, fun ⟨_, h⟩ => ew_su hR (fun _ g => g) (fun _ _ _ _ _ q => hg_R q) h⟩
/-- in width: what is left is L -/
def wiI (R : Nat → Nat → Prop) (A L b : Int) : Prop := suP L A ∧ (∀ i j, Me L i → R i j → Me L j) ∧ 0 ≤ b ∧ (∃ l, ewL b.toNat l R (fun j => Me A j ∧ ¬ Me L j)) ∧ ∀ k : Int, 0 ≤ k → (∃ l, ewL k.toNat l R (Me A)) → b ≤ k
theorem wiI_0 {R : Nat → Nat → Prop} {A : Int} (hA : ∀ i j, R i j → Me A j) : wiI R A A 0 := ⟨fun _ g => g, fun i j _ h => hA i j h, Int.le_refl 0, ⟨[], fun i h => h.2 h.1⟩, fun k h _ => h⟩
theorem wi_st {R : Nat → Nat → Prop} {A L L1 E b b1 : Int} (hR : ∀ i j, R i j → R j i) (h : wiI R A L b) (hE : suP E L) (hc : ∀ i j, Me E i → R i j → Me E j) (h1 : ∀ i, Me L1 i ↔ Me L i ∧ ¬ Me E i) (hb : b ≤ b1) (he : ∃ l, ewL b1.toNat l R (Me E)) (hm : ∀ k : Int, b ≤ k → (∃ l, ewL k.toNat l R (Me E)) → b1 ≤ k) : wiI R A L1 b1 := by
  obtain ⟨k1, k2, k3, ⟨l, k4⟩, k5⟩ := h
  refine ⟨fun i g => k1 i ((h1 i).mp g).1, fun i j hi hr => ?_, by omega, ?_, fun k hk hl => ?_⟩
  · have g := (h1 i).mp hi
    exact (h1 j).mpr ⟨k2 i j g.1 hr, fun q => g.2 (hc j i q (hR i j hr))⟩
  · obtain ⟨l2, g2⟩ := ew_un hR (fun a ha q => ha.2 (hE a q)) (fun a e ha hq q => ha.2 (k2 e a (hE e hq) (hR a e q))) (ew_mo (show b.toNat ≤ b1.toNat by omega) k4) he
    refine ew_su hR (fun a ha => ?_) (fun _ _ _ _ _ q => q) g2
    by_cases q : Me L a
    · by_cases q2 : Me E a
      · exact Or.inr q2
      · exact absurd ((h1 a).mpr ⟨q, q2⟩) ha.2
    · exact Or.inl ⟨ha.1, q⟩
  · have g1 := k5 k hk hl
    obtain ⟨l2, g2⟩ := hl
    exact hm k g1 (ew_su hR (fun a ha => k1 a (hE a ha)) (fun _ _ _ _ _ q => q) g2)
/-- a small piece -/
theorem wi_sm {R : Nat → Nat → Prop} {A L L1 E b : Int} (hR : ∀ i j, R i j → R j i) (h : wiI R A L b) (hE : suP E L) (hE0 : 0 ≤ E ∧ E ≤ 65535) (hc : ∀ i j, Me E i → R i j → Me E j) (h1 : ∀ i, Me L1 i ↔ Me L i ∧ ¬ Me E i) (hb : bcI E 16 ≤ b + 1) : wiI R A L1 b :=
  wi_st hR h hE hc h1 (Int.le_refl b) (ew_sz hE0 h.2.2.1 hb) (fun k hk _ => hk)
theorem wi_e {R : Nat → Nat → Prop} {A b : Int} (hR : ∀ i j, R i j → R j i) (hA : ∀ i j, R i j → Me A j) (hA16 : A ≤ 65535) (h : wiI R A 0 b) : wdA R (Me A) b := by
  obtain ⟨_, _, k3, ⟨l, k4⟩, k5⟩ := h
  refine ⟨k3, ?_, fun k hk ⟨m, hm⟩ => k5 k hk ?_⟩
  · obtain ⟨l2, h2⟩ := ew_su (S' := Me A) (H' := R) hR (fun a ha => ⟨ha, Me_0 a⟩) (fun _ _ _ _ _ q => q) k4
    exact ew_el hR hA k3 (fun i g => Me_lt g hA16) (m := []) h2 (fun _ g => g) (fun _ _ _ _ q => hg_R q) (fun v g => g.2 g.1)
  · obtain ⟨l2, h2⟩ := el_ew hR hA hk (fun i g => Me_lt g hA16) hm (fun _ g => g) ⟨[], fun i g => g.2 g.1⟩
    exact ew_su (hg_sy hR) (fun _ g => g) (fun _ _ ha hb hab q => R_hg ha hb hab q) h2
/-- what reach finds -/
theorem rx_pc {Nx : Nat → Int} {n : Nat} {s w E : Int} {R : Nat → Nat → Prop} {v : Nat} (h : rxP Nx n s w E) (hN : rwP Nx n R) (hs : ∀ i, Me s i ↔ i = v) (hv : Me w v) (hw : ∀ i j, Me w i → R i j → Me w j) : suP E w ∧ Me E v ∧ ∀ i j, Me E i → R i j → Me E j := by
  have h1 : ∀ j, Me E j ↔ _ := fun j => rx_RC h hN j
  refine ⟨h.1, h.2.1 v ((hs v).mpr rfl) hv, fun i j hi hr => ?_⟩
  have g := h.1 i hi
  rw [h1 j]
  intro C c1 c2
  exact c2 i j ((h1 i).mp hi C c1 c2) ⟨hr, hw i j g hr⟩
/-- tried below k: none -/
def wkI (R : Nat → Nat → Prop) (E a k : Int) : Prop := ∀ q : Int, a ≤ q → q < k → ¬ gW R (Me E) q E
