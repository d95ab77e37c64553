/-- joinings of melted rows among L -/
def mlR (M : Nat → Int) (L : Int) (a b : Nat) : Prop := Me L a ∧ Me L b ∧ Me (M a) b
/-- melted rows are in order -/
def mlK (M : Nat → Int) (L : Int) : Prop := ∀ v, Me L v → (0 ≤ M v ∧ M v ≤ 65535) ∧ ¬ Me (M v) v ∧ ∀ u, Me (M v) u → Me L u ∧ Me (M u) v
theorem ml_sy {M : Nat → Int} {L : Int} (h : mlK M L) : ∀ a b, mlR M L a b → mlR M L b a := fun a b q => ⟨q.2.1, q.1, ((h a q.1).2.2 b q.2.2).2⟩
/-- in lowWidth -/
def loI (J : Nat → Nat → Prop) (P : Int) (M : Nat → Int) (L lw : Int) : Prop := mlK M L ∧ suP L P ∧ ∀ k : Int, 0 ≤ k → (∃ l, ewL k.toNat l J (Me P)) → lw ≤ k ∧ ∃ l, ewL k.toNat l (mlR M L) (Me L)
theorem lo_0 {J : Nat → Nat → Prop} {P : Int} {M : Nat → Int} (hJ : ∀ a b, J a b → J b a) (hn : ∀ a, ¬ J a a) (hM : ∀ v, Me P v → (0 ≤ M v ∧ M v ≤ 65535) ∧ ∀ u, Me (M v) u ↔ J v u) (hP : ∀ v u, Me P v → J v u → Me P u) : loI J P M P 0 := by
  refine ⟨fun v hv => ⟨(hM v hv).1, fun g => hn v (((hM v hv).2 v).mp g), fun u g => ?_⟩, fun _ g => g, fun k hk ⟨l, hl⟩ => ⟨hk, ?_⟩⟩
  · have g1 := ((hM v hv).2 u).mp g
    have g2 := hP v u hv g1
    exact ⟨g2, ((hM u g2).2 v).mpr (hJ _ _ g1)⟩
  · exact ew_su hJ (fun _ g => g) (fun a b ha _ _ q => ((hM a ha).2 b).mp q.2.2) hl
/-- behind a round of lowWidth -/
theorem lo_st {J : Nat → Nat → Prop} {P L L1 lw lw1 : Int} {M M1 : Nat → Int} {v : Nat} (h : loI J P M L lw) (hL : L ≤ 65535) (hv : Me L v) (hle : ∀ u, Me L u → bcI (M v) 16 ≤ bcI (M u) 16) (h1 : ∀ i, Me L1 i ↔ Me L i ∧ i ≠ v) (hl : lw1 ≤ lw ∨ lw1 ≤ bcI (M v) 16) (hm : ((∀ u, ¬ Me (M v) u) ∧ ∀ w, M1 w = M w) ∨ ∃ u, Me (M v) u ∧ (∀ w, Me L1 w → 0 ≤ M1 w ∧ M1 w ≤ 65535) ∧ (∀ i, Me (M1 u) i ↔ (Me (M u) i ∨ (Me (M v) i ∧ i ≠ u)) ∧ i ≠ v) ∧ (∀ w, Me (M v) w → w ≠ u → ∀ i, Me (M1 w) i ↔ (Me (M w) i ∨ i = u) ∧ i ≠ v) ∧ (∀ w, w ≠ v → ¬ Me (M v) w → M1 w = M w)) : loI J P M1 L1 lw1 := by
  obtain ⟨k1, k2, k3⟩ := h
  have hvk := k1 v hv
  have hsu : suP L1 P := fun i g => k2 i ((h1 i).mp g).1
  have hlow : ∀ k : Int, 0 ≤ k → (∃ l, ewL k.toNat l J (Me P)) → lw1 ≤ k := fun k hk he => by
    obtain ⟨g1, l, g2⟩ := k3 k hk he
    have g3 : bcI (M v) 16 ≤ k := by
      cases l with
      | nil => exact absurd hv (g2 v)
      | cons x l =>
        obtain ⟨hx, hd, _⟩ := g2
        have g4 := lek_bc (k1 x hx).1 hk (fun b g => by
          have g5 := (k1 x hx).2.2 b g
          exact ⟨g5.1, fun e => (k1 x hx).2.1 (e ▸ g), hx, g5.1, g⟩) hd
        have := hle x hx
        omega
    omega
  rcases hm with ⟨m1, m2⟩ | ⟨u, m0, m1, m2, m3, m4⟩
  · have hnv : ∀ w, Me L w → ¬ Me (M w) v := fun w hw g => m1 w ((k1 w hw).2.2 v g).2
    refine ⟨fun w hw => ?_, hsu, fun k hk he => ⟨hlow k hk he, ?_⟩⟩
    · have hw1 := (h1 w).mp hw
      rw [m2 w]
      refine ⟨(k1 w hw1.1).1, (k1 w hw1.1).2.1, fun j g => ?_⟩
      have g1 := (k1 w hw1.1).2.2 j g
      rw [m2 j]
      exact ⟨(h1 j).mpr ⟨g1.1, fun e => hnv w hw1.1 (e ▸ g)⟩, g1.2⟩
    · obtain ⟨_, l, g2⟩ := k3 k hk he
      exact ew_su (ml_sy k1) (fun a ha => ((h1 a).mp ha).1) (fun a b ha hb _ q => ⟨((h1 a).mp ha).1, ((h1 b).mp hb).1, by have := q.2.2; rw [m2 a] at this; exact this⟩) g2
  · have huL := (hvk.2.2 u m0).1
    have huv := (hvk.2.2 u m0).2
    have hne : u ≠ v := fun e => hvk.2.1 (e ▸ m0)
    have hrow : ∀ w, Me L w → w ≠ v → ∀ i, Me (M1 w) i ↔ (Me L i ∧ i ≠ v ∧ i ≠ w) ∧ (Me (M w) i ∨ (w = u ∧ Me (M v) i) ∨ (i = u ∧ Me (M v) w)) := fun w hw hwv i => by
      by_cases ewu : w = u
      · rw [ewu, m2 i]
        constructor
        · rintro ⟨g1 | g1, g2⟩
          · exact ⟨⟨((k1 u huL).2.2 i g1).1, g2, fun e => (k1 u huL).2.1 (e ▸ g1)⟩, Or.inl g1⟩
          · exact ⟨⟨(hvk.2.2 i g1.1).1, g2, g1.2⟩, Or.inr (Or.inl ⟨rfl, g1.1⟩)⟩
        · rintro ⟨⟨g1, g2, g3⟩, g4 | g4 | g4⟩
          · exact ⟨Or.inl g4, g2⟩
          · exact ⟨Or.inr ⟨g4.2, g3⟩, g2⟩
          · exact absurd g4.1 g3
      · by_cases evw : Me (M v) w
        · rw [m3 w evw ewu i]
          constructor
          · rintro ⟨g1 | g1, g2⟩
            · exact ⟨⟨((k1 w hw).2.2 i g1).1, g2, fun e => (k1 w hw).2.1 (e ▸ g1)⟩, Or.inl g1⟩
            · rw [g1]; exact ⟨⟨huL, hne, fun e => ewu e.symm⟩, Or.inr (Or.inr ⟨rfl, evw⟩)⟩
          · rintro ⟨⟨g1, g2, g3⟩, g4 | g4 | g4⟩
            · exact ⟨Or.inl g4, g2⟩
            · exact absurd g4.1 ewu
            · exact ⟨Or.inr g4.1, g2⟩
        · rw [m4 w hwv evw]
          constructor
          · intro g1
            have g2 := (k1 w hw).2.2 i g1
            exact ⟨⟨g2.1, fun e => evw ((hvk.2.2 w (by rw [← e]; exact g2.2)).elim (fun _ _ => by rw [← e]; exact g2.2)), fun e => (k1 w hw).2.1 (e ▸ g1)⟩, Or.inl g1⟩
          · rintro ⟨⟨g1, g2, g3⟩, g4 | g4 | g4⟩
            · exact g4
            · exact absurd g4.1 ewu
            · exact absurd g4.2 evw
    refine ⟨fun w hw => ?_, hsu, fun k hk he => ⟨hlow k hk he, ?_⟩⟩
    · have hw1 := (h1 w).mp hw
      refine ⟨m1 w hw, fun g => ((hrow w hw1.1 hw1.2 w).mp g).1.2.2 rfl, fun j g => ?_⟩
      have g1 := (hrow w hw1.1 hw1.2 j).mp g
      refine ⟨(h1 j).mpr ⟨g1.1.1, g1.1.2.1⟩, (hrow j g1.1.1 g1.1.2.1 w).mpr ⟨⟨hw1.1, hw1.2, fun e => g1.1.2.2 e.symm⟩, ?_⟩⟩
      rcases g1.2 with g2 | g2 | g2
      · exact Or.inl ((k1 w hw1.1).2.2 j g2).2
      · exact Or.inr (Or.inr g2)
      · exact Or.inr (Or.inl g2)
    · obtain ⟨_, l, g2⟩ := k3 k hk he
      obtain ⟨l3, g3⟩ := ew_me (ml_sy k1) g2 hv (show mlR M L v u from ⟨hv, huL, m0⟩)
      refine ew_su (meh_sy (ml_sy k1)) (fun a ha => (h1 a).mp ha) (fun a b ha hb _ q => ?_) g3
      have ha1 := (h1 a).mp ha
      have hb1 := (h1 b).mp hb
      rcases ((hrow a ha1.1 ha1.2 b).mp q.2.2).2 with g4 | g4 | g4
      · exact Or.inl ⟨ha1.1, hb1.1, g4⟩
      · exact Or.inr (Or.inl ⟨g4.1, hv, hb1.1, g4.2⟩)
      · exact Or.inr (Or.inr ⟨g4.1, ha1.1, hv, (hvk.2.2 a g4.2).2⟩)
/-- in leastDegree -/
def ldgI (M : Nat → Int) (L v b lt : Int) : Prop := (lt = 16 ∧ ∀ u : Nat, (u : Int) < v → ¬ Me L u) ∨ (Me L b.toNat ∧ lt = bcI (M b.toNat) 16 ∧ ∀ u : Nat, (u : Int) < v → Me L u → lt ≤ bcI (M u) 16)
theorem ldg_0 {M : Nat → Int} {L b : Int} : ldgI M L 0 b 16 := Or.inl ⟨rfl, fun u hu => by omega⟩
theorem ldg_sk {M : Nat → Int} {L v b lt : Int} (h : ldgI M L v b lt) (h0 : 0 ≤ v) (hn : ¬ Me L v.toNat) : ldgI M L (v + 1) b lt := by
  have hh : ∀ u : Nat, (u : Int) < v + 1 → Me L u → (u : Int) < v := fun u hu hm => by
    by_cases e : (u : Int) < v
    · exact e
    · exact absurd (show Me L v.toNat from (show u = v.toNat by omega) ▸ hm) hn
  exact h.imp (fun q => ⟨q.1, fun u hu hm => q.2 u (hh u hu hm) hm⟩) (fun q => ⟨q.1, q.2.1, fun u hu hm => q.2.2 u (hh u hu hm) hm⟩)
theorem ldg_st {M : Nat → Int} {L v b lt b1 l1 : Int} (h : ldgI M L v b lt) (h0 : 0 ≤ v) (hm : Me L v.toNat) (h16 : bcI (M v.toNat) 16 ≤ 15) (hb : (b1 = v ∧ l1 = bcI (M v.toNat) 16 ∧ bcI (M v.toNat) 16 < lt) ∨ (b1 = b ∧ l1 = lt ∧ lt ≤ bcI (M v.toNat) 16)) : ldgI M L (v + 1) b1 l1 := by
  rcases hb with ⟨e1, e2, e3⟩ | ⟨e1, e2, e3⟩
  · refine Or.inr ⟨by rw [e1]; exact hm, by rw [e1]; exact e2, fun u hu hu2 => ?_⟩
    by_cases e : (u : Int) < v
    · rcases h with q | q
      · exact absurd hu2 (q.2 u e)
      · have := q.2.2 u e hu2
        omega
    · rw [show u = v.toNat by omega]; omega
  · rcases h with q | q
    · omega
    · refine Or.inr ⟨by rw [e1]; exact q.1, by rw [e1, e2]; exact q.2.1, fun u hu hu2 => ?_⟩
      by_cases e : (u : Int) < v
      · rw [e2]; exact q.2.2 u e hu2
      · rw [show u = v.toNat by omega]; omega
theorem ldg_e {M : Nat → Int} {L b lt : Int} (h : ldgI M L 16 b lt) (hL : L ≤ 65535) {u0 : Nat} (hu0 : Me L u0) : Me L b.toNat ∧ ∀ u, Me L u → bcI (M b.toNat) 16 ≤ bcI (M u) 16 := by
  rcases h with q | q
  · exact absurd hu0 (q.2 u0 (by have := Me_lt hu0 hL; omega))
  · exact ⟨q.1, fun u hu => by
      have := q.2.2 u (by have := Me_lt hu hL; omega) hu
      omega⟩
/-- in leastShared -/
def lshI (A v b : Int) : Prop := (b = -1 ∧ ∀ u : Nat, (u : Int) < v → ¬ Me A u) ∨ (0 ≤ b ∧ Me A b.toNat)
/-- the orders of the reference -/
theorem el_ew {R : Nat → Nat → Prop} {A : Nat → Prop} {k : Int} (hR : ∀ i j, R i j → R j i) (hA : ∀ i j, R i j → A j) (h0 : 0 ≤ k) (hA16 : ∀ i, A i → i < 16) : ∀ {l : List Nat} {G : Nat → Prop}, elB R k l G → (∀ j, G j → A j) → (∃ l', ewL k.toNat l' (hG R A (fun j => A j ∧ ¬ G j)) (fun j => A j ∧ ¬ G j)) → ∃ l', ewL k.toNat l' (hG R A A) A
  | [], G, h, _, ⟨l, hl⟩ => ew_su (hg_sy hR) (fun a ha => ⟨ha, h a⟩) (fun a b _ _ _ q => hg_cg (fun i => ⟨fun g => g.1, fun g => ⟨g, h i⟩⟩) q) hl
  | v :: l, G, ⟨hv, ⟨z, z1, z2, z3⟩, hr⟩, hG1, ⟨m, hm⟩ => by
    refine el_ew hR hA h0 hA16 hr (fun j g => hG1 j g.1) ?_
    have hvL : A v ∧ ¬ (G v ∧ v ≠ v) := ⟨hG1 v hv, fun g => g.2 rfl⟩
    have e1 : ∀ j, (A j ∧ ¬ G j) ↔ ((A j ∧ ¬ (G j ∧ j ≠ v)) ∧ j ≠ v) := fun j => by
      constructor
      · intro g
        exact ⟨⟨g.1, fun q => g.2 q.1⟩, fun e => g.2 (e ▸ hv)⟩
      · intro g
        exact ⟨g.1.1, fun q => g.1.2 ⟨q, g.2⟩⟩
    obtain ⟨l2, h2⟩ := ew_su (H' := flH (hG R A (fun j => A j ∧ ¬ (G j ∧ j ≠ v))) v) (S' := fun j => (A j ∧ ¬ (G j ∧ j ≠ v)) ∧ j ≠ v) (hg_sy hR) (fun a ha => (e1 a).mpr ha) (fun a b ha hb _ q => hg_cg (fun j => e1 j) (fl_hg (hG1 v hv) ha.2 hb.2 q)) hm
    refine ⟨v :: l2, hvL, lek_of z1 (fun b hb => (z2 b).mpr ⟨?_, ?_⟩) z3, h2⟩
    · exact fun g => hb.1.2 ⟨g, hb.2.1⟩
    · refine th_cg (fun j q => ?_) hb.2.2.2.2.2
      by_cases g : G j ∧ j ≠ v
      · exact g
      · exact absurd ⟨q.1, g⟩ q.2
theorem ew_el {R : Nat → Nat → Prop} {A : Nat → Prop} {k : Int} (hR : ∀ i j, R i j → R j i) (hA : ∀ i j, R i j → A j) (h0 : 0 ≤ k) (hA16 : ∀ i, A i → i < 16) : ∀ {l m : List Nat} {H : Nat → Nat → Prop} {S : Nat → Prop}, ewL k.toNat l H S → (∀ j, S j → A j) → (∀ a b, S a → S b → hG R A S a b → H a b) → elB R k m (fun j => A j ∧ ¬ S j) → ∃ m', elB R k m' A
  | [], m, H, S, h, _, _, hm => ⟨m, el_cg (fun i => ⟨fun g => ⟨g, h i⟩, fun g => g.1⟩) hm⟩
  | v :: l, m, H, S, h, hS, hH, hm => by
    obtain ⟨hv, hk, hr⟩ := h
    have e1 : ∀ j, ((A j ∧ ¬ (S j ∧ j ≠ v)) ∧ j ≠ v) ↔ (A j ∧ ¬ S j) := fun j => by
      constructor
      · intro g
        exact ⟨g.1.1, fun q => g.1.2 ⟨q, g.2⟩⟩
      · intro g
        exact ⟨⟨g.1, fun q => g.2 q.1⟩, fun e => g.2 (e ▸ hv)⟩
    obtain ⟨z, z1, z2⟩ := mk_ex (fun i => (S i ∧ i ≠ v) ∧ thP R (fun j => A j ∧ ¬ S j) v i) 16 (Nat.le_refl 16)
    refine ew_el hR hA h0 hA16 (m := v :: m) hr (fun j g => hS j g.1) (fun a b ha hb q => ?_) ⟨⟨hS v hv, fun g => g.2 rfl⟩, ⟨z, z1, fun i => ?_, ?_⟩, el_cg e1 hm⟩
    · have q2 := hg_fl hv (hS v hv) q
      rcases q2 with q3 | q3
      · exact Or.inl (hH a b ha.1 hb.1 q3)
      · exact Or.inr ⟨q3.1, hH a v ha.1 hv q3.2.1, hH v b hv hb.1 q3.2.2⟩
    · rw [z2 i]
      constructor
      · rintro ⟨_, g1, g2⟩
        exact ⟨fun q => q.2 g1, th_cg (fun j q => (e1 j).mpr q) g2⟩
      · rintro ⟨g1, g2⟩
        have g3 : i = v ∨ A i := g2 (fun j => j = v ∨ A j) (Or.inl rfl) (fun a b _ _ q => Or.inr (hA a b q))
        have g4 : A i := g3.elim (fun e => e ▸ hS v hv) id
        have g5 : S i ∧ i ≠ v := by
          by_cases q : S i ∧ i ≠ v
          · exact q
          · exact absurd ⟨g4, q⟩ g1
        exact ⟨hA16 i g4, g5, th_cg (fun j q => (e1 j).mp q) g2⟩
    · refine lek_bc z1 h0 (fun b g => ?_) hk
      have g1 := ((z2 b).mp g).2
      exact ⟨g1.1.1, g1.1.2, hH v b hv g1.1.1 ⟨hv, g1.1.1, fun e => g1.1.2 e.symm, g1.2⟩⟩
