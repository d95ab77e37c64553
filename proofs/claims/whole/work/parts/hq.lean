/-- what a question about one graph is answered with -/
def akA (n m : Nat) (d : Int) (F T W C : Nat → Int) (what x y r : Int) : Prop :=
  (what = 0 → orA m d F T n x.toNat r) ∧ (what = 1 → rgA m d F T r) ∧ (what = 2 → sdA m F T n x.toNat r) ∧
  (what = 3 → clA (fun i j => ¬ joA m F T i j) (((2 ^ n : Nat) : Int) - 1) r) ∧ (what = 4 → clA (joA m F T) (((2 ^ n : Nat) : Int) - 1) r) ∧
  (what = 5 → coA (joA m F T) (Me (((2 ^ n : Nat) : Int) - 1)) r) ∧ (what = 6 → wdA (joA m F T) (Me (((2 ^ n : Nat) : Int) - 1)) r) ∧
  (what = 7 → maA (joA m F T) (Me (((2 ^ n : Nat) : Int) - 1)) r) ∧ (what = 8 → msA (joA m F T) n r ∧ 0 ≤ r) ∧
  (what = 9 → stA m F T n 1000000007 r) ∧ (what = 10 → lwA m F T W (-1) r) ∧ (what = 11 → lwA m F T W x r) ∧
  (what = 12 → mcA m d 0 F T W n x.toNat y.toNat r) ∧ (what = 13 → mcS m d 0 F T W n x.toNat y.toNat r) ∧
  (what = 14 → prcA m d F T W C x.toNat y.toNat r) ∧ (what = 15 → mcA m d 1 F T W n x.toNat y.toNat r)
theorem jb_jo {be F T : Nat → Int} {m : Nat} (h : jbP be m F T (fun k => (k : Int) ≠ -1)) : ∀ i, i < 16 → ∀ j, Me (be i) j ↔ joA m F T i j := fun i hi j => by
  rw [h i hi j]
  constructor
  · rintro ⟨k, k1, -, k3⟩
    exact ⟨k, k1, trivial, k3⟩
  · rintro ⟨k, k1, -, k3⟩
    exact ⟨k, k1, by omega, k3⟩
theorem jb_sy {be F T : Nat → Int} {m : Nat} (h : ∀ i, i < 16 → ∀ j, Me (be i) j ↔ joA m F T i j) : ∀ i j : Nat, i < 16 → j < 16 → Me (be i) j → Me (be j) i := fun i j hi hj g => (h j hj i).mpr (joX_sym _ _ ((h i hi j).mp g))
section AK
variable {be F T : Nat → Int} {m n : Nat} {r : Int}
theorem all_lt (hn : n ≤ 16) (i : Nat) (g : Me (((2 ^ n : Nat) : Int) - 1) i) : i < 16 := by have := (Me_all i).mp g; omega
theorem co_ref (hn : n ≤ 16) (hbe : ∀ i, i < 16 → ∀ j, Me (be i) j ↔ joA m F T i j) (h : coA (clR be 0) (Me (((2 ^ n : Nat) : Int) - 1)) r) : coA (joA m F T) (Me (((2 ^ n : Nat) : Int) - 1)) r :=
  coa_cg (fun _ => Iff.rfl) (fun i j gi gj _ => ⟨fun g => Or.inr ⟨rfl, (hbe i (all_lt hn i gi) j).mpr g⟩, fun g => by
    rcases g with ⟨g, -⟩ | ⟨-, g⟩
    · omega
    · exact (hbe i (all_lt hn i gi) j).mp g⟩) h
theorem ma_ref (hn : n ≤ 16) (hbe : ∀ i, i < 16 → ∀ j, Me (be i) j ↔ joA m F T i j) (h : maA (fun i j => Me (be i) j) (Me (((2 ^ n : Nat) : Int) - 1)) r) : maA (joA m F T) (Me (((2 ^ n : Nat) : Int) - 1)) r :=
  ma_cg (fun _ => Iff.rfl) (fun i j gi gj => (hbe i (all_lt hn i gi) j).symm) h
theorem ms_ref (hn : n ≤ 16) (hbe : ∀ i, i < 16 → ∀ j, Me (be i) j ↔ joA m F T i j) (h : msA (fun i j => Me (be i) j) n r) : msA (joA m F T) n r := by
  obtain ⟨q, h1, h2⟩ := h
  refine ⟨q, ma_cg (fun _ => Iff.rfl) (fun i j gi gj => (hbe i (by omega) j).symm) h1, fun i => (h2 i).trans ⟨fun g => ⟨g.1, ma_cg (fun _ => Iff.rfl) (fun i j gi gj => (hbe i (by have := gi.1; omega) j).symm) g.2⟩, fun g => ⟨g.1, ma_cg (fun _ => Iff.rfl) (fun i j gi gj => hbe i (by have := gi.1; omega) j) g.2⟩⟩⟩
theorem th_rl {R R1 : Nat → Nat → Prop} {G : Nat → Prop} {v i : Nat} (h : ∀ a b, (a = v ∨ G a) → R a b → R1 a b) (ht : thP R G v i) : thP R1 G v i := fun C h1 h2 => ht C h1 (fun a b ha hg hr => h2 a b ha hg (h a b hg hr))
theorem el_rl {R R1 : Nat → Nat → Prop} {k : Int} : ∀ {l : List Nat} {S : Nat → Prop}, (∀ a b, S a → (R a b ↔ R1 a b)) → elB R k l S → elB R1 k l S
  | [], _, _, hl => hl
  | v :: _, _, h, ⟨h1, ⟨z, z1, z2, z3⟩, h3⟩ => ⟨h1, ⟨z, z1, fun i => (z2 i).trans ⟨fun g => ⟨g.1, th_rl (fun a b ha hr => (h a b (ha.elim (fun e => by rw [e]; exact h1) (fun q => q.1))).mp hr) g.2⟩, fun g => ⟨g.1, th_rl (fun a b ha hr => (h a b (ha.elim (fun e => by rw [e]; exact h1) (fun q => q.1))).mpr hr) g.2⟩⟩, z3⟩, el_rl (fun a b ha => h a b ha.1) h3⟩
theorem wd_ref (hn : n ≤ 16) (hbe : ∀ i, i < 16 → ∀ j, Me (be i) j ↔ joA m F T i j) (h : wdA (fun i j => Me (be i) j) (Me (((2 ^ n : Nat) : Int) - 1)) r) : wdA (joA m F T) (Me (((2 ^ n : Nat) : Int) - 1)) r := by
  obtain ⟨h0, ⟨l, hl⟩, h2⟩ := h
  exact ⟨h0, ⟨l, el_rl (fun a b ga => hbe a (all_lt hn a ga) b) hl⟩, fun k hk ⟨l1, hl1⟩ => h2 k hk ⟨l1, el_rl (fun a b ga => (hbe a (all_lt hn a ga) b).symm) hl1⟩⟩
end AK
theorem xJ_rg {cA : ClassId} {L : Nat} {P : Nat → Int64 → Prop} {f : Nat → Int64} (h : ∀ i, i < L → P i (f i)) (e : va_E) (he : xJ cA L f e) : tJ cA L P e := by
  obtain ⟨g, h1, h2⟩ := he
  exact ⟨g, h1, fun i hi => by rw [show g i = f i from h2 i hi]; exact h i hi⟩
