theorem ew_mo {k q : Nat} (hk : k ≤ q) : ∀ {l : List Nat} {H : Nat → Nat → Prop} {S : Nat → Prop}, ewL k l H S → ewL q l H S
  | [], _, _, h => h
  | _ :: _, _, _, ⟨h1, ⟨m, m1, m2⟩, h3⟩ => ⟨h1, ⟨m, Nat.le_trans m1 hk, m2⟩, ew_mo hk h3⟩
/-- joinings when v is melted into u -/
def meH (M : Nat → Nat → Prop) (v u a b : Nat) : Prop := M a b ∨ (a = u ∧ M v b) ∨ (b = u ∧ M a v)
theorem meh_sy {M : Nat → Nat → Prop} {v u : Nat} (h : ∀ a b, M a b → M b a) : ∀ a b, meH M v u a b → meH M v u b a := fun a b q => q.elim (fun q => Or.inl (h a b q)) (fun q => q.elim (fun q => Or.inr (Or.inr ⟨q.1, h v b q.2⟩)) (fun q => Or.inr (Or.inl ⟨q.1, h a v q.2⟩)))
theorem ew_me {k : Nat} {l : List Nat} {M : Nat → Nat → Prop} {S : Nat → Prop} {v u : Nat} (hy : ∀ a b, M a b → M b a) (h : ewL k l M S) (hv : S v) (hvu : M v u) : ∃ l', ewL k l' (meH M v u) (fun j => S j ∧ j ≠ v) := by
  obtain ⟨f, f1, f2⟩ : ∃ f : Nat → Nat, f v = u ∧ ∀ a, a ≠ v → f a = a := ⟨fun j => if j = v then u else j, if_pos rfl, fun a ha => if_neg ha⟩
  refine ew_mi (f := f) hy (fun a ha => ⟨a, ha.1, f2 a ha.2⟩) ?_ ?_ h
  · intro p q hp hq hpq _ C hC hcl
    by_cases e : p = q
    · exact e ▸ hC
    · by_cases ep : p = v
      · have eq : q ≠ v := fun e2 => e (by rw [ep, e2])
        have h1 : u = q := by rw [← f2 q eq, ← hpq, ep, f1]
        exact hcl p q hC hp hq rfl hpq.symm (by rw [ep, ← h1]; exact hvu)
      · have eq : q = v := by
          by_cases e2 : q = v
          · exact e2
          · rw [f2 q e2, f2 p ep] at hpq
            exact absurd hpq e
        have h1 : p = u := by rw [← f2 p ep, hpq, eq, f1]
        exact hcl p q hC hp hq rfl hpq.symm (by rw [eq, h1]; exact hy v u hvu)
  · intro a b ha hb hab hH
    rcases hH with hH | ⟨e, hH⟩ | ⟨e, hH⟩
    · exact ⟨a, b, ha.1, hb.1, f2 a ha.2, f2 b hb.2, hH⟩
    · exact ⟨v, b, hv, hb.1, by rw [f1, e], f2 b hb.2, hH⟩
    · exact ⟨a, v, ha.1, hv, f2 a ha.2, by rw [f1, e], hH⟩
theorem ew_ha {k : Nat} {l : List Nat} {H : Nat → Nat → Prop} {S : Nat → Prop} {v w : Nat} (hy : ∀ a b, H a b → H b a) (h : ewL k l H S) (hv : S v) (hvw : H v w) (hal : ∀ a b, S a → S b → a ≠ b → a ≠ v → b ≠ v → H v a → H v b → a ≠ w → b ≠ w → H a b) : ∃ l', ewL k l' (flH H v) (fun j => S j ∧ j ≠ v) := by
  obtain ⟨l1, h1⟩ := ew_me hy h hv hvw
  refine ew_su (meh_sy hy) (fun a ha => ha) (fun a b ha hb hab hH => ?_) h1
  rcases hH with hH | hH
  · exact Or.inl hH
  · by_cases ea : a = w
    · exact Or.inr (Or.inl ⟨ea, hH.2.2⟩)
    · by_cases eb : b = w
      · exact Or.inr (Or.inr ⟨eb, hH.2.1⟩)
      · exact Or.inl (hal a b ha.1 hb.1 hab ha.2 hb.2 (hy a v hH.2.1) hH.2.2 ea eb)
/-- a node with no neighbour may go first -/
theorem ew_h0 {k : Nat} {l : List Nat} {H : Nat → Nat → Prop} {S : Nat → Prop} {v : Nat} (hy : ∀ a b, H a b → H b a) (h : ewL k l H S) (hn : ∀ a, S a → a ≠ v → ¬ H v a) : ∃ l', ewL k l' (flH H v) (fun j => S j ∧ j ≠ v) :=
  ew_su hy (fun _ ha => ha.1) (fun _ b _ hb _ hH => hH.elim (fun q => q) (fun q => absurd q.2.2 (hn b hb.1 hb.2))) h
/-- two sets with no joinings between them -/
theorem ew_un {k : Nat} {B : Nat → Prop} : ∀ {l : List Nat} {H : Nat → Nat → Prop} {A : Nat → Prop}, (∀ a b, H a b → H b a) → (∀ a, A a → ¬ B a) → (∀ a b, A a → B b → ¬ H a b) → ewL k l H A → (∃ l2, ewL k l2 H B) → ∃ l', ewL k l' H (fun j => A j ∨ B j)
  | [], H, A, hy, _, _, h, hB => by
    obtain ⟨l2, h2⟩ := hB
    exact ew_su hy (fun a ha => ha.elim (fun q => absurd q (h a)) id) (fun _ _ _ _ _ q => q) h2
  | v :: l, H, A, hy, hd, hn, h, hB => by
    obtain ⟨hv, ⟨m, m1, m2⟩, hr⟩ := h
    obtain ⟨l2, h2⟩ := hB
    have hvB : ∀ b, B b → ¬ H b v := fun b hb q => hn v b hv hb (hy b v q)
    have h3 := ew_su (H' := flH H v) (S' := B) hy (fun a ha => ha) (fun a b ha _ _ hH => hH.elim id (fun q => absurd q.2.1 (hvB a ha))) h2
    obtain ⟨l', hl'⟩ := ew_un (A := fun j => A j ∧ j ≠ v) (flh_sy hy) (fun a ha => hd a ha.1) (fun a b ha hb hH => hH.elim (hn a b ha.1 hb) (fun q => hn v b hv hb q.2.2)) hr h3
    obtain ⟨l5, h5⟩ := ew_su (H' := flH H v) (S' := fun j => (A j ∨ B j) ∧ j ≠ v) (flh_sy hy) (fun a ha => ha.1.elim (fun q => Or.inl ⟨q, ha.2⟩) Or.inr) (fun _ _ _ _ _ q => q) hl'
    exact ⟨v :: l5, Or.inl hv, ⟨m, m1, fun b hb => m2 b (by
      rcases hb.1 with q | q
      · exact ⟨q, hb.2.1, hb.2.2⟩
      · exact absurd hb.2.2 (hn v b hv q))⟩, h5⟩
/-- how many, by a list -/
theorem bc_ls {z : Int} : ∀ n : Nat, ∃ l : List Nat, (l.length : Int) = bcI z n ∧ ∀ b, b < n → Me z b → b ∈ l
  | 0 => ⟨[], rfl, fun b hb => by omega⟩
  | n + 1 => by
    obtain ⟨l, h1, h2⟩ := bc_ls (z := z) n
    by_cases hm : Me z n
    · refine ⟨n :: l, ?_, fun b hb hz => ?_⟩
      · rw [bc_y hm, ← h1, List.length_cons]
        omega
      · by_cases e : b = n
        · exact List.mem_cons.mpr (Or.inl e)
        · exact List.mem_cons.mpr (Or.inr (h2 b (by omega) hz))
    · refine ⟨l, ?_, fun b hb hz => ?_⟩
      · rw [bc_n hm]; exact h1
      · by_cases e : b = n
        · exact absurd (e ▸ hz) hm
        · exact h2 b (by omega) hz
theorem ls_bc : ∀ (l : List Nat) (z : Int), (0 ≤ z ∧ z ≤ 65535) → (∀ b, Me z b → b ∈ l) → bcI z 16 ≤ (l.length : Int)
  | [], z, hz, h => by
    have h1 := bc_sb (s := z) (z := 0) (fun i g => absurd (h i g) List.not_mem_nil) 16
    have h2 : bcI 0 16 = 0 := by decide
    rw [List.length_nil]
    omega
  | x :: l, z, hz, h => by
    obtain ⟨y, hy, hm⟩ := mk_ex (fun i => Me z i ∧ i ≠ x) 16 (Nat.le_refl 16)
    have h1 := bc_one (s := z) (z := y) (w := x) (fun i g => by
      by_cases e : i = x
      · exact Or.inr e
      · exact Or.inl ((hm i).mpr ⟨Me_lt g hz.2, g, e⟩)) 16
    have h2 := ls_bc l y hy (fun b g => by
      have g1 := (hm b).mp g
      rcases List.mem_cons.mp (h b g1.2.1) with e | e
      · exact absurd e g1.2.2
      · exact e)
    have h3 : (if x < 16 then (1 : Int) else 0) ≤ 1 := by split <;> omega
    rw [List.length_cons]
    omega
theorem lek_of {z k : Int} {P : Nat → Prop} (hz : 0 ≤ z ∧ z ≤ 65535) (hP : ∀ b, P b → Me z b) (h : bcI z 16 ≤ k) : leK k.toNat P := by
  obtain ⟨l, h1, h2⟩ := bc_ls (z := z) 16
  exact ⟨l, by omega, fun b hb => h2 b (Me_lt (hP b hb) hz.2) (hP b hb)⟩
theorem lek_bc {z k : Int} {P : Nat → Prop} (hz : 0 ≤ z ∧ z ≤ 65535) (h0 : 0 ≤ k) (hP : ∀ b, Me z b → P b) (h : leK k.toNat P) : bcI z 16 ≤ k := by
  obtain ⟨l, h1, h2⟩ := h
  have := ls_bc l z hz (fun b g => h2 b (hP b g))
  omega
/-- small sets, told by how many -/
theorem ew_sz {S k : Int} {H : Nat → Nat → Prop} (hS : 0 ≤ S ∧ S ≤ 65535) (h0 : 0 ≤ k) (h : bcI S 16 ≤ k + 1) : ∃ l, ewL k.toNat l H (Me S) := by
  obtain ⟨l, h1, h2⟩ := bc_ls (z := S) 16
  exact ew_sm (m := l) (fun b hb => h2 b (Me_lt hb hS.2) hb) (by omega)
