theorem ew_su {k : Nat} {l : List Nat} {H H' : Nat → Nat → Prop} {S S' : Nat → Prop} (hy : ∀ a b, H a b → H b a) (hS : ∀ a, S' a → S a) (he : ∀ a b, S' a → S' b → a ≠ b → H' a b → H a b) (h : ewL k l H S) : ∃ l', ewL k l' H' S' :=
  ew_mi (f := fun j => j) hy (fun a ha => ⟨a, hS a ha, rfl⟩) (fun x y _ _ e _ C hC _ => by
    have e1 : x = y := e
    exact e1 ▸ hC) (fun a b ha hb hab hH => ⟨a, b, hS a ha, hS b hb, rfl, rfl, he a b ha hb hab hH⟩) h
theorem ew_sm {k : Nat} : ∀ {m : List Nat} {H : Nat → Nat → Prop} {S : Nat → Prop}, (∀ b, S b → b ∈ m) → m.length ≤ k + 1 → ∃ l, ewL k l H S
  | [], _, _, h, _ => ⟨[], fun i hi => absurd (h i hi) (List.not_mem_nil)⟩
  | x :: m, H, S, h, hl => by
    have hl2 : m.length ≤ k := by
      rw [List.length_cons] at hl
      omega
    by_cases hx : S x
    · have hm : ∀ b, (S b ∧ b ≠ x) → b ∈ m := fun b hb => by
        cases List.mem_cons.mp (h b hb.1) with
        | inl e => exact absurd e hb.2
        | inr e => exact e
      obtain ⟨l, hl3⟩ := ew_sm (k := k) (m := m) (H := flH H x) (S := fun j => S j ∧ j ≠ x) hm (by omega)
      exact ⟨x :: l, hx, ⟨m, hl2, fun b hb => hm b ⟨hb.1, hb.2.1⟩⟩, hl3⟩
    · exact ew_sm (m := m) (fun b hb => by
        cases List.mem_cons.mp (h b hb) with
        | inl e => exact absurd (e ▸ hb) hx
        | inr e => exact e) (by omega)
theorem ew_cl {k : Nat} : ∀ {l : List Nat} {H : Nat → Nat → Prop} {S C : Nat → Prop}, (∀ a b, H a b → H b a) → ewL k l H S → (∀ a b, C a → C b → a ≠ b → H a b) → (∃ v, S v ∧ ¬ C v) → ∃ v l', S v ∧ ¬ C v ∧ ewL k (v :: l') H S
  | [], _, _, _, _, h, _, hv => by
    obtain ⟨v, hv, _⟩ := hv
    exact absurd hv (h v)
  | x :: l, H, S, C, hy, h, hC, hv => by
    obtain ⟨hx, hk, hr⟩ := h
    by_cases hcx : C x
    · by_cases hq : ∃ v, (S v ∧ v ≠ x) ∧ ¬ (S v ∧ v ≠ x ∧ H x v)
      · obtain ⟨v, l', hvS, hvC, hvv, hvk, hvr⟩ := ew_cl (C := fun j => S j ∧ j ≠ x ∧ H x j) (flh_sy hy) hr (fun a b ha hb hab => Or.inr ⟨hab, hy x a ha.2.2, hb.2.2⟩) hq
        have hxv : ¬ H x v := fun e => hvC ⟨hvS.1, hvS.2, e⟩
        have hvx : ¬ H v x := fun e => hxv (hy v x e)
        obtain ⟨l2, hl2⟩ := ew_su (H' := flH (flH H v) x) (S' := fun j => (S j ∧ j ≠ v) ∧ j ≠ x) (flh_sy (flh_sy hy)) (fun a ha => ⟨⟨ha.1.1, ha.2⟩, ha.1.2⟩) (fun a b _ _ hab hH => by
          cases hH with
          | inl hH =>
            cases hH with
            | inl hH => exact Or.inl (Or.inl hH)
            | inr hH => exact Or.inr ⟨hH.1, Or.inl hH.2.1, Or.inl hH.2.2⟩
          | inr hH =>
            have h1 : H a x := hH.2.1.elim (fun e => e) (fun e => absurd e.2.2 hvx)
            have h2 : H x b := hH.2.2.elim (fun e => e) (fun e => absurd e.2.1 hxv)
            exact Or.inl (Or.inr ⟨hH.1, h1, h2⟩)) hvr
        obtain ⟨m1, hm1, hmm1⟩ := hk
        obtain ⟨m2, hm2, hmm2⟩ := hvk
        refine ⟨v, x :: l2, hvS.1, fun e => hxv (hC x v hcx e (fun e2 => hvS.2 e2.symm)), hvS.1, ⟨m2, hm2, fun b hb => hmm2 b ⟨⟨hb.1, fun e => hvx (e ▸ hb.2.2)⟩, hb.2.1, Or.inl hb.2.2⟩⟩, ⟨hx, fun e => hvS.2 e.symm⟩, ⟨m1, hm1, fun b hb => hmm1 b ⟨hb.1.1, hb.2.1, hb.2.2.elim (fun e => e) (fun e => absurd e.2.1 hxv)⟩⟩, hl2⟩
      · obtain ⟨v, hvS, hvC⟩ := hv
        obtain ⟨m1, hm1, hmm1⟩ := hk
        have ha : ∀ b, S b → b ∈ x :: m1 := fun b hb => by
          by_cases e : b = x
          · exact List.mem_cons.mpr (Or.inl e)
          · by_cases e2 : H x b
            · exact List.mem_cons.mpr (Or.inr (hmm1 b ⟨hb, e, e2⟩))
            · exact absurd ⟨b, ⟨hb, e⟩, fun e3 => e2 e3.2.2⟩ hq
        have hlen : ((x :: m1).erase v).length ≤ k := by
          rw [List.length_erase_of_mem (ha v hvS), List.length_cons]
          omega
        have hmem : ∀ b, (S b ∧ b ≠ v) → b ∈ (x :: m1).erase v := fun b hb => (List.mem_erase_of_ne hb.2).mpr (ha b hb.1)
        obtain ⟨l2, hl2⟩ := ew_sm (k := k) (H := flH H v) (S := fun j => S j ∧ j ≠ v) hmem (by omega)
        exact ⟨v, l2, hvS, hvC, hvS, ⟨(x :: m1).erase v, hlen, fun b hb => hmem b ⟨hb.1, hb.2.1⟩⟩, hl2⟩
    · exact ⟨x, l, hx, hcx, hx, hk, hr⟩
