def leK (k : Nat) (P : Nat → Prop) : Prop := ∃ l : List Nat, l.length ≤ k ∧ ∀ b, P b → b ∈ l
def flH (H : Nat → Nat → Prop) (v a b : Nat) : Prop := H a b ∨ (a ≠ b ∧ H a v ∧ H v b)
def ewL (k : Nat) : List Nat → (Nat → Nat → Prop) → (Nat → Prop) → Prop
  | [], _, S => ∀ i, ¬ S i
  | v :: l, H, S => S v ∧ leK k (fun b => S b ∧ b ≠ v ∧ H v b) ∧ ewL k l (flH H v) (fun j => S j ∧ j ≠ v)
theorem flh_sy {H : Nat → Nat → Prop} {v : Nat} (h : ∀ a b, H a b → H b a) : ∀ a b, flH H v a b → flH H v b a := fun a b q => q.elim (fun q => Or.inl (h a b q)) (fun q => Or.inr ⟨fun e => q.1 e.symm, h v b q.2.2, h a v q.2.1⟩)
theorem ew_mi {k : Nat} {f : Nat → Nat} : ∀ {l : List Nat} {H H' : Nat → Nat → Prop} {S S' : Nat → Prop}, (∀ a b, H a b → H b a) → (∀ a, S' a → ∃ x, S x ∧ f x = a) → (∀ x y, S x → S y → f x = f y → S' (f x) → ∀ C : Nat → Prop, C x → (∀ a b, C a → S a → S b → f a = f x → f b = f x → H a b → C b) → C y) → (∀ a b, S' a → S' b → a ≠ b → H' a b → ∃ x y, S x ∧ S y ∧ f x = a ∧ f y = b ∧ H x y) → ewL k l H S → ∃ l', ewL k l' H' S'
  | [], H, H', S, S', _, hs, _, _, he => ⟨[], fun i hi => by
      obtain ⟨x, hx, _⟩ := hs i hi
      exact he x hx⟩
  | x :: l, H, H', S, S', hy, hs, hc, hg, he => by
    obtain ⟨hx, hk, hr⟩ := he
    by_cases hf : S' (f x)
    · by_cases h1 : ∃ z, S z ∧ z ≠ x ∧ f z = f x
      · obtain ⟨z0, hz0, hzx, hzf⟩ := h1
        have hn : ∃ z, S z ∧ z ≠ x ∧ f z = f x ∧ H x z := by
          by_cases hq : ∃ z, S z ∧ z ≠ x ∧ f z = f x ∧ H x z
          · exact hq
          · have h2 := hc x z0 hx hz0 hzf.symm hf (fun j => j = x) rfl (fun a b ha _ hb _ hfb hab => by
              by_cases e : b = x
              · exact e
              · exact absurd ⟨b, hb, e, hfb, ha ▸ hab⟩ hq)
            exact absurd h2 hzx
        obtain ⟨z, hz, hzn, hzf2, hxz⟩ := hn
        refine ew_mi (f := f) (flh_sy hy) ?_ ?_ ?_ hr
        · intro a ha
          obtain ⟨y, hy1, hya⟩ := hs a ha
          by_cases e : y = x
          · exact ⟨z, ⟨hz, hzn⟩, by rw [hzf2, ← e, hya]⟩
          · exact ⟨y, ⟨hy1, e⟩, hya⟩
        · intro p q hp hq hpq hS C hC hcl
          have h3 := hc p q hp.1 hq.1 hpq hS (fun j => (j ≠ x ∧ C j) ∨ (j = x ∧ ∃ c, S c ∧ c ≠ x ∧ f c = f p ∧ C c ∧ H c x)) (Or.inl ⟨hp.2, hC⟩) (fun a b ha hSa hSb hfa hfb hab => by
            by_cases eb : b = x
            · refine Or.inr ⟨eb, ?_⟩
              cases ha with
              | inl ha => exact ⟨a, hSa, ha.1, hfa, ha.2, eb ▸ hab⟩
              | inr ha => exact ha.2
            · refine Or.inl ⟨eb, ?_⟩
              cases ha with
              | inl ha => exact hcl a b ha.2 ⟨hSa, ha.1⟩ ⟨hSb, eb⟩ hfa hfb (Or.inl hab)
              | inr ha =>
                obtain ⟨ea, c, hSc, hcx, hfc, hCc, hcx2⟩ := ha
                by_cases ecb : c = b
                · exact ecb ▸ hCc
                · exact hcl c b hCc ⟨hSc, hcx⟩ ⟨hSb, eb⟩ hfc hfb (Or.inr ⟨ecb, hcx2, ea ▸ hab⟩))
          cases h3 with
          | inl h3 => exact h3.2
          | inr h3 => exact absurd h3.1 hq.2
        · intro a b ha hb hab hH
          obtain ⟨p, q, hp, hq, hpa, hqb, hpq⟩ := hg a b ha hb hab hH
          by_cases ep : p = x
          · have hqx : q ≠ x := fun e => hab (by rw [← hpa, ← hqb, ep, e])
            refine ⟨z, q, ⟨hz, hzn⟩, ⟨hq, hqx⟩, by rw [hzf2, ← ep, hpa], hqb, Or.inr ⟨fun e => hab ?_, hy x z hxz, ep ▸ hpq⟩⟩
            rw [← hpa, ← hqb, ep, ← hzf2, e]
          · by_cases eq : q = x
            · refine ⟨p, z, ⟨hp, ep⟩, ⟨hz, hzn⟩, hpa, by rw [hzf2, ← eq, hqb], Or.inr ⟨fun e => hab ?_, eq ▸ hpq, hxz⟩⟩
              rw [← hpa, ← hqb, eq, ← hzf2, e]
            · exact ⟨p, q, ⟨hp, ep⟩, ⟨hq, eq⟩, hpa, hqb, Or.inl hpq⟩
      · have hu : ∀ z, S z → f z = f x → z = x := fun z hz hzf => by
          by_cases e : z = x
          · exact e
          · exact absurd ⟨z, hz, e, hzf⟩ h1
        have hi : ∃ l', ewL k l' (flH H' (f x)) (fun j => S' j ∧ j ≠ f x) := by
          refine ew_mi (f := f) (flh_sy hy) ?_ ?_ ?_ hr
          · intro a ha
            obtain ⟨y, hy1, hya⟩ := hs a ha.1
            exact ⟨y, ⟨hy1, fun e => ha.2 (by rw [← hya, e])⟩, hya⟩
          · intro p q hp hq hpq hS C hC hcl
            exact hc p q hp.1 hq.1 hpq hS.1 C hC (fun a b ha hSa hSb hfa hfb hab => hcl a b ha ⟨hSa, fun e => hS.2 (by rw [← hfa, e])⟩ ⟨hSb, fun e => hS.2 (by rw [← hfb, e])⟩ hfa hfb (Or.inl hab))
          · intro a b ha hb hab hH
            cases hH with
            | inl hH =>
              obtain ⟨p, q, hp, hq, hpa, hqb, hpq⟩ := hg a b ha.1 hb.1 hab hH
              exact ⟨p, q, ⟨hp, fun e => ha.2 (by rw [← hpa, e])⟩, ⟨hq, fun e => hb.2 (by rw [← hqb, e])⟩, hpa, hqb, Or.inl hpq⟩
            | inr hH =>
              obtain ⟨p, x1, hp, hx1, hpa, hx1f, hpx⟩ := hg a (f x) ha.1 hf ha.2 hH.2.1
              obtain ⟨x2, q, hx2, hq, hx2f, hqb, hxq⟩ := hg (f x) b hf hb.1 (fun e => hb.2 e.symm) hH.2.2
              have e1 := hu x1 hx1 hx1f
              have e2 := hu x2 hx2 hx2f
              exact ⟨p, q, ⟨hp, fun e => ha.2 (by rw [← hpa, e])⟩, ⟨hq, fun e => hb.2 (by rw [← hqb, e])⟩, hpa, hqb, Or.inr ⟨fun e => hab (by rw [← hpa, ← hqb, e]), e1 ▸ hpx, e2 ▸ hxq⟩⟩
        obtain ⟨l', hl'⟩ := hi
        obtain ⟨m, hm, hmm⟩ := hk
        refine ⟨f x :: l', hf, ⟨m.map f, by rw [List.length_map]; exact hm, ?_⟩, hl'⟩
        intro b hb
        obtain ⟨p, q, hp, hq, hpa, hqb, hpq⟩ := hg (f x) b hf hb.1 (fun e => hb.2.1 e.symm) hb.2.2
        have ep := hu p hp hpa
        have hqx : q ≠ x := fun e => hb.2.1 (by rw [← hqb, e])
        exact List.mem_map.mpr ⟨q, hmm q ⟨hq, hqx, ep ▸ hpq⟩, hqb⟩
    · refine ew_mi (f := f) (flh_sy hy) ?_ ?_ ?_ hr
      · intro a ha
        obtain ⟨y, hy1, hya⟩ := hs a ha
        exact ⟨y, ⟨hy1, fun e => hf (by rw [← e, hya]; exact ha)⟩, hya⟩
      · intro p q hp hq hpq hS C hC hcl
        exact hc p q hp.1 hq.1 hpq hS C hC (fun a b ha hSa hSb hfa hfb hab => hcl a b ha ⟨hSa, fun e => hf (by rw [← e, hfa]; exact hS)⟩ ⟨hSb, fun e => hf (by rw [← e, hfb]; exact hS)⟩ hfa hfb (Or.inl hab))
      · intro a b ha hb hab hH
        obtain ⟨p, q, hp, hq, hpa, hqb, hpq⟩ := hg a b ha hb hab hH
        exact ⟨p, q, ⟨hp, fun e => hf (by rw [← e, hpa]; exact ha)⟩, ⟨hq, fun e => hf (by rw [← e, hqb]; exact hb)⟩, hpa, hqb, Or.inl hpq⟩
