/-- how many a set has -/
def cdB (U : Nat → Bool) : Nat → Nat
  | 0 => 0
  | k + 1 => cdB U k + (if U k = true then 1 else 0)
theorem cd_le {X Y : Nat → Bool} : ∀ {k : Nat}, (∀ i, i < k → X i = true → Y i = true) → cdB X k ≤ cdB Y k
  | 0, _ => Nat.le_refl _
  | k + 1, h => by
    have := cd_le (k := k) (fun i hi => h i (by omega))
    show cdB X k + (if X k = true then 1 else 0) ≤ cdB Y k + (if Y k = true then 1 else 0)
    by_cases c : X k = true
    · rw [if_pos c, if_pos (h k (by omega) c)]; omega
    · rw [if_neg c]; omega
theorem cd_rm {U : Nat → Bool} {i : Nat} : ∀ {k : Nat}, i < k → U i = true → cdB (bst U i false) k + 1 = cdB U k
  | 0, h, _ => absurd h (Nat.not_lt_zero _)
  | k + 1, h, hU => by
    show cdB (bst U i false) k + (if bst U i false k = true then 1 else 0) + 1 = cdB U k + (if U k = true then 1 else 0)
    by_cases e : i = k
    · subst e
      rw [if_pos hU, bst_s, if_neg (by decide)]
      have a1 : cdB (bst U i false) i ≤ cdB U i := cd_le (fun j hj g => by rw [bst_o (by omega)] at g; exact g)
      have a2 : cdB U i ≤ cdB (bst U i false) i := cd_le (fun j hj g => by rw [bst_o (by omega)]; exact g)
      omega
    · rw [bst_o (fun q => e q.symm)]
      have := cd_rm (U := U) (i := i) (k := k) (by omega) hU
      omega
theorem cd_0 {U : Nat → Bool} : ∀ {k : Nat}, cdB U k = 0 → ∀ i, i < k → ¬ U i = true
  | 0, _, i, hi => absurd hi (Nat.not_lt_zero _)
  | k + 1, h, i, hi => by
    have h1 : cdB U k + (if U k = true then 1 else 0) = 0 := h
    by_cases e : i = k
    · intro g
      rw [← e, if_pos g] at h1; omega
    · exact cd_0 (k := k) (by omega) i (by omega)
section KI
variable {w : Nat → Nat → Int} {N : Nat}
/-- two grounds at once -/
theorem k_I (hw : ∀ i j, w i j = w j i) : ∀ (c : Nat) {U : Nat → Bool} {g h : Nat → Int}, cdB U N ≤ c → kwF w N U (fun i => g i + h i) = usum U N (fun X => kwF w N X h * kwF w N (bdf U X) g) := by
  intro c
  induction c with
  | zero =>
    intro U g h hc
    have h0 := cd_0 (U := U) (k := N) (by omega)
    rw [k_e h0, ug_one (fun X hX ⟨i, hi⟩ => absurd (hX i hi).2 (h0 i (hX i hi).1)), k_e (fun _ _ => Bool.false_ne_true), k_e (fun i hi q => h0 i hi (bdf_t.mp q).1)]
    rfl
  | succ c ih =>
    intro U g h hc
    have key : ∀ k, k ≤ N → ∀ h : Nat → Int, (∀ i, k ≤ i → i < N → h i = 0) → kwF w N U (fun i => g i + h i) = usum U N (fun X => kwF w N X h * kwF w N (bdf U X) g) := by
      intro k
      induction k with
      | zero =>
        intro _ h h0
        rw [ug_one (fun X hX ⟨i, hi⟩ => by rw [k_0 hw (U := X) (g := h) (fun j hj _ => h0 j (Nat.zero_le _) hj) (hX i hi).1 hi, Int.zero_mul]), k_e (fun _ _ => Bool.false_ne_true), Int.one_mul]
        exact k_cg (fun i _ => (bdf_n rfl).symm) (fun i hi _ => by show g i + h i = g i; rw [h0 i (Nat.zero_le _) hi, Int.add_zero])
      | succ k ihk =>
        intro hk h h0
        have ih0 := ihk (by omega) (fup h k 0) (fun i h1 h2 => by
          by_cases e : i = k
          · rw [e]; exact if_pos rfl
          · rw [show fup h k 0 i = h i from if_neg e]; exact h0 i (by omega) h2)
        by_cases c1 : U k = true
        · have e0 : kwF w N U (fun i => g i + h i) = kwF w N U (fup (fun i => g i + h i) k 0) + (g k + h k) * kwF w N (bst U k false) (fun j => (g j + h j) + w k j) := k_af hw (by omega) c1
          have e1 : kwF w N U (fup (fun i => g i + h i) k 0) = kwF w N U (fun i => fup g k 0 i + fup h k 0 i) := k_cg (fun _ _ => rfl) (fun i _ _ => by
            by_cases e : i = k
            · rw [e, show fup (fun i => g i + h i) k 0 k = 0 from if_pos rfl, show fup g k 0 k = 0 from if_pos rfl, show fup h k 0 k = 0 from if_pos rfl]; rfl
            · rw [show fup (fun i => g i + h i) k 0 i = g i + h i from if_neg e, show fup g k 0 i = g i from if_neg e, show fup h k 0 i = h i from if_neg e])
          have e2 : kwF w N U (fun i => g i + fup h k 0 i) = kwF w N U (fup (fun i => g i + fup h k 0 i) k 0) + (g k + fup h k 0 k) * kwF w N (bst U k false) (fun j => (g j + fup h k 0 j) + w k j) := k_af hw (by omega) c1
          have e3 : kwF w N U (fup (fun i => g i + fup h k 0 i) k 0) = kwF w N U (fun i => fup g k 0 i + fup h k 0 i) := k_cg (fun _ _ => rfl) (fun i _ _ => by
            by_cases e : i = k
            · rw [e, show fup (fun i => g i + fup h k 0 i) k 0 k = 0 from if_pos rfl, show fup g k 0 k = 0 from if_pos rfl, show fup h k 0 k = 0 from if_pos rfl]; rfl
            · rw [show fup (fun i => g i + fup h k 0 i) k 0 i = g i + fup h k 0 i from if_neg e, show fup g k 0 i = g i from if_neg e])
          have e4 : kwF w N (bst U k false) (fun j => (g j + fup h k 0 j) + w k j) = kwF w N (bst U k false) (fun j => (g j + h j) + w k j) := k_cg (fun _ _ => rfl) (fun i _ hi => by
            by_cases e : i = k
            · rw [e, bst_s] at hi; exact absurd hi (by decide)
            · rw [show fup h k 0 i = h i from if_neg e])
          have e5 : kwF w N (bst U k false) (fun j => (g j + h j) + w k j) = usum (bst U k false) N (fun X => kwF w N X (fun j => h j + w k j) * kwF w N (bdf (bst U k false) X) g) := by
            rw [← ih (U := bst U k false) (g := g) (h := fun j => h j + w k j) (by have := cd_rm (U := U) (i := k) (k := N) (by omega) c1; omega)]
            exact k_cg (fun _ _ => rfl) (fun i _ _ => by show g i + h i + w k i = g i + (h i + w k i); omega)
          rw [e3, e4, show fup h k 0 k = 0 from if_pos rfl, Int.add_zero, e5] at e2
          rw [ih0] at e2
          -- the right side
          have r1 : usum U N (fun X => kwF w N X h * kwF w N (bdf U X) g) = usum U N (fun X => kwF w N X (fup h k 0) * kwF w N (bdf U X) g) + h k * usum (bst U k false) N (fun X => kwF w N X (fun j => h j + w k j) * kwF w N (bdf (bst U k false) X) g) := by
            have sp1 : usum U N (fun X => kwF w N X h * kwF w N (bdf U X) g) = usum (bst U k false) N (fun X => kwF w N X h * kwF w N (bdf U X) g) + usum (bst U k false) N (fun X => kwF w N (bst X k true) h * kwF w N (bdf U (bst X k true)) g) := ug_sp (by omega) c1
            have sp2 : usum U N (fun X => kwF w N X (fup h k 0) * kwF w N (bdf U X) g) = usum (bst U k false) N (fun X => kwF w N X (fup h k 0) * kwF w N (bdf U X) g) + usum (bst U k false) N (fun X => kwF w N (bst X k true) (fup h k 0) * kwF w N (bdf U (bst X k true)) g) := ug_sp (by omega) c1
            have s1 : usum (bst U k false) N (fun X => kwF w N X h * kwF w N (bdf U X) g) = usum (bst U k false) N (fun X => kwF w N X (fup h k 0) * kwF w N (bdf U X) g) := ug_cg (fun X hX => by
              rw [k_cg (w := w) (N := N) (U := X) (V := X) (g := h) (h := fup h k 0) (fun _ _ => rfl) (fun i _ hi => by
                have h9 := (hX i hi).2
                by_cases e : i = k
                · rw [e, bst_s] at h9; exact absurd h9 (by decide)
                · exact (if_neg e).symm)])
            have s2 : usum (bst U k false) N (fun X => kwF w N (bst X k true) h * kwF w N (bdf U (bst X k true)) g) = usum (bst U k false) N (fun X => kwF w N (bst X k true) (fup h k 0) * kwF w N (bdf U (bst X k true)) g) + h k * usum (bst U k false) N (fun X => kwF w N X (fun j => h j + w k j) * kwF w N (bdf (bst U k false) X) g) := by
              rw [← ug_lin]
              exact ug_cg (fun X hX => by
                have hXk : X k = false := by
                  cases q : X k
                  · rfl
                  · have h9 := (hX k q).2
                    rw [bst_s] at h9; exact absurd h9 (by decide)
                have f1 := k_af (w := w) hw (U := bst X k true) (g := h) (i := k) (N := N) (by omega) bst_s
                have f2 : kwF w N (bst (bst X k true) k false) (fun j => h j + w k j) = kwF w N X (fun j => h j + w k j) := k_cg (fun i _ => by
                  by_cases e : i = k
                  · rw [e, bst_s, hXk]
                  · rw [bst_o e, bst_o e]) (fun _ _ _ => rfl)
                have f3 : kwF w N (bdf U (bst X k true)) g = kwF w N (bdf (bst U k false) X) g := k_cg (fun i _ => by
                  by_cases e : i = k
                  · rw [e, bdf_y bst_s]; unfold bdf; rw [bst_s]; rfl
                  · unfold bdf; rw [bst_o e, bst_o e]) (fun _ _ _ => rfl)
                rw [f1, f2, f3, Int.add_mul, Int.mul_assoc])
            rw [sp1, sp2, s1, s2]; omega
          rw [e0, r1, e1, e5, Int.add_mul]
          omega
        · have z1 : kwF w N U (fun i => g i + h i) = kwF w N U (fun i => g i + fup h k 0 i) := k_cg (fun _ _ => rfl) (fun i _ hi => by
            rw [show fup h k 0 i = h i from if_neg (fun (e : i = k) => c1 (e ▸ hi))])
          rw [z1, ih0]
          exact ug_cg (fun X hX => by
            rw [k_cg (w := w) (N := N) (U := X) (V := X) (g := fup h k 0) (h := h) (fun _ _ => rfl) (fun i _ hi => if_neg (fun (e : i = k) => c1 (e ▸ (hX i hi).2)))])
    have e9 : usum U N (fun X => kwF w N X h * kwF w N (bdf U X) g) = usum U N (fun X => kwF w N X (fun i => if i < N then h i else 0) * kwF w N (bdf U X) g) := ug_cg (fun X _ => by
      rw [k_cg (w := w) (N := N) (U := X) (V := X) (g := h) (h := fun i => if i < N then h i else 0) (fun _ _ => rfl) (fun i hi _ => (if_pos hi).symm)])
    rw [e9, ← key N (Nat.le_refl N) (fun i => if i < N then h i else 0) (fun i h1 h2 => absurd h2 (by omega))]
    exact k_cg (fun _ _ => rfl) (fun i hi _ => by show g i + h i = g i + (if i < N then h i else 0); rw [if_pos hi])
/-- the ground of a set -/
def gsF (N : Nat) (g : Nat → Int) (B : Nat → Bool) : Int := sgm (fun i => if B i = true then g i else 0) N
theorem gs_f {g : Nat → Int} {B : Nat → Bool} {i : Nat} (hi : i < N) : gsF N g B = gsF N (fup g i 0) B + (if B i = true then g i else 0) := by
  have e : sgm (fun j => if B j = true then g j else 0) N = sgm (fun j => if B j = true then fup g i 0 j else 0) N + ((if B i = true then g i else 0) - (if B i = true then fup g i 0 i else 0)) := sgm_up (f := fun j => if B j = true then fup g i 0 j else 0) (g := fun j => if B j = true then g j else 0) (i := i) (n := N) (fun j _ hne => by
    show (if B j = true then g j else 0) = (if B j = true then fup g i 0 j else 0)
    rw [show fup g i 0 j = g j from if_neg hne]) hi
  have e3 : (if B i = true then fup g i 0 i else 0) = 0 := by
    rw [show fup g i 0 i = 0 from if_pos rfl]
    by_cases c : B i = true
    · rw [if_pos c]
    · rw [if_neg c]
  rw [e3, Int.sub_zero] at e
  exact e
/-- trees over a set -/
noncomputable def trQ (w : Nat → Nat → Int) (N : Nat) (B : Nat → Bool) : Int := kwF w N (bst B (Classical.epsilon (fun b => b < N ∧ B b = true)) false) (w (Classical.epsilon (fun b => b < N ∧ B b = true)))
theorem tr_q (hw : ∀ i j, w i j = w j i) {B : Nat → Bool} {b : Nat} (hb : b < N) (hB : B b = true) : trQ w N B = kwF w N (bst B b false) (w b) := by
  have h := Classical.epsilon_spec (p := fun b => b < N ∧ B b = true) ⟨b, hb, hB⟩
  exact k_rt hw h.1 hb h.2 hB
/-- the tree in which s is, and what is left -/
theorem k_st (hw : ∀ i j, w i j = w j i) : ∀ (c : Nat) {V : Nat → Bool} {s : Nat} {g : Nat → Int}, s < N → V s = false → cdB V N ≤ c → kwF w N (bst V s true) g = usum V N (fun X => trQ w N (bst X s true) * gsF N g (bst X s true) * kwF w N (bdf V X) g) := by
  intro c
  induction c using Nat.strongRecOn with
  | _ c ih =>
    intro V s g hs hVs hc
    have bdfX : ∀ {V X : Nat → Bool} {i : Nat}, (∀ j, X j = true → j < N ∧ bst V i false j = true) → X i = false := fun {V X i} hX => by
      cases q : X i
      · rfl
      · have h9 := (hX i q).2
        rw [bst_s] at h9; exact absurd h9 (by decide)
    have key : ∀ k, k ≤ N → ∀ g : Nat → Int, (∀ i, k ≤ i → i < N → g i = 0) → kwF w N (bst V s true) g = usum V N (fun X => trQ w N (bst X s true) * gsF N g (bst X s true) * kwF w N (bdf V X) g) := by
      intro k
      induction k with
      | zero =>
        intro _ g h0
        rw [k_0 hw (fun i hi _ => h0 i (Nat.zero_le _) hi) hs bst_s, ug_z (fun X _ => by
          rw [show gsF N g (bst X s true) = 0 by
            unfold gsF
            rw [sgm_cg (g := fun _ => 0) (fun i hi => by
              show (if bst X s true i = true then g i else 0) = 0
              rw [h0 i (Nat.zero_le _) hi]
              by_cases c : bst X s true i = true
              · rw [if_pos c]
              · rw [if_neg c]), sgm_0], Int.mul_zero, Int.zero_mul])]
      | succ k ihk =>
        intro hk g h0
        have hkN : k < N := by omega
        have ih0 := ihk (by omega) (fup g k 0) (fun i h1 h2 => by
          by_cases e : i = k
          · rw [e]; exact if_pos rfl
          · rw [show fup g k 0 i = g i from if_neg e]; exact h0 i (by omega) h2)
        by_cases es : k = s
        · subst es
          have e0 : kwF w N (bst V k true) g = kwF w N (bst V k true) (fup g k 0) + g k * kwF w N (bst (bst V k true) k false) (fun j => g j + w k j) := k_af hw hkN bst_s
          rw [e0, ih0]
          have a1 : kwF w N (bst (bst V k true) k false) (fun j => g j + w k j) = kwF w N V (fun j => g j + w k j) := k_cg (fun i _ => by
            by_cases e : i = k
            · rw [e, bst_s, hVs]
            · rw [bst_o e, bst_o e]) (fun _ _ _ => rfl)
          rw [a1, k_I hw N (U := V) (g := g) (h := w k) (by
            have := cd_le (X := V) (Y := fun _ => true) (k := N) (fun _ _ _ => rfl)
            have h2 : ∀ m, cdB (fun _ => true) m = m := fun m => by
              induction m with
              | zero => rfl
              | succ m ihm => show cdB (fun _ => true) m + (if true = true then 1 else 0) = m + 1; rw [ihm, if_pos rfl]
            rw [h2] at this; exact this), ← ug_lin]
          exact ug_cg (fun X hX => by
            have hXk : X k = false := by
              cases q : X k
              · rfl
              · have := (hX k q).2; rw [hVs] at this; exact absurd this (by decide)
            have t1 : trQ w N (bst X k true) = kwF w N X (w k) := by
              rw [tr_q hw hkN bst_s]
              exact k_cg (fun i _ => by
                by_cases e : i = k
                · rw [e, bst_s, hXk]
                · rw [bst_o e, bst_o e]) (fun _ _ _ => rfl)
            have t2 : kwF w N (bdf V X) (fup g k 0) = kwF w N (bdf V X) g := k_cg (fun _ _ => rfl) (fun i _ hi => if_neg (fun e => by
              rw [e] at hi
              have := (bdf_t.mp hi).1
              rw [hVs] at this; exact absurd this (by decide)))
            rw [gs_f (g := g) (B := bst X k true) hkN, if_pos bst_s, t1, t2, Int.mul_add, Int.add_mul, ← Int.mul_assoc (g k), Int.mul_comm (g k) (kwF w N X (w k))])
        · by_cases cV : V k = true
          · have hV1s : bst V k false s = false := by rw [bst_o (fun e => es e.symm)]; exact hVs
            have hcd := cd_rm (U := V) (i := k) (k := N) hkN cV
            have cN : ∀ X : Nat → Bool, cdB X N ≤ N := fun X => by
              have := cd_le (X := X) (Y := fun _ => true) (k := N) (fun _ _ _ => rfl)
              have h2 : ∀ m, cdB (fun _ => true) m = m := fun m => by
                induction m with
                | zero => rfl
                | succ m ihm => show cdB (fun _ => true) m + (if true = true then 1 else 0) = m + 1; rw [ihm, if_pos rfl]
              rw [h2] at this; exact this
            have e0 : kwF w N (bst V s true) g = kwF w N (bst V s true) (fup g k 0) + g k * kwF w N (bst (bst V s true) k false) (fun j => g j + w k j) := k_af hw hkN (by rw [bst_o es]; exact cV)
            -- what is added on the left
            have l1 : kwF w N (bst (bst V s true) k false) (fun j => g j + w k j) = usum (bst V k false) N (fun X => kwF w N X (w k) * kwF w N (bst (bdf (bst V k false) X) s true) g) + usum (bst V k false) N (fun X => kwF w N (bst X s true) (w k) * kwF w N (bdf (bst V k false) X) g) := by
              rw [bst_c es, k_I hw N (U := bst (bst V k false) s true) (g := g) (h := w k) (cN _), ug_sp (U := bst (bst V k false) s true) (i := s) hs bst_s]
              have hU1 : usum (bst (bst (bst V k false) s true) s false) N = usum (bst V k false) N := by
                funext φ
                exact ug_U (fun i _ => by
                  by_cases e : i = s
                  · rw [e, bst_s, hV1s]
                  · rw [bst_o e, bst_o e])
              rw [hU1]
              congr 1
              · exact ug_cg (fun X hX => by
                  have hXs : X s = false := by
                    cases q : X s
                    · rfl
                    · have := (hX s q).2; rw [hV1s] at this; exact absurd this (by decide)
                  rw [k_cg (w := w) (N := N) (U := bdf (bst (bst V k false) s true) X) (V := bst (bdf (bst V k false) X) s true) (g := g) (h := g) (fun i _ => by
                    by_cases e : i = s
                    · rw [e, bst_s, bdf_n hXs, bst_s]
                    · rw [bst_o e]; unfold bdf; rw [bst_o e]) (fun _ _ _ => rfl)])
              · exact ug_cg (fun X hX => by
                  rw [k_cg (w := w) (N := N) (U := bdf (bst (bst V k false) s true) (bst X s true)) (V := bdf (bst V k false) X) (g := g) (h := g) (fun i _ => by
                    by_cases e : i = s
                    · rw [e, bdf_y bst_s]; unfold bdf; rw [hV1s]; rfl
                    · unfold bdf; rw [bst_o e, bst_o e]) (fun _ _ _ => rfl)])
            have l2 : usum (bst V k false) N (fun X => kwF w N X (w k) * kwF w N (bst (bdf (bst V k false) X) s true) g) = usum (bst V k false) N (fun B => trQ w N (bst B s true) * gsF N g (bst B s true) * kwF w N (bdf (bst V k false) B) (fun j => g j + w k j)) := by
              have q1 : usum (bst V k false) N (fun X => kwF w N X (w k) * kwF w N (bst (bdf (bst V k false) X) s true) g) = usum (bst V k false) N (fun X => usum (bdf (bst V k false) X) N (fun B => kwF w N X (w k) * (trQ w N (bst B s true) * gsF N g (bst B s true) * kwF w N (bdf (bdf (bst V k false) X) B) g))) := ug_cg (fun X hX => by
                rw [ug_mul, ← ih (cdB (bdf (bst V k false) X) N) (by
                  have := cd_le (X := bdf (bst V k false) X) (Y := bst V k false) (k := N) (fun i _ hi => (bdf_t.mp hi).1)
                  omega) (V := bdf (bst V k false) X) (s := s) (g := g) hs (by
                    cases q : bdf (bst V k false) X s
                    · rfl
                    · have := (bdf_t.mp q).1; rw [hV1s] at this; exact absurd this (by decide)) (Nat.le_refl _)])
              have q2 : usum (bst V k false) N (fun B => trQ w N (bst B s true) * gsF N g (bst B s true) * kwF w N (bdf (bst V k false) B) (fun j => g j + w k j)) = usum (bst V k false) N (fun B => usum (bdf (bst V k false) B) N (fun X => kwF w N X (w k) * (trQ w N (bst B s true) * gsF N g (bst B s true) * kwF w N (bdf (bdf (bst V k false) X) B) g))) := ug_cg (fun B hB => by
                rw [k_I hw N (U := bdf (bst V k false) B) (g := g) (h := w k) (cN _), ← ug_mul]
                exact ug_cg (fun X _ => by
                  rw [k_cg (w := w) (N := N) (U := bdf (bdf (bst V k false) B) X) (V := bdf (bdf (bst V k false) X) B) (g := g) (h := g) (fun i _ => by
                    unfold bdf
                    cases bst V k false i <;> cases B i <;> cases X i <;> rfl) (fun _ _ _ => rfl), Int.mul_left_comm]))
              rw [q1, q2]
              exact ug_dj
            -- what is added on the right
            have r1 : usum V N (fun X => trQ w N (bst X s true) * gsF N g (bst X s true) * kwF w N (bdf V X) g) = usum V N (fun X => trQ w N (bst X s true) * gsF N (fup g k 0) (bst X s true) * kwF w N (bdf V X) (fup g k 0)) + g k * (usum (bst V k false) N (fun B => trQ w N (bst B s true) * gsF N g (bst B s true) * kwF w N (bdf (bst V k false) B) (fun j => g j + w k j)) + usum (bst V k false) N (fun X => kwF w N (bst X s true) (w k) * kwF w N (bdf (bst V k false) X) g)) := by
              have sp1 : usum V N (fun X => trQ w N (bst X s true) * gsF N g (bst X s true) * kwF w N (bdf V X) g) = usum (bst V k false) N (fun X => trQ w N (bst X s true) * gsF N g (bst X s true) * kwF w N (bdf V X) g) + usum (bst V k false) N (fun X => trQ w N (bst (bst X k true) s true) * gsF N g (bst (bst X k true) s true) * kwF w N (bdf V (bst X k true)) g) := ug_sp hkN cV
              have sp2 : usum V N (fun X => trQ w N (bst X s true) * gsF N (fup g k 0) (bst X s true) * kwF w N (bdf V X) (fup g k 0)) = usum (bst V k false) N (fun X => trQ w N (bst X s true) * gsF N (fup g k 0) (bst X s true) * kwF w N (bdf V X) (fup g k 0)) + usum (bst V k false) N (fun X => trQ w N (bst (bst X k true) s true) * gsF N (fup g k 0) (bst (bst X k true) s true) * kwF w N (bdf V (bst X k true)) (fup g k 0)) := ug_sp hkN cV
              have s1 : usum (bst V k false) N (fun X => trQ w N (bst X s true) * gsF N g (bst X s true) * kwF w N (bdf V X) g) = usum (bst V k false) N (fun X => trQ w N (bst X s true) * gsF N (fup g k 0) (bst X s true) * kwF w N (bdf V X) (fup g k 0)) + g k * usum (bst V k false) N (fun B => trQ w N (bst B s true) * gsF N g (bst B s true) * kwF w N (bdf (bst V k false) B) (fun j => g j + w k j)) := by
                rw [← ug_lin]
                exact ug_cg (fun X hX => by
                  have hXk := bdfX hX
                  have f0 : gsF N g (bst X s true) = gsF N (fup g k 0) (bst X s true) := by
                    rw [gs_f (g := g) (B := bst X s true) hkN, if_neg (by rw [bst_o es, hXk]; decide), Int.add_zero]
                  have f1 := k_af (w := w) hw (U := bdf V X) (g := g) (i := k) (N := N) hkN (by rw [bdf_n hXk]; exact cV)
                  have f2 : kwF w N (bst (bdf V X) k false) (fun j => g j + w k j) = kwF w N (bdf (bst V k false) X) (fun j => g j + w k j) := k_cg (fun i _ => by
                    by_cases e : i = k
                    · rw [e, bst_s]; unfold bdf; rw [bst_s]; rfl
                    · rw [bst_o e]; unfold bdf; rw [bst_o e]) (fun _ _ _ => rfl)
                  rw [f1, f2, ← f0, Int.mul_add, Int.mul_left_comm])
              have s2 : usum (bst V k false) N (fun X => trQ w N (bst (bst X k true) s true) * gsF N g (bst (bst X k true) s true) * kwF w N (bdf V (bst X k true)) g) = usum (bst V k false) N (fun X => trQ w N (bst (bst X k true) s true) * gsF N (fup g k 0) (bst (bst X k true) s true) * kwF w N (bdf V (bst X k true)) (fup g k 0)) + g k * usum (bst V k false) N (fun X => kwF w N (bst X s true) (w k) * kwF w N (bdf (bst V k false) X) g) := by
                rw [← ug_lin]
                exact ug_cg (fun X hX => by
                  have hXk := bdfX hX
                  have f0 : gsF N g (bst (bst X k true) s true) = gsF N (fup g k 0) (bst (bst X k true) s true) + g k := by
                    rw [gs_f (g := g) (B := bst (bst X k true) s true) hkN, if_pos (by rw [bst_o es, bst_s])]
                  have f1 : kwF w N (bdf V (bst X k true)) (fup g k 0) = kwF w N (bdf V (bst X k true)) g := k_cg (fun _ _ => rfl) (fun i _ hi => if_neg (fun e => by
                    rw [e, bdf_y bst_s] at hi; exact absurd hi (by decide)))
                  have f2 : kwF w N (bdf V (bst X k true)) g = kwF w N (bdf (bst V k false) X) g := k_cg (fun i _ => by
                    by_cases e : i = k
                    · rw [e, bdf_y bst_s]; unfold bdf; rw [bst_s]; rfl
                    · unfold bdf; rw [bst_o e, bst_o e]) (fun _ _ _ => rfl)
                  have f3 : trQ w N (bst (bst X k true) s true) = kwF w N (bst X s true) (w k) := by
                    rw [tr_q hw hkN (show bst (bst X k true) s true k = true by rw [bst_o es, bst_s])]
                    exact k_cg (fun i _ => by
                      by_cases e : i = k
                      · rw [e, bst_s, bst_o es, hXk]
                      · rw [bst_o e]
                        by_cases e1 : i = s
                        · rw [e1, bst_s, bst_s]
                        · rw [bst_o e1, bst_o e1, bst_o e]) (fun _ _ _ => rfl)
                  rw [f0, f1, Int.mul_add, Int.add_mul, f3, f2, Int.mul_comm (kwF w N (bst X s true) (w k)) (g k), Int.mul_assoc (g k)])
              rw [sp1, sp2, s1, s2, Int.mul_add]; omega
            rw [e0, ih0, r1, l1, l2]
          · have n1 : ¬ bst V s true k = true := by rw [bst_o es]; exact cV
            have z1 : kwF w N (bst V s true) g = kwF w N (bst V s true) (fup g k 0) := k_cg (fun _ _ => rfl) (fun i _ hi => (if_neg (fun (e : i = k) => n1 (e ▸ hi))).symm)
            rw [z1, ih0]
            exact ug_cg (fun X hX => by
              have hXk : X k = false := by
                cases q : X k
                · rfl
                · exact absurd (hX k q).2 cV
              have f0 : gsF N g (bst X s true) = gsF N (fup g k 0) (bst X s true) := by
                rw [gs_f (g := g) (B := bst X s true) hkN, if_neg (by rw [bst_o es, hXk]; decide), Int.add_zero]
              have f1 : kwF w N (bdf V X) (fup g k 0) = kwF w N (bdf V X) g := k_cg (fun _ _ => rfl) (fun i _ hi => if_neg (fun (e : i = k) => cV (e ▸ (bdf_t.mp hi).1)))
              rw [f0, f1])
    have e9 : usum V N (fun X => trQ w N (bst X s true) * gsF N g (bst X s true) * kwF w N (bdf V X) g) = usum V N (fun X => trQ w N (bst X s true) * gsF N (fun i => if i < N then g i else 0) (bst X s true) * kwF w N (bdf V X) (fun i => if i < N then g i else 0)) := ug_cg (fun X _ => by
      have f0 : gsF N g (bst X s true) = gsF N (fun i => if i < N then g i else 0) (bst X s true) := sgm_cg (fun i hi => by
        show (if bst X s true i = true then g i else 0) = (if bst X s true i = true then (if i < N then g i else 0) else 0)
        rw [if_pos hi])
      rw [f0, k_cg (w := w) (N := N) (U := bdf V X) (V := bdf V X) (g := g) (h := fun i => if i < N then g i else 0) (fun _ _ => rfl) (fun i hi _ => (if_pos hi).symm)])
    rw [e9, ← key N (Nat.le_refl N) (fun i => if i < N then g i else 0) (fun i h1 h2 => absurd h2 (by omega))]
    exact k_cg (fun _ _ => rfl) (fun i hi _ => (if_pos hi).symm)
end KI
