def prI (each : Int) (Wt By : Nat → Int) (k : Nat) : Int := if each = 0 then Wt (By k).toNat else 1
def prV (each : Int) (Wt By : Nat → Int) (k : Nat) : Int64 := if each = 0 then (iv (Wt (By k).toNat)).toInt64 else 1
theorem prV_i {each : Int} {Wt By : Nat → Int} {k : Nat} (h : -1000 ≤ Wt (By k).toNat ∧ Wt (By k).toNat ≤ 1000) : (prV each Wt By k).toInt = prI each Wt By k ∧ -1000 ≤ prI each Wt By k ∧ prI each Wt By k ≤ 1000 := by
  unfold prV prI
  split
  · rw [iv_long (by omega)]; omega
  · exact ⟨by decide, by omega, by omega⟩
def liP (n q : Nat) (s : Int) (Tl Hd p : Nat → Int) (S : Nat → Int) (Wo : Nat → Int64) (Lf : Nat → Int) (Bd : Int) : Prop := ∀ i : Nat, i < n → (S i = 0 ∧ Lf i = -1) ∨ (S i = 1 ∧ 0 ≤ Lf i ∧ Lf i ≤ Bd ∧ -1000 * Lf i ≤ (Wo i).toInt ∧ (Wo i).toInt ≤ 1000 * Lf i ∧ (((i : Int) = s ∧ Lf i = 0) ∨ ∃ k : Nat, k < q ∧ Hd k = (i : Int) ∧ S (Tl k).toNat = 1 ∧ ((Wo (Tl k).toNat).toInt + p k < (Wo i).toInt ∨ ((Wo (Tl k).toNat).toInt + p k = (Wo i).toInt ∧ Lf (Tl k).toNat + 1 ≤ Lf i))))
theorem li_mono {n q : Nat} {s : Int} {Tl Hd p S : Nat → Int} {Wo : Nat → Int64} {Lf : Nat → Int} {B C : Int} (h : liP n q s Tl Hd p S Wo Lf B) (hB : B ≤ C) : liP n q s Tl Hd p S Wo Lf C := by
  intro i hi
  rcases h i hi with h1 | ⟨h1, h2, h3, h4⟩
  · exact Or.inl h1
  · exact Or.inr ⟨h1, h2, by omega, h4⟩
theorem fuj_s (f : Nat → Int64) (i : Nat) (v : Int64) : fuj f i v i = v := by simp [fuj]
theorem fuj_o (f : Nat → Int64) {i j : Nat} (v : Int64) (h : j ≠ i) : fuj f i v j = f j := by simp [fuj, h]
def loP (Tl Hd p S : Nat → Int) (Wo : Nat → Int64) (Lf : Nat → Int) (k : Nat) : Prop := S (Tl k).toNat ≠ 0 ∧ (S (Hd k).toNat = 0 ∨ (Wo (Tl k).toNat).toInt + p k < (Wo (Hd k).toNat).toInt ∨ ((Wo (Tl k).toNat).toInt + p k = (Wo (Hd k).toNat).toInt ∧ Lf (Tl k).toNat + 1 < Lf (Hd k).toNat))
theorem li_up {n q : Nat} {s : Int} {Tl Hd p S : Nat → Int} {Wo : Nat → Int64} {Lf : Nat → Int} {B : Int} {k : Nat} {W1 : Int64} (h : liP n q s Tl Hd p S Wo Lf B) (hk : k < q) (ha : 0 ≤ Tl k ∧ Tl k < (n : Int)) (hb : 0 ≤ Hd k ∧ Hd k < (n : Int)) (hp : -1000 ≤ p k ∧ p k ≤ 1000) (hlo : loP Tl Hd p S Wo Lf k) (hW : W1.toInt = (Wo (Tl k).toNat).toInt + p k) : liP n q s Tl Hd p (fup S (Hd k).toNat 1) (fuj Wo (Hd k).toNat W1) (fup Lf (Hd k).toNat (Lf (Tl k).toNat + 1)) (B + 1) := by
  obtain ⟨g1, g2⟩ := hlo
  have hA : S (Tl k).toNat = 1 ∧ 0 ≤ Lf (Tl k).toNat ∧ Lf (Tl k).toNat ≤ B ∧ -1000 * Lf (Tl k).toNat ≤ (Wo (Tl k).toNat).toInt ∧ (Wo (Tl k).toNat).toInt ≤ 1000 * Lf (Tl k).toNat := by
    rcases h (Tl k).toNat (by omega) with h1 | ⟨h1, h2, h3, h4, h5, h6⟩
    · exact absurd h1.1 g1
    · exact ⟨h1, h2, h3, h4, h5⟩
  obtain ⟨a1, a2, a3, a4, a5⟩ := hA
  intro i hi
  by_cases e : i = (Hd k).toNat
  · subst e
    right
    rw [fup_s, fup_s, fuj_s]
    refine ⟨rfl, by omega, by omega, by omega, by omega, Or.inr ⟨k, hk, by omega, ?_, ?_⟩⟩
    · by_cases e2 : (Tl k).toNat = (Hd k).toNat
      · rw [e2, fup_s]
      · rw [fup_o _ _ e2]; exact a1
    · by_cases e2 : (Tl k).toNat = (Hd k).toNat
      · rw [e2, fuj_s]
        left
        rw [e2] at a1 g2 hW
        omega
      · rw [fuj_o _ _ e2, fup_o _ _ e2]
        right
        omega
  · rw [fup_o _ _ e, fup_o _ _ e, fuj_o _ _ e]
    rcases h i hi with h1 | ⟨h1, h2, h3, h4, h5, h6⟩
    · exact Or.inl h1
    · refine Or.inr ⟨h1, h2, by omega, h4, h5, ?_⟩
      rcases h6 with h6 | ⟨k0, q1, q2, q3, q4⟩
      · exact Or.inl h6
      · refine Or.inr ⟨k0, q1, q2, ?_, ?_⟩
        · by_cases e2 : (Tl k0).toNat = (Hd k).toNat
          · rw [e2, fup_s]
          · rw [fup_o _ _ e2]; exact q3
        · by_cases e2 : (Tl k0).toNat = (Hd k).toNat
          · rw [e2, fuj_s, fup_s]
            rw [e2] at q3 q4
            omega
          · rw [fuj_o _ _ e2, fup_o _ _ e2]; exact q4
def ctL (Lf : Nat → Int) (j : Int) : Nat → Nat
  | 0 => 0
  | n + 1 => ctL Lf j n + (if 0 ≤ Lf n ∧ Lf n ≤ j then 1 else 0)
theorem ctL_le (Lf : Nat → Int) (j : Int) : ∀ n, ctL Lf j n ≤ n := by
  intro n
  induction n with
  | zero => exact Nat.le_refl _
  | succ n ih => show ctL Lf j n + _ ≤ n + 1; split <;> omega
theorem ctL_mono (Lf : Nat → Int) (j : Int) : ∀ n, ctL Lf j n ≤ ctL Lf (j + 1) n := by
  intro n
  induction n with
  | zero => exact Nat.le_refl _
  | succ n ih =>
    show ctL Lf j n + (if 0 ≤ Lf n ∧ Lf n ≤ j then 1 else 0) ≤ ctL Lf (j + 1) n + (if 0 ≤ Lf n ∧ Lf n ≤ j + 1 then 1 else 0)
    by_cases h : 0 ≤ Lf n ∧ Lf n ≤ j
    · rw [if_pos h, if_pos (by omega)]; omega
    · rw [if_neg h]; omega
theorem ctL_lt {Lf : Nat → Int} {j : Int} (hj : -1 ≤ j) : ∀ n, (∃ i, i < n ∧ Lf i = j + 1) → ctL Lf j n + 1 ≤ ctL Lf (j + 1) n := by
  intro n
  induction n with
  | zero => rintro ⟨i, h, -⟩; omega
  | succ n ih =>
    rintro ⟨i, h1, h2⟩
    show ctL Lf j n + (if 0 ≤ Lf n ∧ Lf n ≤ j then 1 else 0) + 1 ≤ ctL Lf (j + 1) n + (if 0 ≤ Lf n ∧ Lf n ≤ j + 1 then 1 else 0)
    by_cases e : i = n
    · subst e
      have h3 := ctL_mono Lf j i
      rw [if_neg (by omega), if_pos (by omega)]; omega
    · have h3 := ih ⟨i, by omega, h2⟩
      by_cases h : 0 ≤ Lf n ∧ Lf n ≤ j
      · rw [if_pos h, if_pos (by omega)]; omega
      · rw [if_neg h]; omega
theorem ctL_ge {Lf : Nat → Int} {n : Nat} : ∀ L : Nat, (∀ j : Nat, j ≤ L → ∃ i, i < n ∧ Lf i = (j : Int)) → L + 1 ≤ ctL Lf (L : Int) n := by
  intro L
  induction L with
  | zero =>
    intro h
    have h1 := ctL_lt (Lf := Lf) (j := -1) (by omega) n (by simpa using h 0 (Nat.le_refl _))
    have e : (-1 : Int) + 1 = ((0 : Nat) : Int) := rfl
    rw [e] at h1
    omega
  | succ L ih =>
    intro h
    have h1 := ih (fun j hj => h j (by omega))
    have h2 := ctL_lt (Lf := Lf) (j := (L : Int)) (by omega) n (by obtain ⟨i, q1, q2⟩ := h (L + 1) (Nat.le_refl _); exact ⟨i, q1, by omega⟩)
    have e : (L : Int) + 1 = ((L + 1 : Nat) : Int) := by omega
    rw [e] at h2
    omega
theorem li_len {n q : Nat} {s : Int} {Tl Hd p S : Nat → Int} {Wo : Nat → Int64} {Lf : Nat → Int} {B : Int} {E : Nat → Prop} (h : liP n q s Tl Hd p S Wo Lf B) (hT : ∀ k, k < q → 0 ≤ Tl k ∧ Tl k < (n : Int)) (hst : ∀ k, k < q → ¬ E (Hd k).toNat → ¬ loP Tl Hd p S Wo Lf k) (hcl : ∀ k, k < q → E (Tl k).toNat → E (Hd k).toNat) : ∀ i : Nat, i < n → S i = 1 → ¬ E i → Lf i ≤ (n : Int) - 1 := by
  have chain : ∀ (L i : Nat), i < n → S i = 1 → ¬ E i → Lf i = (L : Int) → ∀ j : Nat, j ≤ L → ∃ i', i' < n ∧ Lf i' = (j : Int) := by
    intro L
    induction L with
    | zero => intro i h1 h2 h3 h4 j hj; exact ⟨i, h1, by rw [h4]; omega⟩
    | succ L ih =>
      intro i h1 h2 h3 h4 j hj
      by_cases e : j = L + 1
      · subst e; exact ⟨i, h1, h4⟩
      · rcases h i h1 with q1 | ⟨-, -, -, -, -, q6⟩
        · omega
        · rcases q6 with q6 | ⟨k, r1, r2, r3, r4⟩
          · omega
          · have e1 : (Hd k).toNat = i := by omega
            have h5 : ¬ E (Hd k).toNat := by rw [e1]; exact h3
            have h6 : ¬ E (Tl k).toNat := fun hE => h5 (hcl k r1 hE)
            have h7 := hst k r1 h5
            unfold loP at h7
            rw [e1] at h7
            have h8 : Lf (Tl k).toNat = (L : Int) := by
              rcases h (Tl k).toNat (by have := hT k r1; omega) with w1 | ⟨-, w2, -⟩
              · omega
              · by_cases w3 : Lf (Tl k).toNat + 1 < Lf i
                · exfalso
                  apply h7
                  refine ⟨by omega, ?_⟩
                  omega
                · rcases r4 with r4 | r4
                  · exfalso; apply h7; exact ⟨by omega, Or.inr (Or.inl r4)⟩
                  · omega
            exact ih (Tl k).toNat (by have := hT k r1; omega) r3 h6 h8 j (by omega)
  intro i h1 h2 h3
  rcases h i h1 with q1 | ⟨-, q2, -⟩
  · omega
  · have e : Lf i = ((Lf i).toNat : Int) := by omega
    have h5 := ctL_ge (Lf i).toNat (chain (Lf i).toNat i h1 h2 h3 e)
    have h6 := ctL_le Lf ((Lf i).toNat : Int) n
    omega
abbrev wyN (Γ : TG) (cI cJ : ClassId) (a n : Nat) (S : Nat → Int) (Wo : Nat → Int64) (Lf : Nat → Int) : TG := ov (ov (ov Γ (a + 1) (xI cI n S)) (a + 2) (xJ cJ n Wo)) (a + 3) (xI cI n Lf)
theorem li_S {n q : Nat} {s : Int} {Tl Hd p S : Nat → Int} {Wo : Nat → Int64} {Lf : Nat → Int} {B : Int} (h : liP n q s Tl Hd p S Wo Lf B) : Rfx n 0 2 S := by
  intro i hi
  rcases h i hi with h1 | ⟨h1, -⟩ <;> omega
theorem li_L {n q : Nat} {s : Int} {Tl Hd p S : Nat → Int} {Wo : Nat → Int64} {Lf : Nat → Int} {B : Int} (h : liP n q s Tl Hd p S Wo Lf B) (hB : B ≤ 100000) : Rfx n (-1) 100000 Lf := by
  intro i hi
  rcases h i hi with h1 | ⟨h1, h2, h3, -⟩ <;> omega
def bwP (n : Nat) (S : Nat → Int) (Wo : Nat → Int64) : Prop := ∀ i : Nat, i < n → S i ≠ 0 → -1000000000 ≤ (Wo i).toInt ∧ (Wo i).toInt ≤ 1000000000
theorem li_B {n q : Nat} {s : Int} {Tl Hd p S : Nat → Int} {Wo : Nat → Int64} {Lf : Nat → Int} {B : Int} (h : liP n q s Tl Hd p S Wo Lf B) (hB : B ≤ 100000) : bwP n S Wo := by
  intro i hi hs
  rcases h i hi with h1 | ⟨h1, h2, h3, h4, h5, -⟩
  · exact absurd h1.1 hs
  · omega
def pW (Γ : TG) (cI cJ : ClassId) (a gn n : Nat) (Q : (Nat → Int) → (Nat → Int64) → (Nat → Int) → Prop) : Option Value → MH → Nat → Prop := fun r hp1 n1 => n1 = n ∧ r = none ∧ ∃ (S : Nat → Int) (Wo : Nat → Int64) (Lf : Nat → Int), Tw (wyN Γ cI cJ a gn S Wo Lf) hp1 ∧ Q S Wo Lf
def fnP (Tl Hd p S : Nat → Int) (Wo : Nat → Int64) (Lf : Nat → Int) (f k : Int) : Prop := ∀ j : Nat, (j : Int) < k → loP Tl Hd p S Wo Lf j → Me f (Hd j).toNat
theorem fn_0 (Tl Hd p S : Nat → Int) (Wo : Nat → Int64) (Lf : Nat → Int) (f : Int) : fnP Tl Hd p S Wo Lf f 0 := fun j h => by omega
theorem fn_no {Tl Hd p S : Nat → Int} {Wo : Nat → Int64} {Lf : Nat → Int} {f k : Int} (h : fnP Tl Hd p S Wo Lf f k) (hn : ¬ loP Tl Hd p S Wo Lf k.toNat) : fnP Tl Hd p S Wo Lf f (k + 1) := by
  intro j hj hl
  by_cases e : j = k.toNat
  · subst e; exact absurd hl hn
  · exact h j (by omega) hl
theorem fn_yes {Tl Hd p S : Nat → Int} {Wo : Nat → Int64} {Lf : Nat → Int} {f f1 k : Int} (h : fnP Tl Hd p S Wo Lf f k) (hf : ∀ i, Me f1 i ↔ Me f i ∨ Me ((2 ^ (Hd k.toNat).toNat : Nat) : Int) i) : fnP Tl Hd p S Wo Lf f1 (k + 1) := by
  intro j hj hl
  by_cases e : j = k.toNat
  · subst e; exact (hf _).mpr (Or.inr ((Me_shl _ _).mpr rfl))
  · exact (hf _).mpr (Or.inl (h j (by omega) hl))
def meP (n : Nat) (E : Int) (S0 L0 S Lf : Nat → Int) (k : Int) : Prop := ∀ i : Nat, i < n → (((i : Int) < k ∧ Me E i) → S i = 2 ∧ Lf i = -1) ∧ (¬ ((i : Int) < k ∧ Me E i) → S i = S0 i ∧ Lf i = L0 i)
theorem me_0 (n : Nat) (E : Int) (S L : Nat → Int) : meP n E S L S L 0 := fun i _ => ⟨fun h => by omega, fun _ => ⟨rfl, rfl⟩⟩
theorem me_no {n : Nat} {E : Int} {S0 L0 S Lf : Nat → Int} {k : Int} (h : meP n E S0 L0 S Lf k) (hn : ¬ Me E k.toNat) : meP n E S0 L0 S Lf (k + 1) := by
  intro i hi
  obtain ⟨h1, h2⟩ := h i hi
  refine ⟨fun q => h1 ⟨?_, q.2⟩, fun q => h2 (fun r => q ⟨by omega, r.2⟩)⟩
  have e : i ≠ k.toNat := fun e => hn (e ▸ q.2)
  omega
theorem me_yes {n : Nat} {E : Int} {S0 L0 S Lf : Nat → Int} {k : Int} (h : meP n E S0 L0 S Lf k) (h0 : 0 ≤ k) (hy : Me E k.toNat) : meP n E S0 L0 (fup S k.toNat 2) (fup Lf k.toNat (-1)) (k + 1) := by
  intro i hi
  by_cases e : i = k.toNat
  · subst e
    rw [fup_s, fup_s]
    exact ⟨fun _ => ⟨rfl, rfl⟩, fun q => absurd ⟨by omega, hy⟩ q⟩
  · rw [fup_o _ _ e, fup_o _ _ e]
    obtain ⟨h1, h2⟩ := h i hi
    exact ⟨fun q => h1 ⟨by omega, q.2⟩, fun q => h2 (fun r => q ⟨by omega, r.2⟩)⟩
theorem me_rS {n : Nat} {E : Int} {S0 L0 S Lf : Nat → Int} {k : Int} (h : meP n E S0 L0 S Lf k) (h0 : Rfx n 0 2 S0) : Rfx n 0 2 S := by
  intro i hi
  obtain ⟨h1, h2⟩ := h i hi
  have h3 := h0 i hi
  by_cases q : (i : Int) < k ∧ Me E i
  · have := h1 q; omega
  · have := h2 q; omega
theorem me_end {n q : Nat} {s : Int} {Tl Hd p : Nat → Int} {Wo : Nat → Int64} {B E : Int} {S0 L0 S Lf : Nat → Int} {k : Int} (h : meP n E S0 L0 S Lf k) (hk : (n : Int) ≤ k) (hl : liP n q s Tl Hd p S0 Wo L0 B) (hn : 1 ≤ n) (hT : ∀ k, k < q → 0 ≤ Tl k ∧ Tl k < (n : Int)) (hst : ∀ k, k < q → ¬ Me E (Hd k).toNat → ¬ loP Tl Hd p S0 Wo L0 k) (hcl : ∀ k, k < q → Me E (Tl k).toNat → Me E (Hd k).toNat) : Rfx n (-1) ((n : Int) - 1) Lf := by
  intro i hi
  obtain ⟨h1, h2⟩ := h i hi
  by_cases q : Me E i
  · have := h1 ⟨by omega, q⟩; omega
  · have h3 := h2 (fun r => q r.2)
    rcases hl i hi with h4 | ⟨h4, h5, -⟩
    · omega
    · have := li_len (E := Me E) hl hT hst hcl i hi h4 q
      omega
theorem allN {n : Nat} (hn : n ≤ 16) (i : Nat) : Me (((2 ^ n : Nat) : Int) - 1) i ↔ i < n := by
  have h1 : 1 ≤ 2 ^ n := Nat.one_le_two_pow
  have e : (((2 ^ n : Nat) : Int) - 1).toNat = 2 ^ n - 1 := by omega
  unfold Me
  rw [e, Nat.testBit_two_pow_sub_one]
  simp
theorem pow_two_le {n : Nat} (h : 1 ≤ n) : (2 : Int) ≤ ((2 ^ n : Nat) : Int) := by
  have h1 : 2 ^ 1 ≤ 2 ^ n := Nat.pow_le_pow_right (by omega) h
  omega
theorem TyG.ov3 {Γ : TG} {cI cJ cZ : ClassId} {ga : Nat} {gF : Nat} {gT : Nat} {gW : Nat} {gC : Nat} {gTl : Nat} {gHd : Nat} {gBy : Nat} {gOu : Nat} {gIn : Nat} {gJo : Nat} {gn : Nat} {gm : Nat} {gq : Nat} {gdr : Int} {wa : Nat} {T1 T2 T3 : va_E → Prop} (hlt : ga < wa ∧ gTl < wa ∧ gHd < wa ∧ gBy < wa ∧ gW < wa ∧ gOu < wa ∧ gF < wa ∧ gT < wa ∧ gC < wa ∧ gIn < wa ∧ gJo < wa) (h : TyG Γ cI cJ cZ ga gF gT gW gC gTl gHd gBy gOu gIn gJo gn gm gq gdr) : TyG (ov (ov (ov Γ (wa + 1) T1) (wa + 2) T2) (wa + 3) T3) cI cJ cZ ga gF gT gW gC gTl gHd gBy gOu gIn gJo gn gm gq gdr := ⟨rd_ov (by omega) (rd_ov (by omega) (rd_ov (by omega) h.1)), rd_ov (by omega) (rd_ov (by omega) (rd_ov (by omega) h.2.1)), rd_ov (by omega) (rd_ov (by omega) (rd_ov (by omega) h.2.2.1)), rd_ov (by omega) (rd_ov (by omega) (rd_ov (by omega) h.2.2.2.1)), rd_ov (by omega) (rd_ov (by omega) (rd_ov (by omega) h.2.2.2.2.1)), rd_ov (by omega) (rd_ov (by omega) (rd_ov (by omega) h.2.2.2.2.2.1)), rd_ov (by omega) (rd_ov (by omega) (rd_ov (by omega) h.2.2.2.2.2.2.1)), rd_ov (by omega) (rd_ov (by omega) (rd_ov (by omega) h.2.2.2.2.2.2.2.1)), rd_ov (by omega) (rd_ov (by omega) (rd_ov (by omega) h.2.2.2.2.2.2.2.2.1)), rd_ov (by omega) (rd_ov (by omega) (rd_ov (by omega) h.2.2.2.2.2.2.2.2.2.1)), rd_ov (by omega) (rd_ov (by omega) (rd_ov (by omega) h.2.2.2.2.2.2.2.2.2.2.1)), h.2.2.2.2.2.2.2.2.2.2.2⟩
set_option maxHeartbeats 4000000 in
set_option maxRecDepth 100000 in
theorem t_X10_priceOfx {D : va_G} {cI cJ cZ cT : ClassId} {lo b L : Nat} {xs : Nat → Int32} {hp : MH} {n d : Nat} {Γ : TG} {ga : Nat} {gF : Nat} {gT : Nat} {gW : Nat} {gC : Nat} {gTl : Nat} {gHd : Nat} {gBy : Nat} {gOu : Nat} {gIn : Nat} {gJo : Nat} {gn : Nat} {gm : Nat} {gq : Nat} {gdr : Int} {Tl Hd By Wt : Nat → Int} {x1 x2 : Int} (hd0 : 0 ≤ d) (hg : TyG Γ cI cJ cZ ga gF gT gW gC gTl gHd gBy gOu gIn gJo gn gm gq gdr) (hxT : rd Γ gTl (xI cI gq Tl)) (hxH : rd Γ gHd (xI cI gq Hd)) (hxB : rd Γ gBy (xI cI gq By)) (hxW : rd Γ gW (xI cI gm Wt)) (hrT : Rfx gq 0 ((gn : Int) - 1) Tl) (hrH : Rfx gq 0 ((gn : Int) - 1) Hd) (hrB : Rfx gq 0 ((gm : Int) - 1) By) (hrW : Rfx gm (-1000) 1000 Wt) (ht : Tw Γ hp) (hx1 : 0 ≤ x1 ∧ x1 ≤ 1) (hx2 : 0 ≤ x2 ∧ x2 < (gq : Int)) : Mt (gG D cI cJ cZ cT lo b L xs) mX10_priceOf d 0 0 [.ref ga, .int (iv x1), .int (iv x2)] hp n (pJ Γ n (fun r => r = prV x1 Wt By (Int.toNat x2))) := by
  refine Mt.of rfl (Nat.le_of_ble_eq_true rfl) ?_
  refine Rn.pick (lv' := [(0, .ref ga), (1, .int (iv x1)), (2, .int (iv x2))]) [0, 1, 2] rfl ?_
  obtain ⟨hg_O, hg_from, hg_to, hg_weight, hg_cost, hg_tail, hg_head, hg_by, hg_out, hg_in, hg_joined, hg_b⟩ := id hg
  refine r_iload_n (pc := 0) dX10_priceOf_0 (i := 1) rfl rfl ?_
  refine t_if_eq (pc := 1) (tgt := 8) dX10_priceOf_1 (by decide) (by omega) (fun c1 => ?_) (fun c1 => ?_)
  · refine r_aload_n (pc := 8) dX10_priceOf_8 (i := 0) rfl rfl ?_
    refine t_getE (pc := 9) (.ref gW) ht hg_O fX10_61 dX10_priceOf_9 rfl ?_
    refine r_aload_n (pc := 12) dX10_priceOf_12 (i := 0) rfl rfl ?_
    refine t_getE (pc := 13) (.ref gBy) ht hg_O fX10_64 dX10_priceOf_13 rfl ?_
    refine r_iload_n (pc := 16) dX10_priceOf_16 (i := 2) rfl rfl ?_
    refine t_ialdX (pc := 17) (t0 := 0) ht hxB dX10_priceOf_17 rfl (by omega) (by omega) (fun b1 => ?_)
    have rb1 := (show Rfx gq 0 ((gm : Int) - 1) By by assumption) (Int.toNat x2) (by omega)
    refine t_ialdX (pc := 18) (t0 := 0) ht hxW dX10_priceOf_18 rfl (by omega) (by omega) (fun b2 => ?_)
    have rb2 := (show Rfx gm (-1000) 1000 Wt by assumption) (Int.toNat (By (Int.toNat x2))) (by omega)
    refine r_i2l (pc := 19) (v := (iv (Wt (Int.toNat (By (Int.toNat x2))))).toInt64) dX10_priceOf_19 rfl ?_
    exact r_lret (pc := 20) dX10_priceOf_20 rfl ⟨rfl, ht, _, rfl, by show _ = prV x1 Wt By (Int.toNat x2); unfold prV; first | rw [if_pos (show x1 = 0 by omega)] | rw [if_neg (show ¬ x1 = 0 by omega)]⟩
  · refine r_lconst (pc := 4) (v := 1) dX10_priceOf_4 (by decide) ?_
    have hk4 : (1 : Int64).toInt = 1 := by decide
    refine r_goto (pc := 5) (tgt := 20) dX10_priceOf_5 (by decide) ?_
    exact r_lret (pc := 20) dX10_priceOf_20 rfl ⟨rfl, ht, _, rfl, by show _ = prV x1 Wt By (Int.toNat x2); unfold prV; first | rw [if_pos (show x1 = 0 by omega)] | rw [if_neg (show ¬ x1 = 0 by omega)]⟩
set_option maxHeartbeats 4000000 in
set_option maxRecDepth 100000 in
theorem t_X10_lowersx {D : va_G} {cI cJ cZ cT : ClassId} {lo b L : Nat} {xs : Nat → Int32} {hp : MH} {n d : Nat} {Γ : TG} {ga : Nat} {gF : Nat} {gT : Nat} {gW : Nat} {gC : Nat} {gTl : Nat} {gHd : Nat} {gBy : Nat} {gOu : Nat} {gIn : Nat} {gJo : Nat} {gn : Nat} {gm : Nat} {gq : Nat} {gdr : Int} {Tl Hd By Wt S Lf : Nat → Int} {Wo : Nat → Int64} {wa : Nat} {x1 x2 : Int} (hd0 : 1 ≤ d) (hg : TyG Γ cI cJ cZ ga gF gT gW gC gTl gHd gBy gOu gIn gJo gn gm gq gdr) (hxT : rd Γ gTl (xI cI gq Tl)) (hxH : rd Γ gHd (xI cI gq Hd)) (hxB : rd Γ gBy (xI cI gq By)) (hxW : rd Γ gW (xI cI gm Wt)) (hrT : Rfx gq 0 ((gn : Int) - 1) Tl) (hrH : Rfx gq 0 ((gn : Int) - 1) Hd) (hrB : Rfx gq 0 ((gm : Int) - 1) By) (hrW : Rfx gm (-1000) 1000 Wt) (hwO : rd Γ wa (tO 9 [fE (.int (iv (gn : Int))), fE (.ref (wa + 1)), fE (.ref (wa + 2)), fE (.ref (wa + 3)), fE (.ref (wa + 4)), fE (.ref (wa + 5))])) (hS : rd Γ (wa + 1) (xI cI gn S)) (hWo : rd Γ (wa + 2) (xJ cJ gn Wo)) (hL : rd Γ (wa + 3) (xI cI gn Lf)) (hRS : Rfx gn 0 2 S) (hRL : Rfx gn (-1) 100000 Lf) (hbw : bwP gn S Wo) (ht : Tw Γ hp) (hx1 : 0 ≤ x1 ∧ x1 ≤ 1) (hx2 : 0 ≤ x2 ∧ x2 < (gq : Int)) : Mt (gG D cI cJ cZ cT lo b L xs) mX10_lowers d 0 0 [.ref wa, .ref ga, .int (iv x1), .int (iv x2)] hp n (pI Γ n (fun r => (0 ≤ r ∧ r ≤ 1) ∧ (r = 1 ↔ loP Tl Hd (prI x1 Wt By) S Wo Lf (Int.toNat x2)))) := by
  refine Mt.of rfl (Nat.le_of_ble_eq_true rfl) ?_
  refine Rn.pick (lv' := [(0, .ref wa), (1, .ref ga), (2, .int (iv x1)), (3, .int (iv x2))]) [0, 1, 2, 3] rfl ?_
  obtain ⟨hg_O, hg_from, hg_to, hg_weight, hg_cost, hg_tail, hg_head, hg_by, hg_out, hg_in, hg_joined, hg_b⟩ := id hg
  refine r_aload_n (pc := 0) dX10_lowers_0 (i := 1) rfl rfl ?_
  refine t_getE (pc := 1) (.ref gTl) ht hg_O fX10_67 dX10_lowers_1 rfl ?_
  refine r_iload_n (pc := 4) dX10_lowers_4 (i := 3) rfl rfl ?_
  refine t_ialdX (pc := 5) (t0 := 0) ht hxT dX10_lowers_5 rfl (by omega) (by omega) (fun b1 => ?_)
  have rb1 := (show Rfx gq 0 ((gn : Int) - 1) Tl by assumption) (Int.toNat x2) (by omega)
  refine r_istore (pc := 6) (lv' := [(4, .int (iv (Tl (Int.toNat x2)))), (0, .ref wa), (1, .ref ga), (2, .int (iv x1)), (3, .int (iv x2))]) dX10_lowers_6 (by decide) rfl ?_
  refine r_aload_n (pc := 8) dX10_lowers_8 (i := 1) rfl rfl ?_
  refine t_getE (pc := 9) (.ref gHd) ht hg_O fX10_70 dX10_lowers_9 rfl ?_
  refine r_iload_n (pc := 12) dX10_lowers_12 (i := 3) rfl rfl ?_
  refine t_ialdX (pc := 13) (t0 := 0) ht hxH dX10_lowers_13 rfl (by omega) (by omega) (fun b2 => ?_)
  have rb2 := (show Rfx gq 0 ((gn : Int) - 1) Hd by assumption) (Int.toNat x2) (by omega)
  refine r_istore (pc := 14) (lv' := [(5, .int (iv (Hd (Int.toNat x2)))), (4, .int (iv (Tl (Int.toNat x2)))), (0, .ref wa), (1, .ref ga), (2, .int (iv x1)), (3, .int (iv x2))]) dX10_lowers_14 (by decide) rfl ?_
  refine r_aload_n (pc := 16) dX10_lowers_16 (i := 0) rfl rfl ?_
  refine t_getE (pc := 17) (.ref (wa + 1)) ht hwO fX10_18 dX10_lowers_17 rfl ?_
  refine r_iload (pc := 20) dX10_lowers_20 rfl ?_
  refine t_ialdX (pc := 22) (t0 := 0) ht hS dX10_lowers_22 rfl (by omega) (by omega) (fun b3 => ?_)
  have rb3 := (show Rfx gn 0 2 S by assumption) (Int.toNat (Tl (Int.toNat x2))) (by omega)
  refine t_if_ne (pc := 23) (tgt := 28) dX10_lowers_23 (by decide) (by omega) (fun c23 => ?_) (fun c23 => ?_)
  · refine r_aload_n (pc := 28) dX10_lowers_28 (i := 0) rfl rfl ?_
    refine t_getE (pc := 29) (.ref (wa + 2)) ht hwO fX10_22 dX10_lowers_29 rfl ?_
    refine r_iload (pc := 32) dX10_lowers_32 rfl ?_
    refine t_laldX (pc := 34) (t0 := 1) ht hWo dX10_lowers_34 rfl (by omega) (by omega) ?_
    refine r_aload_n (pc := 35) dX10_lowers_35 (i := 1) rfl rfl ?_
    refine r_iload_n (pc := 36) dX10_lowers_36 (i := 2) rfl rfl ?_
    refine r_iload_n (pc := 37) dX10_lowers_37 (i := 3) rfl rfl ?_
    refine t_callSJ (pc := 38) (as := [.ref ga, .int (iv x1), .int (iv x2)]) (st := [.long (Wo (Int.toNat (Tl (Int.toNat x2))))]) kX10_73 dX10_lowers_38 (t_X10_priceOfx (d := d - 1) (x1 := x1) (x2 := x2) (by omega) hg hxT hxH hxB hxW hrT hrH hrB hrW ht (by omega) (by omega)) rfl (by omega) (Nat.le_of_ble_eq_true rfl) rfl (fun hp5 y4 ht6 by4 => ?_)
    have ey4 : y4 = prV x1 Wt By (Int.toNat x2) := by4
    subst ey4
    have rBy4 := hrB (Int.toNat x2) (by omega)
    obtain ⟨py41, py42, py43⟩ := prV_i (each := x1) (Wt := Wt) (By := By) (k := Int.toNat x2) (hrW _ (by omega))
    refine r_ladd (pc := 41) (v := (Wo (Int.toNat (Tl (Int.toNat x2)))) + (prV x1 Wt By (Int.toNat x2))) dX10_lowers_41 rfl ?_
    have hbw9 := hbw (Int.toNat (Tl (Int.toNat x2))) (by omega) (by omega)
    have hla9 := l_add (x := Wo (Int.toNat (Tl (Int.toNat x2)))) (y := prV x1 Wt By (Int.toNat x2)) (by omega)
    refine r_lstore (pc := 42) (lv' := [(6, .long ((Wo (Int.toNat (Tl (Int.toNat x2)))) + (prV x1 Wt By (Int.toNat x2)))), (5, .int (iv (Hd (Int.toNat x2)))), (4, .int (iv (Tl (Int.toNat x2)))), (0, .ref wa), (1, .ref ga), (2, .int (iv x1)), (3, .int (iv x2))]) dX10_lowers_42 (by decide) rfl ?_
    refine r_aload_n (pc := 44) dX10_lowers_44 (i := 0) rfl rfl ?_
    refine t_getE (pc := 45) (.ref (wa + 1)) ht6 hwO fX10_18 dX10_lowers_45 rfl ?_
    refine r_iload (pc := 48) dX10_lowers_48 rfl ?_
    refine t_ialdX (pc := 50) (t0 := 0) ht6 hS dX10_lowers_50 rfl (by omega) (by omega) (fun b7 => ?_)
    have rb7 := (show Rfx gn 0 2 S by assumption) (Int.toNat (Hd (Int.toNat x2))) (by omega)
    refine t_if_eq (pc := 51) (tgt := 99) dX10_lowers_51 (by decide) (by omega) (fun c51 => ?_) (fun c51 => ?_)
    · refine r_iconst (pc := 99) (v := iv 1) dX10_lowers_99 (by decide) ?_
      refine r_goto (pc := 100) (tgt := 104) dX10_lowers_100 (by decide) ?_
      exact r_zret (pc := 104) dX10_lowers_104 rfl (iv_nar (by omega)) ⟨rfl, ht6, _, rfl, by omega, by unfold loP; omega⟩
    · refine r_lload (pc := 54) dX10_lowers_54 rfl ?_
      refine r_aload_n (pc := 56) dX10_lowers_56 (i := 0) rfl rfl ?_
      refine t_getE (pc := 57) (.ref (wa + 2)) ht6 hwO fX10_22 dX10_lowers_57 rfl ?_
      refine r_iload (pc := 60) dX10_lowers_60 rfl ?_
      refine t_laldX (pc := 62) (t0 := 1) ht6 hWo dX10_lowers_62 rfl (by omega) (by omega) ?_
      refine r_lcmp (pc := 63) dX10_lowers_63 ?_
      refine t_lif_lt (pc := 64) (tgt := 99) dX10_lowers_64 (by decide) (fun c64 => ?_) (fun c64 => ?_)
      · refine r_iconst (pc := 99) (v := iv 1) dX10_lowers_99 (by decide) ?_
        refine r_goto (pc := 100) (tgt := 104) dX10_lowers_100 (by decide) ?_
        exact r_zret (pc := 104) dX10_lowers_104 rfl (iv_nar (by omega)) ⟨rfl, ht6, _, rfl, by omega, by unfold loP; omega⟩
      · refine r_lload (pc := 67) dX10_lowers_67 rfl ?_
        refine r_aload_n (pc := 69) dX10_lowers_69 (i := 0) rfl rfl ?_
        refine t_getE (pc := 70) (.ref (wa + 2)) ht6 hwO fX10_22 dX10_lowers_70 rfl ?_
        refine r_iload (pc := 73) dX10_lowers_73 rfl ?_
        refine t_laldX (pc := 75) (t0 := 1) ht6 hWo dX10_lowers_75 rfl (by omega) (by omega) ?_
        refine r_lcmp (pc := 76) dX10_lowers_76 ?_
        refine t_lif_ne (pc := 77) (tgt := 103) dX10_lowers_77 (by decide) (fun c77 => ?_) (fun c77 => ?_)
        · refine r_iconst (pc := 103) (v := iv 0) dX10_lowers_103 (by decide) ?_
          exact r_zret (pc := 104) dX10_lowers_104 rfl (iv_nar (by omega)) ⟨rfl, ht6, _, rfl, by omega, by unfold loP; omega⟩
        · refine r_aload_n (pc := 80) dX10_lowers_80 (i := 0) rfl rfl ?_
          refine t_getE (pc := 81) (.ref (wa + 3)) ht6 hwO fX10_26 dX10_lowers_81 rfl ?_
          refine r_iload (pc := 84) dX10_lowers_84 rfl ?_
          refine t_ialdX (pc := 86) (t0 := 0) ht6 hL dX10_lowers_86 rfl (by omega) (by omega) (fun b8 => ?_)
          have rb8 := (show Rfx gn (-1) 100000 Lf by assumption) (Int.toNat (Tl (Int.toNat x2))) (by omega)
          refine r_iconst (pc := 87) (v := iv 1) dX10_lowers_87 (by decide) ?_
          refine r_iadd (pc := 88) (v := iv ((Lf (Int.toNat (Tl (Int.toNat x2)))) + 1)) dX10_lowers_88 (iv_add _ _) ?_
          refine r_aload_n (pc := 89) dX10_lowers_89 (i := 0) rfl rfl ?_
          refine t_getE (pc := 90) (.ref (wa + 3)) ht6 hwO fX10_26 dX10_lowers_90 rfl ?_
          refine r_iload (pc := 93) dX10_lowers_93 rfl ?_
          refine t_ialdX (pc := 95) (t0 := 0) ht6 hL dX10_lowers_95 rfl (by omega) (by omega) (fun b9 => ?_)
          have rb9 := (show Rfx gn (-1) 100000 Lf by assumption) (Int.toNat (Hd (Int.toNat x2))) (by omega)
          refine t_icmp_ge (pc := 96) (tgt := 103) dX10_lowers_96 (by decide) (by omega) (by omega) (fun c96 => ?_) (fun c96 => ?_)
          · refine r_iconst (pc := 103) (v := iv 0) dX10_lowers_103 (by decide) ?_
            exact r_zret (pc := 104) dX10_lowers_104 rfl (iv_nar (by omega)) ⟨rfl, ht6, _, rfl, by omega, by unfold loP; omega⟩
          · refine r_iconst (pc := 99) (v := iv 1) dX10_lowers_99 (by decide) ?_
            refine r_goto (pc := 100) (tgt := 104) dX10_lowers_100 (by decide) ?_
            exact r_zret (pc := 104) dX10_lowers_104 rfl (iv_nar (by omega)) ⟨rfl, ht6, _, rfl, by omega, by unfold loP; omega⟩
  · refine r_iconst (pc := 26) (v := iv 0) dX10_lowers_26 (by decide) ?_
    exact r_zret (pc := 27) dX10_lowers_27 rfl (iv_nar (by omega)) ⟨rfl, ht, _, rfl, by omega, by unfold loP; omega⟩
set_option maxHeartbeats 4000000 in
set_option maxRecDepth 100000 in
theorem t_X10_lowerAllx {D : va_G} {cI cJ cZ cT : ClassId} {lo b L : Nat} {xs : Nat → Int32} {hp : MH} {n d : Nat} {Γ : TG} {ga : Nat} {gF : Nat} {gT : Nat} {gW : Nat} {gC : Nat} {gTl : Nat} {gHd : Nat} {gBy : Nat} {gOu : Nat} {gIn : Nat} {gJo : Nat} {gn : Nat} {gm : Nat} {gq : Nat} {gdr : Int} {Tl Hd By Wt S Lf : Nat → Int} {Wo : Nat → Int64} {wa : Nat} {x1 s : Int} (hd0 : 2 ≤ d) (hg : TyG Γ cI cJ cZ ga gF gT gW gC gTl gHd gBy gOu gIn gJo gn gm gq gdr) (hxT : rd Γ gTl (xI cI gq Tl)) (hxH : rd Γ gHd (xI cI gq Hd)) (hxB : rd Γ gBy (xI cI gq By)) (hxW : rd Γ gW (xI cI gm Wt)) (hrT : Rfx gq 0 ((gn : Int) - 1) Tl) (hrH : Rfx gq 0 ((gn : Int) - 1) Hd) (hrB : Rfx gq 0 ((gm : Int) - 1) By) (hrW : Rfx gm (-1000) 1000 Wt) (hwO : rd Γ wa (tO 9 [fE (.int (iv (gn : Int))), fE (.ref (wa + 1)), fE (.ref (wa + 2)), fE (.ref (wa + 3)), fE (.ref (wa + 4)), fE (.ref (wa + 5))])) (hlt : ga < wa ∧ gTl < wa ∧ gHd < wa ∧ gBy < wa ∧ gW < wa ∧ gOu < wa ∧ gF < wa ∧ gT < wa ∧ gC < wa ∧ gIn < wa ∧ gJo < wa) (hli : liP gn gq s Tl Hd (prI x1 Wt By) S Wo Lf 0) (ht : Tw (wyN Γ cI cJ wa gn S Wo Lf) hp) (hx1 : 0 ≤ x1 ∧ x1 ≤ 1) : Mt (gG D cI cJ cZ cT lo b L xs) mX10_lowerAll d 0 0 [.ref wa, .ref ga, .int (iv x1)] hp n (pW Γ cI cJ wa gn n (fun S Wo Lf => liP gn gq s Tl Hd (prI x1 Wt By) S Wo Lf 2000)) := by
  refine Mt.of rfl (Nat.le_of_ble_eq_true rfl) ?_
  refine Rn.pick (lv' := [(0, .ref wa), (1, .ref ga), (2, .int (iv x1))]) [0, 1, 2] rfl ?_
  obtain ⟨hg_O, hg_from, hg_to, hg_weight, hg_cost, hg_tail, hg_head, hg_by, hg_out, hg_in, hg_joined, hg_b⟩ := id hg
  have hS0 := li_S hli
  have hL0 := li_L hli (by omega)
  refine r_iconst (pc := 0) (v := iv 1) dX10_lowerAll_0 (by decide) ?_
  refine r_istore_n (pc := 1) (lv' := [(3, .int (iv 1)), (0, .ref wa), (1, .ref ga), (2, .int (iv x1))]) dX10_lowerAll_1 (i := 3) rfl (by decide) rfl ?_
  refine r_iconst (pc := 2) (v := iv 1) dX10_lowerAll_2 (by decide) ?_
  refine r_istore (pc := 3) (lv' := [(4, .int (iv 1)), (3, .int (iv 1)), (0, .ref wa), (1, .ref ga), (2, .int (iv x1))]) dX10_lowerAll_3 (by decide) rfl ?_
  have B5 : ∀ k : Nat, ∀ S5 : Nat → Int, ∀ Wo5 : Nat → Int64, ∀ Lf5 : Nat → Int, ∀ hp5 : MH, Tw (ov (ov (ov Γ (wa + 1) (xI cI gn S5)) (wa + 2) (xJ cJ gn Wo5)) (wa + 3) (xI cI gn Lf5)) hp5 → ∀  (v5_3 : Int) (v5_4 : Int), 0 ≤ v5_3 ∧ v5_3 ≤ 1 ∧ 1 ≤ v5_4 ∧ v5_4 ≤ 16 ∧ liP gn gq s Tl Hd (prI x1 Wt By) S5 Wo5 Lf5 (120 * (v5_4 - 1)) ∧ Rfx gn 0 2 S5 ∧ Rfx gn (-1) 100000 Lf5 → 16 - v5_4 ≤ (k : Int) → Rn (gG D cI cJ cZ cT lo b L xs) mX10_lowerAll d 5 [(0, .ref wa), (1, .ref ga), (2, .int (iv x1)), (3, .int (iv v5_3)), (4, .int (iv v5_4))] [] hp5 n 0 0 (pW Γ cI cJ wa gn n (fun S Wo Lf => liP gn gq s Tl Hd (prI x1 Wt By) S Wo Lf 2000)) := by
    refine lpS _ ?_
    intro k5 ih5 S5 Wo5 Lf5 hp5 ht5 v5_3 v5_4 hf5 hm5
    obtain ⟨hf5_0, hf5_1, hf5_2, hf5_3, ha5_4, ha5_5, ha5_6⟩ := hf5
    refine r_iload (pc := 5) dX10_lowerAll_5 rfl ?_
    refine r_aload_n (pc := 7) dX10_lowerAll_7 (i := 0) rfl rfl ?_
    refine t_getE (pc := 8) (.int (iv (gn : Int))) ht5 (rd_ov (by omega) (rd_ov (by omega) (rd_ov (by omega) hwO))) fX10_15 dX10_lowerAll_8 rfl ?_
    have B121 : ∀ hp121 : MH, Tw (ov (ov (ov Γ (wa + 1) (xI cI gn S5)) (wa + 2) (xJ cJ gn Wo5)) (wa + 3) (xI cI gn Lf5)) hp121 → True → Rn (gG D cI cJ cZ cT lo b L xs) mX10_lowerAll d 121 [] [] hp121 n 0 0 (pW Γ cI cJ wa gn n (fun S Wo Lf => liP gn gq s Tl Hd (prI x1 Wt By) S Wo Lf 2000)) := by
      intro hp121 ht121 hf121
      exact r_vret (pc := 121) dX10_lowerAll_121 rfl ⟨rfl, rfl, S5, Wo5, Lf5, ht121, li_mono (by assumption) (by omega)⟩
    refine t_icmp_ge (pc := 11) (tgt := 121) dX10_lowerAll_11 (by decide) (by omega) (by omega) (fun c11 => ?_) (fun c11 => ?_)
    · refine Rn.pick (lv' := []) [] rfl ?_
      exact B121 _ ht5 trivial
    · refine r_iload_n (pc := 14) dX10_lowerAll_14 (i := 3) rfl rfl ?_
      refine t_if_eq (pc := 15) (tgt := 121) dX10_lowerAll_15 (by decide) (by omega) (fun c15 => ?_) (fun c15 => ?_)
      · refine Rn.pick (lv' := []) [] rfl ?_
        exact B121 _ ht5 trivial
      · refine r_iconst (pc := 18) (v := iv 0) dX10_lowerAll_18 (by decide) ?_
        refine r_istore_n (pc := 19) (lv' := [(3, .int (iv 0)), (0, .ref wa), (1, .ref ga), (2, .int (iv x1)), (4, .int (iv v5_4))]) dX10_lowerAll_19 (i := 3) rfl (by decide) rfl ?_
        refine r_iconst (pc := 20) (v := iv 0) dX10_lowerAll_20 (by decide) ?_
        refine r_istore (pc := 21) (lv' := [(5, .int (iv 0)), (3, .int (iv 0)), (0, .ref wa), (1, .ref ga), (2, .int (iv x1)), (4, .int (iv v5_4))]) dX10_lowerAll_21 (by decide) rfl ?_
        have B23 : ∀ k : Nat, ∀ S23 : Nat → Int, ∀ Wo23 : Nat → Int64, ∀ Lf23 : Nat → Int, ∀ hp23 : MH, Tw (ov (ov (ov Γ (wa + 1) (xI cI gn S23)) (wa + 2) (xJ cJ gn Wo23)) (wa + 3) (xI cI gn Lf23)) hp23 → ∀  (v23_3 : Int) (v23_5 : Int), 0 ≤ v23_3 ∧ v23_3 ≤ 1 ∧ 0 ≤ v23_5 ∧ v23_5 ≤ 120 ∧ liP gn gq s Tl Hd (prI x1 Wt By) S23 Wo23 Lf23 (120 * (v5_4 - 1) + v23_5) ∧ Rfx gn 0 2 S23 ∧ Rfx gn (-1) 100000 Lf23 → 120 - v23_5 ≤ (k : Int) → Rn (gG D cI cJ cZ cT lo b L xs) mX10_lowerAll d 23 [(0, .ref wa), (1, .ref ga), (2, .int (iv x1)), (3, .int (iv v23_3)), (4, .int (iv v5_4)), (5, .int (iv v23_5))] [] hp23 n 0 0 (pW Γ cI cJ wa gn n (fun S Wo Lf => liP gn gq s Tl Hd (prI x1 Wt By) S Wo Lf 2000)) := by
          refine lpS _ ?_
          intro k23 ih23 S23 Wo23 Lf23 hp23 ht23 v23_3 v23_5 hf23 hm23
          obtain ⟨hf23_0, hf23_1, hf23_2, hf23_3, ha23_4, ha23_5, ha23_6⟩ := hf23
          refine r_iload (pc := 23) dX10_lowerAll_23 rfl ?_
          refine r_aload_n (pc := 25) dX10_lowerAll_25 (i := 1) rfl rfl ?_
          refine t_getE (pc := 26) (.int (iv (gq : Int))) ht23 (rd_ov (by omega) (rd_ov (by omega) (rd_ov (by omega) hg_O))) fX10_77 dX10_lowerAll_26 rfl ?_
          refine t_icmp_ge (pc := 29) (tgt := 115) dX10_lowerAll_29 (by decide) (by omega) (by omega) (fun c29 => ?_) (fun c29 => ?_)
          · refine r_iinc (pc := 115) (v := iv (v5_4 + 1)) (lv' := [(4, .int (iv (v5_4 + 1))), (0, .ref wa), (1, .ref ga), (2, .int (iv x1)), (3, .int (iv v23_3)), (5, .int (iv v23_5))]) dX10_lowerAll_115 rfl (iv_add _ _) (by decide) rfl ?_
            refine r_goto (pc := 118) (tgt := 5) dX10_lowerAll_118 (by decide) ?_
            refine Rn.pick (lv' := [(0, .ref wa), (1, .ref ga), (2, .int (iv x1)), (3, .int (iv v23_3)), (4, .int (iv (v5_4 + 1)))]) [1, 2, 3, 4, 0] rfl ?_
            exact ih5 (Int.toNat (16 - (v5_4 + 1))) (by omega) S23 Wo23 Lf23 _ ht23 v23_3 (v5_4 + 1) ⟨by omega, by omega, by omega, by omega, by (first | assumption | exact li_mono (by assumption) (by omega)), by (first | assumption | exact li_S (by assumption)), by (first | assumption | exact li_L (by assumption) (by omega))⟩ (by omega)
          · refine r_aload_n (pc := 32) dX10_lowerAll_32 (i := 0) rfl rfl ?_
            refine r_aload_n (pc := 33) dX10_lowerAll_33 (i := 1) rfl rfl ?_
            refine r_iload_n (pc := 34) dX10_lowerAll_34 (i := 2) rfl rfl ?_
            refine r_iload (pc := 35) dX10_lowerAll_35 rfl ?_
            refine t_callVI (pc := 37) (as := [.ref ga, .int (iv x1), .int (iv v23_5)]) (st := []) ht23 (rd_ov (by omega) (rd_ov (by omega) (rd_ov (by omega) hwO))) kX10_80 rfl dX10_lowerAll_37 (t_X10_lowersx (d := d - 1) (x1 := x1) (x2 := v23_5) (by omega) (TyG.ov3 hlt hg) (rd_ov (by omega) (rd_ov (by omega) (rd_ov (by omega) hxT))) (rd_ov (by omega) (rd_ov (by omega) (rd_ov (by omega) hxH))) (rd_ov (by omega) (rd_ov (by omega) (rd_ov (by omega) hxB))) (rd_ov (by omega) (rd_ov (by omega) (rd_ov (by omega) hxW))) hrT hrH hrB hrW (rd_ov (by omega) (rd_ov (by omega) (rd_ov (by omega) hwO))) (rd_ov (by omega) (rd_ov (by omega) (rd_of (ov_s _ _ _)))) (rd_ov (by omega) (rd_of (ov_s _ _ _))) (rd_of (ov_s _ _ _)) (by assumption) (by assumption) (li_B (by assumption) (by omega)) ht23 (by omega) (by omega)) rfl (by omega) (Nat.le_of_ble_eq_true rfl) rfl (fun hp2 y1 ht3 by1 => ?_)
            obtain ⟨by11, hlo⟩ := by1
            have B109 : ∀ S109 : Nat → Int, ∀ Wo109 : Nat → Int64, ∀ Lf109 : Nat → Int, ∀ hp109 : MH, Tw (ov (ov (ov Γ (wa + 1) (xI cI gn S109)) (wa + 2) (xJ cJ gn Wo109)) (wa + 3) (xI cI gn Lf109)) hp109 → ∀  (v109_3 : Int), 0 ≤ v109_3 ∧ v109_3 ≤ 1 ∧ liP gn gq s Tl Hd (prI x1 Wt By) S109 Wo109 Lf109 (120 * (v5_4 - 1) + v23_5 + 1) ∧ Rfx gn 0 2 S109 ∧ Rfx gn (-1) 100000 Lf109 → Rn (gG D cI cJ cZ cT lo b L xs) mX10_lowerAll d 109 [(0, .ref wa), (1, .ref ga), (2, .int (iv x1)), (3, .int (iv v109_3)), (4, .int (iv v5_4)), (5, .int (iv v23_5))] [] hp109 n 0 0 (pW Γ cI cJ wa gn n (fun S Wo Lf => liP gn gq s Tl Hd (prI x1 Wt By) S Wo Lf 2000)) := by
              intro S109 Wo109 Lf109 hp109 ht109 v109_3 hf109
              obtain ⟨hf109_0, hf109_1, ha109_2, ha109_3, ha109_4⟩ := hf109
              refine r_iinc (pc := 109) (v := iv (v23_5 + 1)) (lv' := [(5, .int (iv (v23_5 + 1))), (0, .ref wa), (1, .ref ga), (2, .int (iv x1)), (3, .int (iv v109_3)), (4, .int (iv v5_4))]) dX10_lowerAll_109 rfl (iv_add _ _) (by decide) rfl ?_
              refine r_goto (pc := 112) (tgt := 23) dX10_lowerAll_112 (by decide) ?_
              refine Rn.pick (lv' := [(0, .ref wa), (1, .ref ga), (2, .int (iv x1)), (3, .int (iv v109_3)), (4, .int (iv v5_4)), (5, .int (iv (v23_5 + 1)))]) [1, 2, 3, 4, 5, 0] rfl ?_
              exact ih23 (Int.toNat (120 - (v23_5 + 1))) (by omega) S109 Wo109 Lf109 _ ht109 v109_3 (v23_5 + 1) ⟨by omega, by omega, by omega, by omega, by (first | assumption | exact li_mono (by assumption) (by omega)), by (first | assumption | exact li_S (by assumption)), by (first | assumption | exact li_L (by assumption) (by omega))⟩ (by omega)
            refine t_if_eq (pc := 40) (tgt := 109) dX10_lowerAll_40 (by decide) (by omega) (fun c40 => ?_) (fun c40 => ?_)
            · refine Rn.pick (lv' := [(0, .ref wa), (1, .ref ga), (2, .int (iv x1)), (3, .int (iv v23_3)), (4, .int (iv v5_4)), (5, .int (iv v23_5))]) [0, 1, 2, 3, 4, 5] rfl ?_
              exact B109 S23 Wo23 Lf23 _ ht3 v23_3 ⟨by omega, by omega, by (first | assumption | exact li_mono (by assumption) (by omega)), by (first | assumption | exact li_S (by assumption)), by (first | assumption | exact li_L (by assumption) (by omega))⟩
            · refine r_aload_n (pc := 43) dX10_lowerAll_43 (i := 1) rfl rfl ?_
              refine t_getE (pc := 44) (.ref gTl) ht3 (rd_ov (by omega) (rd_ov (by omega) (rd_ov (by omega) hg_O))) fX10_67 dX10_lowerAll_44 rfl ?_
              refine r_iload (pc := 47) dX10_lowerAll_47 rfl ?_
              refine t_ialdX (pc := 49) (t0 := 0) ht3 (rd_ov (by omega) (rd_ov (by omega) (rd_ov (by omega) hxT))) dX10_lowerAll_49 rfl (by omega) (by omega) (fun b4 => ?_)
              have rb4 := (show Rfx gq 0 ((gn : Int) - 1) Tl by assumption) (Int.toNat v23_5) (by omega)
              refine r_istore (pc := 50) (lv' := [(6, .int (iv (Tl (Int.toNat v23_5)))), (0, .ref wa), (1, .ref ga), (2, .int (iv x1)), (3, .int (iv v23_3)), (4, .int (iv v5_4)), (5, .int (iv v23_5))]) dX10_lowerAll_50 (by decide) rfl ?_
              refine r_aload_n (pc := 52) dX10_lowerAll_52 (i := 1) rfl rfl ?_
              refine t_getE (pc := 53) (.ref gHd) ht3 (rd_ov (by omega) (rd_ov (by omega) (rd_ov (by omega) hg_O))) fX10_70 dX10_lowerAll_53 rfl ?_
              refine r_iload (pc := 56) dX10_lowerAll_56 rfl ?_
              refine t_ialdX (pc := 58) (t0 := 0) ht3 (rd_ov (by omega) (rd_ov (by omega) (rd_ov (by omega) hxH))) dX10_lowerAll_58 rfl (by omega) (by omega) (fun b5 => ?_)
              have rb5 := (show Rfx gq 0 ((gn : Int) - 1) Hd by assumption) (Int.toNat v23_5) (by omega)
              refine r_istore (pc := 59) (lv' := [(7, .int (iv (Hd (Int.toNat v23_5)))), (6, .int (iv (Tl (Int.toNat v23_5)))), (0, .ref wa), (1, .ref ga), (2, .int (iv x1)), (3, .int (iv v23_3)), (4, .int (iv v5_4)), (5, .int (iv v23_5))]) dX10_lowerAll_59 (by decide) rfl ?_
              refine r_aload_n (pc := 61) dX10_lowerAll_61 (i := 0) rfl rfl ?_
              refine t_getE (pc := 62) (.ref (wa + 1)) ht3 (rd_ov (by omega) (rd_ov (by omega) (rd_ov (by omega) hwO))) fX10_18 dX10_lowerAll_62 rfl ?_
              refine r_iload (pc := 65) dX10_lowerAll_65 rfl ?_
              refine r_iconst (pc := 67) (v := iv 1) dX10_lowerAll_67 (by decide) ?_
              refine t_iastX (pc := 68) (t0 := 0) ht3 (eq_ov (by omega) (eq_ov (by omega) (ov_s _ _ _))) dX10_lowerAll_68 rfl (by omega) (by omega) (by omega) (fun hp6 ht7 => ?_)
              rw [ov_in3 (by omega) (by omega) ] at ht7
              have hS9 : Rfx gn 0 2 (fup S23 (Int.toNat (Hd (Int.toNat v23_5))) 1) := Rfx_up (by assumption) (by omega)
              refine r_aload_n (pc := 69) dX10_lowerAll_69 (i := 0) rfl rfl ?_
              refine t_getE (pc := 70) (.ref (wa + 2)) ht7 (rd_ov (by omega) (rd_ov (by omega) (rd_ov (by omega) hwO))) fX10_22 dX10_lowerAll_70 rfl ?_
              refine r_iload (pc := 73) dX10_lowerAll_73 rfl ?_
              refine r_aload_n (pc := 75) dX10_lowerAll_75 (i := 0) rfl rfl ?_
              refine t_getE (pc := 76) (.ref (wa + 2)) ht7 (rd_ov (by omega) (rd_ov (by omega) (rd_ov (by omega) hwO))) fX10_22 dX10_lowerAll_76 rfl ?_
              refine r_iload (pc := 79) dX10_lowerAll_79 rfl ?_
              refine t_laldX (pc := 81) (t0 := 1) ht7 (rd_ov (by omega) (rd_of (ov_s _ _ _))) dX10_lowerAll_81 rfl (by omega) (by omega) ?_
              refine r_aload_n (pc := 82) dX10_lowerAll_82 (i := 1) rfl rfl ?_
              refine r_iload_n (pc := 83) dX10_lowerAll_83 (i := 2) rfl rfl ?_
              refine r_iload (pc := 84) dX10_lowerAll_84 rfl ?_
              refine t_callSJ (pc := 86) (as := [.ref ga, .int (iv x1), .int (iv v23_5)]) (st := [.long (Wo23 (Int.toNat (Tl (Int.toNat v23_5)))), .int (iv (Hd (Int.toNat v23_5))), .ref (wa + 2)]) kX10_73 dX10_lowerAll_86 (t_X10_priceOfx (d := d - 1) (x1 := x1) (x2 := v23_5) (by omega) (TyG.ov3 hlt hg) (rd_ov (by omega) (rd_ov (by omega) (rd_ov (by omega) hxT))) (rd_ov (by omega) (rd_ov (by omega) (rd_ov (by omega) hxH))) (rd_ov (by omega) (rd_ov (by omega) (rd_ov (by omega) hxB))) (rd_ov (by omega) (rd_ov (by omega) (rd_ov (by omega) hxW))) hrT hrH hrB hrW ht7 (by omega) (by omega)) rfl (by omega) (Nat.le_of_ble_eq_true rfl) rfl (fun hp9 y8 ht10 by8 => ?_)
              have ey8 : y8 = prV x1 Wt By (Int.toNat v23_5) := by8
              subst ey8
              have rBy8 := hrB (Int.toNat v23_5) (by omega)
              obtain ⟨py81, py82, py83⟩ := prV_i (each := x1) (Wt := Wt) (By := By) (k := Int.toNat v23_5) (hrW _ (by omega))
              refine r_ladd (pc := 89) (v := (Wo23 (Int.toNat (Tl (Int.toNat v23_5)))) + (prV x1 Wt By (Int.toNat v23_5))) dX10_lowerAll_89 rfl ?_
              have hbw9 := li_B (by assumption) (by omega) (Int.toNat (Tl (Int.toNat v23_5))) (by omega) (hlo.mp (by omega)).1
              have hla9 := l_add (x := Wo23 (Int.toNat (Tl (Int.toNat v23_5)))) (y := prV x1 Wt By (Int.toNat v23_5)) (by omega)
              refine t_lastX (pc := 90) (t0 := 1) ht10 (eq_ov (by omega) (ov_s _ _ _)) dX10_lowerAll_90 rfl (by omega) (by omega) (fun hp11 ht12 => ?_)
              rw [ov_in2 (by omega) ] at ht12
              refine r_aload_n (pc := 91) dX10_lowerAll_91 (i := 0) rfl rfl ?_
              refine t_getE (pc := 92) (.ref (wa + 3)) ht12 (rd_ov (by omega) (rd_ov (by omega) (rd_ov (by omega) hwO))) fX10_26 dX10_lowerAll_92 rfl ?_
              refine r_iload (pc := 95) dX10_lowerAll_95 rfl ?_
              refine r_aload_n (pc := 97) dX10_lowerAll_97 (i := 0) rfl rfl ?_
              refine t_getE (pc := 98) (.ref (wa + 3)) ht12 (rd_ov (by omega) (rd_ov (by omega) (rd_ov (by omega) hwO))) fX10_26 dX10_lowerAll_98 rfl ?_
              refine r_iload (pc := 101) dX10_lowerAll_101 rfl ?_
              refine t_ialdX (pc := 103) (t0 := 0) ht12 (rd_of (ov_s _ _ _)) dX10_lowerAll_103 rfl (by omega) (by omega) (fun b13 => ?_)
              have rb13 := (show Rfx gn (-1) 100000 Lf23 by assumption) (Int.toNat (Tl (Int.toNat v23_5))) (by omega)
              refine r_iconst (pc := 104) (v := iv 1) dX10_lowerAll_104 (by decide) ?_
              refine r_iadd (pc := 105) (v := iv ((Lf23 (Int.toNat (Tl (Int.toNat v23_5)))) + 1)) dX10_lowerAll_105 (iv_add _ _) ?_
              refine t_iastX (pc := 106) (t0 := 0) ht12 (ov_s _ _ _) dX10_lowerAll_106 rfl (by omega) (by omega) (by omega) (fun hp14 ht15 => ?_)
              rw [ov_ov] at ht15
              have hli9 : liP gn gq s Tl Hd (prI x1 Wt By) (fup S23 (Int.toNat (Hd (Int.toNat v23_5))) 1) (fuj Wo23 (Int.toNat (Hd (Int.toNat v23_5))) ((Wo23 (Int.toNat (Tl (Int.toNat v23_5)))) + (prV x1 Wt By (Int.toNat v23_5)))) (fup Lf23 (Int.toNat (Hd (Int.toNat v23_5))) ((Lf23 (Int.toNat (Tl (Int.toNat v23_5)))) + 1)) (120 * (v5_4 - 1) + v23_5 + 1) := li_up (by assumption) (by omega) (by omega) (by omega) (by omega) (hlo.mp (by omega)) (by omega)
              refine r_iconst (pc := 107) (v := iv 1) dX10_lowerAll_107 (by decide) ?_
              refine r_istore_n (pc := 108) (lv' := [(3, .int (iv 1)), (7, .int (iv (Hd (Int.toNat v23_5)))), (6, .int (iv (Tl (Int.toNat v23_5)))), (0, .ref wa), (1, .ref ga), (2, .int (iv x1)), (4, .int (iv v5_4)), (5, .int (iv v23_5))]) dX10_lowerAll_108 (i := 3) rfl (by decide) rfl ?_
              refine Rn.pick (lv' := [(0, .ref wa), (1, .ref ga), (2, .int (iv x1)), (3, .int (iv 1)), (4, .int (iv v5_4)), (5, .int (iv v23_5))]) [3, 4, 5, 0, 6, 7] rfl ?_
              exact B109 (fup S23 (Int.toNat (Hd (Int.toNat v23_5))) 1) (fuj Wo23 (Int.toNat (Hd (Int.toNat v23_5))) ((Wo23 (Int.toNat (Tl (Int.toNat v23_5)))) + (prV x1 Wt By (Int.toNat v23_5)))) (fup Lf23 (Int.toNat (Hd (Int.toNat v23_5))) ((Lf23 (Int.toNat (Tl (Int.toNat v23_5)))) + 1)) _ ht15 1 ⟨by omega, by omega, by (first | assumption | exact li_mono (by assumption) (by omega)), by (first | assumption | exact li_S (by assumption)), by (first | assumption | exact li_L (by assumption) (by omega))⟩
        refine Rn.pick (lv' := [(0, .ref wa), (1, .ref ga), (2, .int (iv x1)), (3, .int (iv 0)), (4, .int (iv v5_4)), (5, .int (iv 0))]) [2, 3, 4, 1, 5, 0] rfl ?_
        exact B23 (Int.toNat (120 - 0)) S5 Wo5 Lf5 _ ht5 0 0 ⟨by omega, by omega, by omega, by omega, by (first | assumption | exact li_mono (by assumption) (by omega)), by (first | assumption | exact li_S (by assumption)), by (first | assumption | exact li_L (by assumption) (by omega))⟩ (by omega)
  refine Rn.pick (lv' := [(0, .ref wa), (1, .ref ga), (2, .int (iv x1)), (3, .int (iv 1)), (4, .int (iv 1))]) [2, 3, 4, 1, 0] rfl ?_
  exact B5 (Int.toNat (16 - 1)) S Wo Lf _ ht 1 1 ⟨by omega, by omega, by omega, by omega, by (first | assumption | exact li_mono (by assumption) (by omega)), by (first | assumption | exact li_S (by assumption)), by (first | assumption | exact li_L (by assumption) (by omega))⟩ (by omega)
set_option maxHeartbeats 4000000 in
set_option maxRecDepth 100000 in
theorem t_X3_allNodesx {D : va_G} {cI cJ cZ cT : ClassId} {lo b L : Nat} {xs : Nat → Int32} {hp : MH} {n d : Nat} {Γ : TG} {ga : Nat} {gF : Nat} {gT : Nat} {gW : Nat} {gC : Nat} {gTl : Nat} {gHd : Nat} {gBy : Nat} {gOu : Nat} {gIn : Nat} {gJo : Nat} {gn : Nat} {gm : Nat} {gq : Nat} {gdr : Int} (hd0 : 0 ≤ d) (hg : TyG Γ cI cJ cZ ga gF gT gW gC gTl gHd gBy gOu gIn gJo gn gm gq gdr) (ht : Tw Γ hp) : Mt (gG D cI cJ cZ cT lo b L xs) mX3_allNodes d 0 0 [.ref ga] hp n (pI Γ n (fun r => r = ((2 ^ gn : Nat) : Int) - 1)) := by
  refine Mt.of rfl (Nat.le_of_ble_eq_true rfl) ?_
  refine Rn.pick (lv' := [(0, .ref ga)]) [0] rfl ?_
  obtain ⟨hg_O, hg_from, hg_to, hg_weight, hg_cost, hg_tail, hg_head, hg_by, hg_out, hg_in, hg_joined, hg_b⟩ := id hg
  refine r_iconst (pc := 0) (v := iv 1) dX3_allNodes_0 (by decide) ?_
  refine r_aload_n (pc := 1) dX3_allNodes_1 (i := 0) rfl rfl ?_
  refine t_getE (pc := 2) (.int (iv (gn : Int))) ht hg_O fX3_49 dX3_allNodes_2 rfl ?_
  have hp5 := pow_b 16 (v := (gn : Int)) (by omega)
  have hq5 : ((2 ^ 16 : Nat) : Int) = 65536 := by decide
  refine r_ishl (pc := 5) (v := iv ((2 ^ Int.toNat (gn : Int) : Nat) : Int)) dX3_allNodes_5 (shl_e (by omega)) ?_
  refine r_iconst (pc := 6) (v := iv 1) dX3_allNodes_6 (by decide) ?_
  refine r_isub (pc := 7) (v := iv (((2 ^ Int.toNat (gn : Int) : Nat) : Int) - 1)) dX3_allNodes_7 (iv_sub _ _) ?_
  exact r_iret (pc := 8) dX3_allNodes_8 rfl ⟨rfl, ht, _, rfl, by show _ = _; rw [show Int.toNat (gn : Int) = gn from rfl]⟩
set_option maxHeartbeats 4000000 in
set_option maxRecDepth 100000 in
theorem t_X10_markEndlessx {D : va_G} {cI cJ cZ cT : ClassId} {lo b L : Nat} {xs : Nat → Int32} {hp : MH} {n d : Nat} {Γ : TG} {ga : Nat} {gF : Nat} {gT : Nat} {gW : Nat} {gC : Nat} {gTl : Nat} {gHd : Nat} {gBy : Nat} {gOu : Nat} {gIn : Nat} {gJo : Nat} {gn : Nat} {gm : Nat} {gq : Nat} {gdr : Int} {Tl Hd By Wt Ou S Lf : Nat → Int} {Wo : Nat → Int64} {wa : Nat} {x1 s : Int} (hd0 : 2 ≤ d) (hg : TyG Γ cI cJ cZ ga gF gT gW gC gTl gHd gBy gOu gIn gJo gn gm gq gdr) (hxT : rd Γ gTl (xI cI gq Tl)) (hxH : rd Γ gHd (xI cI gq Hd)) (hxB : rd Γ gBy (xI cI gq By)) (hxW : rd Γ gW (xI cI gm Wt)) (hrT : Rfx gq 0 ((gn : Int) - 1) Tl) (hrH : Rfx gq 0 ((gn : Int) - 1) Hd) (hrB : Rfx gq 0 ((gm : Int) - 1) By) (hrW : Rfx gm (-1000) 1000 Wt) (hwO : rd Γ wa (tO 9 [fE (.int (iv (gn : Int))), fE (.ref (wa + 1)), fE (.ref (wa + 2)), fE (.ref (wa + 3)), fE (.ref (wa + 4)), fE (.ref (wa + 5))])) (hlt : ga < wa ∧ gTl < wa ∧ gHd < wa ∧ gBy < wa ∧ gW < wa ∧ gOu < wa ∧ gF < wa ∧ gT < wa ∧ gC < wa ∧ gIn < wa ∧ gJo < wa) (hxO : rd Γ gOu (xI cI gn Ou)) (hrO : Rfx gn 0 65535 Ou) (hou : ∀ k, k < gq → Me (Ou (Int.toNat (Tl k))) (Int.toNat (Hd k))) (hwM : Γ (wa + 4) = some (tJ cJ gn anyJ)) (hli : liP gn gq s Tl Hd (prI x1 Wt By) S Wo Lf 2000) (ht : Tw (wyN Γ cI cJ wa gn S Wo Lf) hp) (hx1 : 0 ≤ x1 ∧ x1 ≤ 1) : Mt (gG D cI cJ cZ cT lo b L xs) mX10_markEndless d 0 0 [.ref wa, .ref ga, .int (iv x1)] hp n (pW Γ cI cJ wa gn n (fun S Wo Lf => Rfx gn 0 2 S ∧ Rfx gn (-1) ((gn : Int) - 1) Lf)) := by
  refine Mt.of rfl (Nat.le_of_ble_eq_true rfl) ?_
  refine Rn.pick (lv' := [(0, .ref wa), (1, .ref ga), (2, .int (iv x1))]) [0, 1, 2] rfl ?_
  obtain ⟨hg_O, hg_from, hg_to, hg_weight, hg_cost, hg_tail, hg_head, hg_by, hg_out, hg_in, hg_joined, hg_b⟩ := id hg
  have hS0 := li_S hli
  have hL0 := li_L hli (by omega)
  have hf0 : fnP Tl Hd (prI x1 Wt By) S Wo Lf 0 0 := fn_0 _ _ _ _ _ _ _
  refine r_iconst (pc := 0) (v := iv 0) dX10_markEndless_0 (by decide) ?_
  refine r_istore_n (pc := 1) (lv' := [(3, .int (iv 0)), (0, .ref wa), (1, .ref ga), (2, .int (iv x1))]) dX10_markEndless_1 (i := 3) rfl (by decide) rfl ?_
  refine r_iconst (pc := 2) (v := iv 0) dX10_markEndless_2 (by decide) ?_
  refine r_istore (pc := 3) (lv' := [(4, .int (iv 0)), (3, .int (iv 0)), (0, .ref wa), (1, .ref ga), (2, .int (iv x1))]) dX10_markEndless_3 (by decide) rfl ?_
  have B5 : ∀ k : Nat, ∀ hp5 : MH, Tw (ov (ov (ov Γ (wa + 1) (xI cI gn S)) (wa + 2) (xJ cJ gn Wo)) (wa + 3) (xI cI gn Lf)) hp5 → ∀  (v5_3 : Int) (v5_4 : Int), 0 ≤ v5_3 ∧ v5_3 ≤ 65535 ∧ 0 ≤ v5_4 ∧ v5_4 ≤ 120 ∧ v5_4 ≤ (gq : Int) ∧ fnP Tl Hd (prI x1 Wt By) S Wo Lf v5_3 v5_4 → 120 - v5_4 ≤ (k : Int) → Rn (gG D cI cJ cZ cT lo b L xs) mX10_markEndless d 5 [(0, .ref wa), (1, .ref ga), (2, .int (iv x1)), (3, .int (iv v5_3)), (4, .int (iv v5_4))] [] hp5 n 0 0 (pW Γ cI cJ wa gn n (fun S Wo Lf => Rfx gn 0 2 S ∧ Rfx gn (-1) ((gn : Int) - 1) Lf)) := by
    refine lpS _ ?_
    intro k5 ih5 hp5 ht5 v5_3 v5_4 hf5 hm5
    obtain ⟨hf5_0, hf5_1, hf5_2, hf5_3, hf5_4, ha5_5⟩ := hf5
    refine r_iload (pc := 5) dX10_markEndless_5 rfl ?_
    refine r_aload_n (pc := 7) dX10_markEndless_7 (i := 1) rfl rfl ?_
    refine t_getE (pc := 8) (.int (iv (gq : Int))) ht5 (rd_ov (by omega) (rd_ov (by omega) (rd_ov (by omega) hg_O))) fX10_77 dX10_markEndless_8 rfl ?_
    refine t_icmp_ge (pc := 11) (tgt := 43) dX10_markEndless_11 (by decide) (by omega) (by omega) (fun c11 => ?_) (fun c11 => ?_)
    · refine r_aload_n (pc := 43) dX10_markEndless_43 (i := 1) rfl rfl ?_
      refine t_getE (pc := 44) (.ref gOu) ht5 (rd_ov (by omega) (rd_ov (by omega) (rd_ov (by omega) hg_O))) fX10_84 dX10_markEndless_44 rfl ?_
      refine r_iload_n (pc := 47) dX10_markEndless_47 (i := 3) rfl rfl ?_
      refine r_aload_n (pc := 48) dX10_markEndless_48 (i := 1) rfl rfl ?_
      refine t_callVI (pc := 49) (as := []) (st := [.int (iv v5_3), .ref gOu]) ht5 (rd_ov (by omega) (rd_ov (by omega) (rd_ov (by omega) hg_O))) kX10_87 rfl dX10_markEndless_49 (t_X3_allNodesx (d := d - 1) (by omega) (TyG.ov3 hlt hg) ht5) rfl (by omega) (Nat.le_of_ble_eq_true rfl) rfl (fun hp2 y1 ht3 by1 => ?_)
      have ey1 : y1 = ((2 ^ gn : Nat) : Int) - 1 := by1
      subst ey1
      have hpw := pow_b 16 (v := (gn : Int)) (by omega)
      have hpw2 : ((2 ^ 16 : Nat) : Int) = 65536 := by decide
      rw [show Int.toNat (gn : Int) = gn from rfl] at hpw
      have hpw3 : (1 : Int) ≤ ((2 ^ gn : Nat) : Int) - 1 := by have h9 := pow_two_le (n := gn) (by omega); omega
      refine t_callSI (pc := 52) (as := [.ref gOu, .int (iv v5_3), .int (iv (((2 ^ gn : Nat) : Int) - 1))]) (st := []) kX10_91 dX10_markEndless_52 (t_X8_reachx (d := d - 1) (Nx := Ou) (rL := gn) (x1 := v5_3) (x2 := ((2 ^ gn : Nat) : Int) - 1) (by omega) (rd_ov (by omega) (rd_ov (by omega) (rd_ov (by omega) hxO))) hrO (by omega) ht3 (by omega) (by omega)) rfl (by omega) (Nat.le_of_ble_eq_true rfl) rfl (fun hp5 y4 ht6 by4 => ?_)
      obtain ⟨by41, hrx⟩ := by4
      have hm0 : meP gn y4 S Lf S Lf 0 := me_0 _ _ _ _
      refine r_istore (pc := 55) (lv' := [(4, .int (iv y4)), (0, .ref wa), (1, .ref ga), (2, .int (iv x1)), (3, .int (iv v5_3))]) dX10_markEndless_55 (by decide) rfl ?_
      refine r_iconst (pc := 57) (v := iv 0) dX10_markEndless_57 (by decide) ?_
      refine r_istore (pc := 58) (lv' := [(5, .int (iv 0)), (4, .int (iv y4)), (0, .ref wa), (1, .ref ga), (2, .int (iv x1)), (3, .int (iv v5_3))]) dX10_markEndless_58 (by decide) rfl ?_
      have B60 : ∀ k : Nat, ∀ S60 : Nat → Int, ∀ Wo60 : Nat → Int64, ∀ Lf60 : Nat → Int, ∀ hp60 : MH, Tw (ov (ov (ov Γ (wa + 1) (xI cI gn S60)) (wa + 2) (xJ cJ gn Wo60)) (wa + 3) (xI cI gn Lf60)) hp60 → ∀  (v60_5 : Int), 0 ≤ v60_5 ∧ v60_5 ≤ 16 ∧ meP gn y4 S Lf S60 Lf60 v60_5 ∧ Rfx gn 0 2 S60 → 16 - v60_5 ≤ (k : Int) → Rn (gG D cI cJ cZ cT lo b L xs) mX10_markEndless d 60 [(0, .ref wa), (4, .int (iv y4)), (5, .int (iv v60_5))] [] hp60 n 0 0 (pW Γ cI cJ wa gn n (fun S Wo Lf => Rfx gn 0 2 S ∧ Rfx gn (-1) ((gn : Int) - 1) Lf)) := by
        refine lpS _ ?_
        intro k60 ih60 S60 Wo60 Lf60 hp60 ht60 v60_5 hf60 hm60
        obtain ⟨hf60_0, hf60_1, ha60_2, ha60_3⟩ := hf60
        refine r_iload (pc := 60) dX10_markEndless_60 rfl ?_
        refine r_aload_n (pc := 62) dX10_markEndless_62 (i := 0) rfl rfl ?_
        refine t_getE (pc := 63) (.int (iv (gn : Int))) ht60 (rd_ov (by omega) (rd_ov (by omega) (rd_ov (by omega) hwO))) fX10_15 dX10_markEndless_63 rfl ?_
        refine t_icmp_ge (pc := 66) (tgt := 117) dX10_markEndless_66 (by decide) (by omega) (by omega) (fun c66 => ?_) (fun c66 => ?_)
        · exact r_vret (pc := 117) dX10_markEndless_117 rfl ⟨rfl, rfl, S60, Wo60, Lf60, ht60, by assumption, me_end (E := y4) (k := v60_5) (by assumption) (by omega) hli (by omega) (fun k hk => by have := hrT k hk; omega) (fun k hk hn hl => hn (hrx.2.1 _ ((show fnP Tl Hd (prI x1 Wt By) S Wo Lf _ _ by assumption) k (by omega) hl) ((allN (by omega) _).mpr (by have := hrH k hk; omega)))) (fun k hk hm => hrx.2.2.1 (Int.toNat (Tl k)) (Int.toNat (Hd k)) (by have := hrT k hk; omega) hm (hou k hk) ((allN (by omega) _).mpr (by have := hrH k hk; omega)))⟩
        · refine r_iload (pc := 69) dX10_markEndless_69 rfl ?_
          refine r_iload (pc := 71) dX10_markEndless_71 rfl ?_
          have hq73 := shr_le (Int.toNat y4) (Int.toNat v60_5)
          refine r_ishr (pc := 73) (v := iv ((Int.toNat y4 >>> Int.toNat v60_5 : Nat) : Int)) dX10_markEndless_73 (shr_e (by omega) (by omega)) ?_
          refine r_iconst (pc := 74) (v := iv 1) dX10_markEndless_74 (by decide) ?_
          refine r_iand (pc := 75) (v := iv (((Int.toNat y4 >>> Int.toNat v60_5 : Nat) : Int) % 2)) dX10_markEndless_75 (and1_e _ (by omega)) ?_
          have B111 : ∀ S111 : Nat → Int, ∀ Wo111 : Nat → Int64, ∀ Lf111 : Nat → Int, ∀ hp111 : MH, Tw (ov (ov (ov Γ (wa + 1) (xI cI gn S111)) (wa + 2) (xJ cJ gn Wo111)) (wa + 3) (xI cI gn Lf111)) hp111 → meP gn y4 S Lf S111 Lf111 (v60_5 + 1) ∧ Rfx gn 0 2 S111 → Rn (gG D cI cJ cZ cT lo b L xs) mX10_markEndless d 111 [(0, .ref wa), (4, .int (iv y4)), (5, .int (iv v60_5))] [] hp111 n 0 0 (pW Γ cI cJ wa gn n (fun S Wo Lf => Rfx gn 0 2 S ∧ Rfx gn (-1) ((gn : Int) - 1) Lf)) := by
            intro S111 Wo111 Lf111 hp111 ht111 hf111
            obtain ⟨ha111_0, ha111_1⟩ := hf111
            refine r_iinc (pc := 111) (v := iv (v60_5 + 1)) (lv' := [(5, .int (iv (v60_5 + 1))), (0, .ref wa), (4, .int (iv y4))]) dX10_markEndless_111 rfl (iv_add _ _) (by decide) rfl ?_
            refine r_goto (pc := 114) (tgt := 60) dX10_markEndless_114 (by decide) ?_
            refine Rn.pick (lv' := [(0, .ref wa), (4, .int (iv y4)), (5, .int (iv (v60_5 + 1)))]) [1, 2, 0] rfl ?_
            exact ih60 (Int.toNat (16 - (v60_5 + 1))) (by omega) S111 Wo111 Lf111 _ ht111 (v60_5 + 1) ⟨by omega, by omega, by assumption, by assumption⟩ (by omega)
          refine t_if_eq (pc := 76) (tgt := 111) dX10_markEndless_76 (by decide) (by omega) (fun c76 => ?_) (fun c76 => ?_)
          · refine Rn.pick (lv' := [(0, .ref wa), (4, .int (iv y4)), (5, .int (iv v60_5))]) [0, 1, 2] rfl ?_
            exact B111 S60 Wo60 Lf60 _ ht60 ⟨by (first | assumption | exact me_no (by assumption) (fun h9 => absurd (Me_bit.mpr h9) (by omega))), by assumption⟩
          · refine r_aload_n (pc := 79) dX10_markEndless_79 (i := 0) rfl rfl ?_
            refine t_getE (pc := 80) (.ref (wa + 1)) ht60 (rd_ov (by omega) (rd_ov (by omega) (rd_ov (by omega) hwO))) fX10_18 dX10_markEndless_80 rfl ?_
            refine r_iload (pc := 83) dX10_markEndless_83 rfl ?_
            refine r_iconst (pc := 85) (v := iv 2) dX10_markEndless_85 (by decide) ?_
            refine t_iastX (pc := 86) (t0 := 0) ht60 (eq_ov (by omega) (eq_ov (by omega) (ov_s _ _ _))) dX10_markEndless_86 rfl (by omega) (by omega) (by omega) (fun hp7 ht8 => ?_)
            rw [ov_in3 (by omega) (by omega) ] at ht8
            have hS86 : Rfx gn 0 2 (fup S60 (Int.toNat v60_5) 2) := Rfx_up (by assumption) (by omega)
            refine r_aload_n (pc := 87) dX10_markEndless_87 (i := 0) rfl rfl ?_
            refine t_getE (pc := 88) (.ref (wa + 2)) ht8 (rd_ov (by omega) (rd_ov (by omega) (rd_ov (by omega) hwO))) fX10_22 dX10_markEndless_88 rfl ?_
            refine r_iload (pc := 91) dX10_markEndless_91 rfl ?_
            refine r_lconst (pc := 93) (v := 0) dX10_markEndless_93 (by decide) ?_
            have hk93 : (0 : Int64).toInt = 0 := by decide
            refine t_lastX (pc := 94) (t0 := 1) ht8 (eq_ov (by omega) (ov_s _ _ _)) dX10_markEndless_94 rfl (by omega) (by omega) (fun hp9 ht10 => ?_)
            rw [ov_in2 (by omega) ] at ht10
            refine r_aload_n (pc := 95) dX10_markEndless_95 (i := 0) rfl rfl ?_
            refine t_getE (pc := 96) (.ref (wa + 3)) ht10 (rd_ov (by omega) (rd_ov (by omega) (rd_ov (by omega) hwO))) fX10_26 dX10_markEndless_96 rfl ?_
            refine r_iload (pc := 99) dX10_markEndless_99 rfl ?_
            refine r_iconst (pc := 101) (v := iv (-1)) dX10_markEndless_101 (by decide) ?_
            refine t_iastX (pc := 102) (t0 := 0) ht10 (ov_s _ _ _) dX10_markEndless_102 rfl (by omega) (by omega) (by omega) (fun hp11 ht12 => ?_)
            rw [ov_ov] at ht12
            have hm9 : meP gn y4 S Lf (fup S60 (Int.toNat v60_5) 2) (fup Lf60 (Int.toNat v60_5) (-1)) (v60_5 + 1) := me_yes (by assumption) (by omega) (Me_bit.mp (by omega))
            have hS9 : Rfx gn 0 2 (fup S60 (Int.toNat v60_5) 2) := me_rS hm9 hS0
            refine r_aload_n (pc := 103) dX10_markEndless_103 (i := 0) rfl rfl ?_
            refine t_getE (pc := 104) (.ref (wa + 4)) ht12 (rd_ov (by omega) (rd_ov (by omega) (rd_ov (by omega) hwO))) fX10_29 dX10_markEndless_104 rfl ?_
            refine r_iload (pc := 107) dX10_markEndless_107 rfl ?_
            refine r_lconst (pc := 109) (v := 0) dX10_markEndless_109 (by decide) ?_
            have hk109 : (0 : Int64).toInt = 0 := by decide
            refine t_last (pc := 110) (t0 := 1) ht12 (eq_ov (by omega) (eq_ov (by omega) (eq_ov (by omega) hwM))) dX10_markEndless_110 rfl (by omega) (by omega) trivial (fun hp13 ht14 => ?_)
            refine Rn.pick (lv' := [(0, .ref wa), (4, .int (iv y4)), (5, .int (iv v60_5))]) [0, 1, 2] rfl ?_
            exact B111 (fup S60 (Int.toNat v60_5) 2) (fuj Wo60 (Int.toNat v60_5) (0 : Int64)) (fup Lf60 (Int.toNat v60_5) (-1)) _ ht14 ⟨by (first | assumption | exact me_no (by assumption) (fun h9 => absurd (Me_bit.mpr h9) (by omega))), by assumption⟩
      refine Rn.pick (lv' := [(0, .ref wa), (4, .int (iv y4)), (5, .int (iv 0))]) [2, 1, 0] rfl ?_
      exact B60 (Int.toNat (16 - 0)) S Wo Lf _ ht6 0 ⟨by omega, by omega, by assumption, by assumption⟩ (by omega)
    · refine r_aload_n (pc := 14) dX10_markEndless_14 (i := 0) rfl rfl ?_
      refine r_aload_n (pc := 15) dX10_markEndless_15 (i := 1) rfl rfl ?_
      refine r_iload_n (pc := 16) dX10_markEndless_16 (i := 2) rfl rfl ?_
      refine r_iload (pc := 17) dX10_markEndless_17 rfl ?_
      refine t_callVI (pc := 19) (as := [.ref ga, .int (iv x1), .int (iv v5_4)]) (st := []) ht5 (rd_ov (by omega) (rd_ov (by omega) (rd_ov (by omega) hwO))) kX10_80 rfl dX10_markEndless_19 (t_X10_lowersx (d := d - 1) (x1 := x1) (x2 := v5_4) (by omega) (TyG.ov3 hlt hg) (rd_ov (by omega) (rd_ov (by omega) (rd_ov (by omega) hxT))) (rd_ov (by omega) (rd_ov (by omega) (rd_ov (by omega) hxH))) (rd_ov (by omega) (rd_ov (by omega) (rd_ov (by omega) hxB))) (rd_ov (by omega) (rd_ov (by omega) (rd_ov (by omega) hxW))) hrT hrH hrB hrW (rd_ov (by omega) (rd_ov (by omega) (rd_ov (by omega) hwO))) (rd_ov (by omega) (rd_ov (by omega) (rd_of (ov_s _ _ _)))) (rd_ov (by omega) (rd_of (ov_s _ _ _))) (rd_of (ov_s _ _ _)) (by assumption) (by assumption) (li_B (by assumption) (by omega)) ht5 (by omega) (by omega)) rfl (by omega) (Nat.le_of_ble_eq_true rfl) rfl (fun hp16 y15 ht17 by15 => ?_)
      obtain ⟨by151, hlo⟩ := by15
      have B37 : ∀ hp37 : MH, Tw (ov (ov (ov Γ (wa + 1) (xI cI gn S)) (wa + 2) (xJ cJ gn Wo)) (wa + 3) (xI cI gn Lf)) hp37 → ∀  (v37_3 : Int), 0 ≤ v37_3 ∧ v37_3 ≤ 65535 ∧ v5_3 ≤ v37_3 ∧ fnP Tl Hd (prI x1 Wt By) S Wo Lf v37_3 (v5_4 + 1) → Rn (gG D cI cJ cZ cT lo b L xs) mX10_markEndless d 37 [(0, .ref wa), (1, .ref ga), (2, .int (iv x1)), (3, .int (iv v37_3)), (4, .int (iv v5_4))] [] hp37 n 0 0 (pW Γ cI cJ wa gn n (fun S Wo Lf => Rfx gn 0 2 S ∧ Rfx gn (-1) ((gn : Int) - 1) Lf)) := by
        intro hp37 ht37 v37_3 hf37
        obtain ⟨hf37_0, hf37_1, hf37_2, ha37_3⟩ := hf37
        refine r_iinc (pc := 37) (v := iv (v5_4 + 1)) (lv' := [(4, .int (iv (v5_4 + 1))), (0, .ref wa), (1, .ref ga), (2, .int (iv x1)), (3, .int (iv v37_3))]) dX10_markEndless_37 rfl (iv_add _ _) (by decide) rfl ?_
        refine r_goto (pc := 40) (tgt := 5) dX10_markEndless_40 (by decide) ?_
        refine Rn.pick (lv' := [(0, .ref wa), (1, .ref ga), (2, .int (iv x1)), (3, .int (iv v37_3)), (4, .int (iv (v5_4 + 1)))]) [1, 2, 3, 4, 0] rfl ?_
        exact ih5 (Int.toNat (120 - (v5_4 + 1))) (by omega) _ ht37 v37_3 (v5_4 + 1) ⟨by omega, by omega, by omega, by omega, by omega, by assumption⟩ (by omega)
      refine t_if_eq (pc := 22) (tgt := 37) dX10_markEndless_22 (by decide) (by omega) (fun c22 => ?_) (fun c22 => ?_)
      · refine Rn.pick (lv' := [(0, .ref wa), (1, .ref ga), (2, .int (iv x1)), (3, .int (iv v5_3)), (4, .int (iv v5_4))]) [0, 1, 2, 3, 4] rfl ?_
        exact B37 _ ht17 v5_3 ⟨by omega, by omega, by omega, by (first | assumption | exact fn_no (by assumption) (fun h9 => by have := hlo.mpr h9; omega))⟩
      · refine r_iload_n (pc := 25) dX10_markEndless_25 (i := 3) rfl rfl ?_
        refine r_iconst (pc := 26) (v := iv 1) dX10_markEndless_26 (by decide) ?_
        refine r_aload_n (pc := 27) dX10_markEndless_27 (i := 1) rfl rfl ?_
        refine t_getE (pc := 28) (.ref gHd) ht17 (rd_ov (by omega) (rd_ov (by omega) (rd_ov (by omega) hg_O))) fX10_70 dX10_markEndless_28 rfl ?_
        refine r_iload (pc := 31) dX10_markEndless_31 rfl ?_
        refine t_ialdX (pc := 33) (t0 := 0) ht17 (rd_ov (by omega) (rd_ov (by omega) (rd_ov (by omega) hxH))) dX10_markEndless_33 rfl (by omega) (by omega) (fun b18 => ?_)
        have rb18 := (show Rfx gq 0 ((gn : Int) - 1) Hd by assumption) (Int.toNat v5_4) (by omega)
        have hp34 := pow_b 15 (v := Hd (Int.toNat v5_4)) (by omega)
        have hq34 : ((2 ^ 15 : Nat) : Int) = 32768 := by decide
        refine r_ishl (pc := 34) (v := iv ((2 ^ Int.toNat (Hd (Int.toNat v5_4)) : Nat) : Int)) dX10_markEndless_34 (shl_e (by omega)) ?_
        obtain ⟨z19, hz19, bz19⟩ := or_2 16 v5_3 ((2 ^ Int.toNat (Hd (Int.toNat v5_4)) : Nat) : Int) (by omega) (by omega) (by decide)
        refine r_ior (pc := 35) (v := iv z19) dX10_markEndless_35 hz19 ?_
        have hf35 : fnP Tl Hd (prI x1 Wt By) S Wo Lf z19 (v5_4 + 1) := fn_yes (by assumption) (Me_or hz19 (by omega) (by omega) (by omega))
        refine r_istore_n (pc := 36) (lv' := [(3, .int (iv z19)), (0, .ref wa), (1, .ref ga), (2, .int (iv x1)), (4, .int (iv v5_4))]) dX10_markEndless_36 (i := 3) rfl (by decide) rfl ?_
        refine Rn.pick (lv' := [(0, .ref wa), (1, .ref ga), (2, .int (iv x1)), (3, .int (iv z19)), (4, .int (iv v5_4))]) [1, 2, 3, 0, 4] rfl ?_
        exact B37 _ ht17 z19 ⟨by omega, by omega, by omega, by (first | assumption | exact fn_no (by assumption) (fun h9 => by have := hlo.mpr h9; omega))⟩
  refine Rn.pick (lv' := [(0, .ref wa), (1, .ref ga), (2, .int (iv x1)), (3, .int (iv 0)), (4, .int (iv 0))]) [2, 3, 4, 1, 0] rfl ?_
  exact B5 (Int.toNat (120 - 0)) _ ht 0 0 ⟨by omega, by omega, by omega, by omega, by omega, by assumption⟩ (by omega)
