section NB
variable {VA : (Nat → Int) → Prop} {n : Nat}
/-- no numbering goes on from the first v with one of these -/
def nvP (VA : (Nat → Int) → Prop) (Nu : Nat → Int) (v tk : Int) : Prop := ∀ im, VA im → (∀ i : Nat, (i : Int) < v → im i = Nu i) → ∀ u : Nat, Me tk u → im v.toNat ≠ (u : Int)
theorem nv_0 {Nu : Nat → Int} {v : Int} : nvP VA Nu v 0 := fun _ _ _ u hu => absurd hu (Me_0 u)
theorem nv_up {Nu : Nat → Int} {v tk tk1 : Int} {u : Nat} (h : nvP VA Nu v tk) (h1 : ∀ i, Me tk1 i ↔ Me tk i ∨ i = u) (hn : ∀ im, VA im → (∀ i : Nat, (i : Int) < v → im i = Nu i) → im v.toNat ≠ (u : Int)) : nvP VA Nu v tk1 := fun im hv hp x hx => by
  rcases (h1 x).mp hx with g | g
  · exact h im hv hp x g
  · rw [g]; exact hn im hv hp
/-- the first numbering that goes on from the first v, or that there is none -/
def cnA (VA : (Nat → Int) → Prop) (n : Nat) (Nu Nu1 : Nat → Int) (v r : Int) : Prop := (r = 1 ∧ VA Nu1 ∧ ∀ im, VA im → (∀ i : Nat, (i : Int) < v → im i = Nu i) → ∃ j : Nat, (j : Int) ≤ (n : Int) ∧ (∀ i, i < j → im i = Nu1 i) ∧ ((j : Int) = (n : Int) ∨ Nu1 j < im j)) ∨ (r = 0 ∧ ∀ im, VA im → ¬ ∀ i : Nat, (i : Int) < v → im i = Nu i)
theorem cn_fin (hcg : ∀ a b : Nat → Int, (∀ i : Nat, (i : Int) < (n : Int) → a i = b i) → VA a → VA b) {Nu : Nat → Int} {v r : Int} (hv : v = (n : Int)) (hr : (r = 1 ∧ VA Nu) ∨ (r = 0 ∧ ¬ VA Nu)) : cnA VA n Nu Nu v r := by
  rcases hr with ⟨e, h⟩ | ⟨e, h⟩
  · exact Or.inl ⟨e, h, fun im _ hp => ⟨n, Int.le_refl _, fun i hi => hp i (by omega), Or.inl rfl⟩⟩
  · exact Or.inr ⟨e, fun im hm hp => h (hcg im Nu (fun i hi => hp i (by omega)) hm)⟩
theorem cn_non {Nu Nu1 : Nat → Int} {Co : Nat → Int64} {row : Nat} {v tk r : Int} (hv : 0 ≤ v ∧ v < (n : Int)) (hr : ∀ im, VA im → ∀ i : Nat, (i : Int) < (n : Int) → 0 ≤ im i ∧ im i < (n : Int)) (hcv : ∀ im, VA im → (∀ i : Nat, (i : Int) < v → im i = Nu i) → cvP Co row n (fun i => (im i).toNat)) (hnv : nvP VA Nu v tk) (hfl : ∀ u, u < n → ¬ Me tk u → Co (row + 16 + u) ≠ Co (row + v.toNat)) (h0 : r = 0) : cnA VA n Nu Nu1 v r := by
  refine Or.inr ⟨h0, fun im hm hp => ?_⟩
  have h1 := hr im hm v.toNat (by omega)
  have h2 : Co (row + v.toNat) = Co (row + 16 + (im v.toNat).toNat) := hcv im hm hp v.toNat (by omega)
  by_cases g : Me tk (im v.toNat).toNat
  · exact hnv im hm hp _ g (by omega)
  · exact hfl _ (by omega) g h2.symm
/-- a number that is next has nothing before it -/
theorem cn_ge {Nu : Nat → Int} {Co : Nat → Int64} {row : Nat} {v tk u : Int} (hv : 0 ≤ v ∧ v < (n : Int)) (hr : ∀ im, VA im → ∀ i : Nat, (i : Int) < (n : Int) → 0 ≤ im i ∧ im i < (n : Int)) (hcv : ∀ im, VA im → (∀ i : Nat, (i : Int) < v → im i = Nu i) → cvP Co row n (fun i => (im i).toNat)) (hnv : nvP VA Nu v tk) (hfl : ∀ x : Nat, (x : Int) < u → ¬ Me tk x → Co (row + 16 + x) ≠ Co (row + v.toNat)) : ∀ im, VA im → (∀ i : Nat, (i : Int) < v → im i = Nu i) → u ≤ im v.toNat := fun im hm hp => Classical.byContradiction (fun g => by
  have h1 := hr im hm v.toNat (by omega)
  have h2 : Co (row + v.toNat) = Co (row + 16 + (im v.toNat).toNat) := hcv im hm hp v.toNat (by omega)
  by_cases g1 : Me tk (im v.toNat).toNat
  · exact hnv im hm hp _ g1 (by omega)
  · exact hfl _ (by omega) g1 h2.symm)
theorem cn_alo {Nu : Nat → Int} {Co : Nat → Int64} {row : Nat} {v tk u : Int} (hv : 0 ≤ v ∧ v < (n : Int)) (hu : 0 ≤ u) (hr : ∀ im, VA im → ∀ i : Nat, (i : Int) < (n : Int) → 0 ≤ im i ∧ im i < (n : Int)) (hcv : ∀ im, VA im → (∀ i : Nat, (i : Int) < v → im i = Nu i) → cvP Co row n (fun i => (im i).toNat)) (htk : ∀ i, Me tk i ↔ i = u.toNat) (hfl : ∀ x, x < n → ¬ Me tk x → Co (row + 16 + x) ≠ Co (row + v.toNat)) : ∀ im, VA im → (∀ i : Nat, (i : Int) < v → im i = Nu i) → im v.toNat = u := fun im hm hp => by
  have h1 := hr im hm v.toNat (by omega)
  have h2 : Co (row + v.toNat) = Co (row + 16 + (im v.toNat).toNat) := hcv im hm hp v.toNat (by omega)
  by_cases g1 : Me tk (im v.toNat).toNat
  · have := (htk _).mp g1; omega
  · exact absurd h2.symm (hfl _ (by omega) g1)
theorem pf_up {Nu NuL im : Nat → Int} {v u : Int} (hv : 0 ≤ v) (hL : ∀ i : Nat, (i : Int) < v → NuL i = Nu i) : (∀ i : Nat, (i : Int) < v + 1 → im i = fup NuL v.toNat u i) ↔ (∀ i : Nat, (i : Int) < v → im i = Nu i) ∧ im v.toNat = u := by
  constructor
  · intro h
    refine ⟨fun i hi => ?_, ?_⟩
    · rw [h i (by omega), ← hL i hi]
      exact if_neg (by omega)
    · rw [h v.toNat (by omega)]
      exact if_pos rfl
  · rintro ⟨h1, h2⟩ i hi
    by_cases e : i = v.toNat
    · rw [e, h2]; exact (if_pos rfl).symm
    · rw [h1 i (by omega), ← hL i (by omega)]
      exact (if_neg e).symm
theorem cn_al {Nu NuL Nu1 : Nat → Int} {v u r : Int} (hv : 0 ≤ v) (hL : ∀ i : Nat, (i : Int) < v → NuL i = Nu i) (ha : ∀ im, VA im → (∀ i : Nat, (i : Int) < v → im i = Nu i) → im v.toNat = u) (h : cnA VA n (fup NuL v.toNat u) Nu1 (v + 1) r) : cnA VA n Nu Nu1 v r := by
  rcases h with ⟨e, h1, h2⟩ | ⟨e, h1⟩
  · exact Or.inl ⟨e, h1, fun im hm hp => h2 im hm ((pf_up hv hL).mpr ⟨hp, ha im hm hp⟩)⟩
  · exact Or.inr ⟨e, fun im hm hp => h1 im hm ((pf_up hv hL).mpr ⟨hp, ha im hm hp⟩)⟩
theorem cn_ys {Nu NuL Nu1 : Nat → Int} {v u r : Int} (hv : 0 ≤ v ∧ v < (n : Int)) (hL : ∀ i : Nat, (i : Int) < v → NuL i = Nu i) (hge : ∀ im, VA im → (∀ i : Nat, (i : Int) < v → im i = Nu i) → u ≤ im v.toNat) (h1 : ∀ i : Nat, (i : Int) < v + 1 → Nu1 i = fup NuL v.toNat u i) (h : cnA VA n (fup NuL v.toNat u) Nu1 (v + 1) 1) (hr : r = 1) : cnA VA n Nu Nu1 v r := by
  rcases h with ⟨-, g1, g2⟩ | ⟨e, -⟩
  · have h3 := (pf_up hv.1 hL).mp h1
    refine Or.inl ⟨hr, g1, fun im hm hp => ?_⟩
    by_cases e : im v.toNat = u
    · exact g2 im hm ((pf_up hv.1 hL).mpr ⟨hp, e⟩)
    · exact ⟨v.toNat, by omega, fun i hi => by rw [hp i (by omega), h3.1 i (by omega)], Or.inr (by have := hge im hm hp; rw [h3.2]; omega)⟩
  · exact absurd e (by omega)
theorem cn_nx {Nu NuL Nu1 : Nat → Int} {v u : Int} (hv : 0 ≤ v) (hL : ∀ i : Nat, (i : Int) < v → NuL i = Nu i) (h : cnA VA n (fup NuL v.toNat u) Nu1 (v + 1) 0) : ∀ im, VA im → (∀ i : Nat, (i : Int) < v → im i = Nu i) → im v.toNat ≠ u := fun im hm hp e => by
  rcases h with ⟨e1, -⟩ | ⟨-, g⟩
  · exact absurd e1 (by omega)
  · exact g im hm ((pf_up hv hL).mpr ⟨hp, e⟩)
end NB
theorem va_cg {P : (Nat → Int) → Int → Prop} {n : Int} (hloc : ∀ (a b : Nat → Int) (w : Int), (∀ i : Nat, (i : Int) ≤ w → a i = b i) → P a w → P b w) (a b : Nat → Int) (h : ∀ i : Nat, (i : Int) < n → a i = b i) (ha : vaP P n a) : vaP P n b :=
  ⟨fun v hv => ⟨by rw [← h v hv]; exact (ha.1 v hv).1, hloc a b _ (fun i hi => h i (by omega)) (ha.1 v hv).2⟩, fun i j hi hj e => ha.2 i j hi hj (by rw [h i hi, h j hj]; exact e)⟩
theorem cn_lx {P : (Nat → Int) → Int → Prop} {n : Nat} {Nu Nu1 : Nat → Int} (h : cnA (vaP P (n : Int)) n Nu Nu1 0 1) : lxA P (n : Int) Nu1 := by
  rcases h with ⟨-, h1, h2⟩ | ⟨e, -⟩
  · exact ⟨h1, fun im hm => h2 im hm (fun i hi => by omega)⟩
  · exact absurd e (by omega)
theorem cn_nl {P : (Nat → Int) → Int → Prop} {n : Nat} {Nu Nu1 : Nat → Int} (h : cnA (vaP P (n : Int)) n Nu Nu1 0 0) : ∀ im, ¬ vaP P (n : Int) im := fun im hm => by
  rcases h with ⟨e, -⟩ | ⟨-, h1⟩
  · exact absurd e (by omega)
  · exact h1 im hm (fun i hi => by omega)
/-- the numbers given so far -/
def nmI (Nu : Nat → Int) (s v : Int) : Prop := ∀ b : Nat, Me s b ↔ ∃ i : Nat, (i : Int) < v ∧ Nu i = (b : Int)
theorem nm_0 {Nu : Nat → Int} : nmI Nu 0 0 := fun b => ⟨fun g => absurd g (Me_0 b), fun ⟨i, h, _⟩ => by omega⟩
theorem nm_up {Nu : Nat → Int} {s s1 v : Int} (h : nmI Nu s v) (hv : 0 ≤ v) (h0 : 0 ≤ Nu v.toNat) (h1 : ∀ b, Me s1 b ↔ Me s b ∨ b = (Nu v.toNat).toNat) : nmI Nu s1 (v + 1) := fun b => by
  rw [h1 b, h b]
  constructor
  · rintro (⟨i, i1, i2⟩ | e)
    · exact ⟨i, by omega, i2⟩
    · exact ⟨v.toNat, by omega, by omega⟩
  · rintro ⟨i, i1, i2⟩
    by_cases e : i = v.toNat
    · rw [e] at i2; exact Or.inr (by omega)
    · exact Or.inl ⟨i, by omega, i2⟩
theorem nm_va {P : (Nat → Int) → Int → Prop} {n : Nat} {Nu : Nat → Int} {s : Int} (hs : 0 ≤ s) (h : nmI Nu s (n : Int)) (hva : vaP P (n : Int) Nu) : s = ((2 ^ n : Nat) : Int) - 1 := by
  have hp : 1 ≤ 2 ^ n := Nat.one_le_two_pow
  refine Me_eqi hs (by omega) (fun b => ?_)
  rw [h b, Me_all b]
  constructor
  · rintro ⟨i, i1, i2⟩
    have := (hva.1 i i1).1
    omega
  · intro hb
    obtain ⟨i, i1, i2⟩ := inj_sj (σ := fun i => (Nu i).toNat) (n := n) (fun i hi => by have := (hva.1 i (by omega)).1; show (Nu i).toNat < n; omega) (fun i j hi hj e => by
      have e1 : (Nu i).toNat = (Nu j).toNat := e
      have := (hva.1 i (by omega)).1
      have := (hva.1 j (by omega)).1
      exact hva.2 i j (by omega) (by omega) (by omega)) hb
    have i3 : (Nu i).toNat = b := i2
    have := (hva.1 i (by omega)).1
    exact ⟨i, by omega, by omega⟩
theorem nm_ij {n : Nat} {Nu : Nat → Int} {s : Int} (h : nmI Nu s (n : Int)) (h0 : ∀ i, i < n → 0 ≤ Nu i) (hs : s = ((2 ^ n : Nat) : Int) - 1) : (∀ v : Nat, (v : Int) < (n : Int) → 0 ≤ Nu v ∧ Nu v < (n : Int)) ∧ ∀ i j : Nat, (i : Int) < (n : Int) → (j : Int) < (n : Int) → Nu i = Nu j → i = j := by
  subst hs
  have hr : ∀ v : Nat, (v : Int) < (n : Int) → 0 ≤ Nu v ∧ Nu v < (n : Int) := fun v hv => by
    have h1 := h0 v (by omega)
    have h2 := (Me_all _).mp ((h (Nu v).toNat).mpr ⟨v, hv, by omega⟩)
    omega
  refine ⟨hr, fun i j hi hj e => Classical.byContradiction (fun g => ?_)⟩
  have a1 : cnP (fun _ => True) n ≤ cnP (fun k => k ≠ i) n := cnP_rel (R := fun b k => Nu k = (b : Int)) (fun b hb _ => by
    obtain ⟨k, k1, k2⟩ := (h b).mp ((Me_all b).mpr hb)
    by_cases q : k = i
    · exact ⟨j, by omega, fun q1 => g q1.symm, by rw [← e, ← q]; exact k2⟩
    · exact ⟨k, by omega, q, k2⟩) (fun b b' k _ _ _ _ r1 r2 => by
    have r3 : Nu k = (b : Int) := r1
    have r4 : Nu k = (b' : Int) := r2
    omega)
  have a2 : cnP (fun k => k ≠ i) n < cnP (fun _ => True) n := cnP_lt (u := i) (fun _ _ _ => trivial) (by omega) trivial (fun q => q rfl)
  omega
section SA
variable {d : Int} {F T W C F' T' W' C' im : Nat → Int} {m n : Nat}
/-- the arcs before i have found theirs -/
def saI (m : Nat) (d : Int) (F T W C F' T' W' C' im : Nat → Int) (us : Int64) (i : Int) : Prop := ∃ σ : Nat → Nat, (∀ a : Nat, (a : Int) < i → σ a < m ∧ amP d F T W C F' T' W' C' im a (σ a)) ∧ (∀ a b : Nat, (a : Int) < i → (b : Int) < i → σ a = σ b → a = b) ∧ ∀ j, MeL us j ↔ ∃ a : Nat, (a : Int) < i ∧ σ a = j
theorem sa_0 : saI m d F T W C F' T' W' C' im 0 0 := ⟨id, fun a ha => by omega, fun a b ha => by omega, fun j => ⟨fun g => absurd g (mel_0 j), fun ⟨a, ha, _⟩ => by omega⟩⟩
theorem sa_up {us us1 : Int64} {i : Int} {j : Nat} (h : saI m d F T W C F' T' W' C' im us i) (hi : 0 ≤ i) (hj : j < m) (hu : ¬ MeL us j) (ha : amP d F T W C F' T' W' C' im i.toNat j) (h1 : ∀ x, MeL us1 x ↔ MeL us x ∨ x = j) : saI m d F T W C F' T' W' C' im us1 (i + 1) := by
  obtain ⟨σ, s1, s2, s3⟩ := h
  have hne : ∀ a : Nat, (a : Int) < i → σ a ≠ j := fun a g e => hu ((s3 j).mpr ⟨a, g, e⟩)
  refine ⟨fun a => if a = i.toNat then j else σ a, fun a g => ?_, fun a b ga gb e => ?_, fun x => ?_⟩
  · show (if a = i.toNat then j else σ a) < m ∧ amP d F T W C F' T' W' C' im a (if a = i.toNat then j else σ a)
    by_cases q : a = i.toNat
    · rw [if_pos q, q]; exact ⟨hj, ha⟩
    · rw [if_neg q]; exact s1 a (by omega)
  · have e1 : (if a = i.toNat then j else σ a) = (if b = i.toNat then j else σ b) := e
    by_cases q : a = i.toNat
    · by_cases q1 : b = i.toNat
      · omega
      · rw [if_pos q, if_neg q1] at e1
        exact absurd e1.symm (hne b (by omega))
    · by_cases q1 : b = i.toNat
      · rw [if_neg q, if_pos q1] at e1
        exact absurd e1 (hne a (by omega))
      · rw [if_neg q, if_neg q1] at e1
        exact s2 a b (by omega) (by omega) e1
  · rw [h1 x, s3 x]
    constructor
    · rintro (⟨a, a1, a2⟩ | e)
      · exact ⟨a, by omega, by show (if a = i.toNat then j else σ a) = x; rw [if_neg (by omega)]; exact a2⟩
      · exact ⟨i.toNat, by omega, by show (if i.toNat = i.toNat then j else σ i.toNat) = x; rw [if_pos rfl]; exact e.symm⟩
    · rintro ⟨a, a1, a2⟩
      have a3 : (if a = i.toNat then j else σ a) = x := a2
      by_cases q : a = i.toNat
      · rw [if_pos q] at a3; exact Or.inr a3.symm
      · rw [if_neg q] at a3; exact Or.inl ⟨a, by omega, a3⟩
theorem sa_no {us : Int64} {i : Int} (hFT : ∀ k, k < m → (0 ≤ F k ∧ F k < (n : Int)) ∧ 0 ≤ T k ∧ T k < (n : Int)) (h : saI m d F T W C F' T' W' C' im us i) (hi : 0 ≤ i ∧ i < (m : Int)) (hno : ∀ j, j < m → ¬ MeL us j → ¬ amP d F T W C F' T' W' C' im i.toNat j) : ¬ vaP (isP m d F T W C F' T' W' C') (n : Int) im := fun hva => by
  obtain ⟨σ, s1, s2, s3⟩ := h
  obtain ⟨j, j1, j2, j3⟩ := ar_no hFT hva (i := i.toNat) (σ := σ) (by omega) (fun a ha => (s1 a (by omega)).2)
  exact hno j j1 (fun g => by obtain ⟨a, a1, a2⟩ := (s3 j).mp g; exact j2 a (by omega) a2) j3
theorem sa_end {us : Int64} {i : Int} (hFT : ∀ k, k < m → (0 ≤ F k ∧ F k < (n : Int)) ∧ 0 ≤ T k ∧ T k < (n : Int)) (hn : (∀ v : Nat, (v : Int) < (n : Int) → 0 ≤ im v ∧ im v < (n : Int)) ∧ ∀ i j : Nat, (i : Int) < (n : Int) → (j : Int) < (n : Int) → im i = im j → i = j) (h : saI m d F T W C F' T' W' C' im us i) (hi : i = (m : Int)) : vaP (isP m d F T W C F' T' W' C') (n : Int) im := by
  obtain ⟨σ, s1, s2, s3⟩ := h
  exact va_of hFT hn.1 hn.2 (fun a ha => s1 a (by omega)) (fun a b ha hb => s2 a b (by omega) (by omega))
end SA
theorem ov_same {Γ : TG} {a : Nat} {T : va_E → Prop} (h : Γ a = some T) : ov Γ a T = Γ := by
  funext x
  by_cases q : x = a
  · subst q; rw [h]; exact ov_s Γ x T
  · simp [ov, va_up, q]
/-- the cells of sameness told exactly -/
abbrev SmS (Γ : TG) (cI cJ : ClassId) (s : Nat) (Ti Co Fr : Nat → Int64) (Nu : Nat → Int) : TG := ov (ov (ov (ov (ov Γ s (tO 6 (smnR s))) (s + 1) (xJ cJ 512 Ti)) (s + 2) (xJ cJ 544 Co)) (s + 3) (xJ cJ 32 Fr)) (s + 4) (xI cI 16 Nu)
theorem kr_0 {d : Int} {W C : Nat → Int} {k : Nat} (h : d = 0) : krA d W C k = kdA W C k := if_pos h
theorem kr_1 {d : Int} {W C : Nat → Int} {k : Nat} (h : d ≠ 0) : krA d W C k = scR (kdA W C k) := if_neg h
/-- the first colours -/
def scI (Ti Co : Nat → Int64) (v : Int) : Prop := ∀ u : Nat, (u : Int) < v → Co u = scR (Ti (16 * u + u)) ∧ Co (16 + u) = scR (Ti (256 + (16 * u + u)))
theorem sci_0 {Ti Co : Nat → Int64} : scI Ti Co 0 := fun u hu => by omega
theorem sci_up {Ti Co : Nat → Int64} {v : Int} {a b c e : Nat} (h : scI Ti Co v) (hv : 0 ≤ v ∧ v < 16) (ha : (a : Int) = v) (hb : (b : Int) = 16 * v + v) (hc : (c : Int) = 16 + v) (he : (e : Int) = 256 + (16 * v + v)) : scI Ti (fuj (fuj Co a (scR (Ti b))) c (scR (Ti e))) (v + 1) := fun u hu => by
  show (if u = c then scR (Ti e) else if u = a then scR (Ti b) else Co u) = _ ∧ (if 16 + u = c then scR (Ti e) else if 16 + u = a then scR (Ti b) else Co (16 + u)) = _
  rw [if_neg (by omega)]
  by_cases q : u = a
  · rw [if_pos q, if_pos (by omega), show 16 * u + u = b by omega, show 256 + b = e by omega]
    exact ⟨rfl, rfl⟩
  · rw [if_neg q, if_neg (by omega), if_neg (by omega)]
    exact h u (by omega)
theorem sci_cv {Ti Co : Nat → Int64} {n : Nat} {p : Nat → Nat} (h : scI Ti Co (n : Int)) (hp : tpP Ti n p) : cvP Co 0 n p := fun v hv => by
  have h1 := hp.1 v hv
  rw [show 0 + v = v by omega, show 0 + 16 + p v = 16 + p v by omega, (h v (by omega)).1, (h (p v) (by omega)).2, hp.2.2 v v hv hv]
/-- the fresh colours so far -/
def rcI (Ti Co Fr0 Fr : Nat → Int64) (row side n : Nat) (v : Int) : Prop := (∀ u : Nat, (u : Int) < v → Fr (side + u) = rcV Ti Co row side n u) ∧ ∀ q : Nat, (q < side ∨ (side : Int) + v ≤ q) → Fr q = Fr0 q
theorem rci_0 {Ti Co Fr : Nat → Int64} {row side n : Nat} : rcI Ti Co Fr Fr row side n 0 := ⟨fun u hu => by omega, fun _ _ => rfl⟩
theorem rci_up {Ti Co Fr0 Fr : Nat → Int64} {row side n a : Nat} {v : Int} {w : Int64} (h : rcI Ti Co Fr0 Fr row side n v) (hv : 0 ≤ v) (ha : (a : Int) = side + v) (hw : w = rcV Ti Co row side n v.toNat) : rcI Ti Co Fr0 (fuj Fr a w) row side n (v + 1) := by
  refine ⟨fun u hu => ?_, fun q hq => ?_⟩
  · show (if side + u = a then w else Fr (side + u)) = _
    by_cases e : u = v.toNat
    · rw [if_pos (by omega), hw, e]
    · rw [if_neg (by omega)]; exact h.1 u (by omega)
  · show (if q = a then w else Fr q) = Fr0 q
    rw [if_neg (by omega)]; exact h.2 q (by omega)
theorem rc_s0 {f : Nat → Int64} {a b : Int64} (h : a = b) : a = b + sm64 f (Int.toNat 0) := by rw [h]; exact (Int64.add_zero b).symm
theorem rc_sz {Ti Co : Nat → Int64} {row side v : Nat} {a b : Int64} {k : Int} (h : a = b + sm64 (rcT Ti Co row side v) k.toNat) (hk : 0 ≤ k) (hz : Ti (16 * (side + v) + k.toNat) = 0) : a = b + sm64 (rcT Ti Co row side v) (k + 1).toNat := by
  rw [show (k + 1).toNat = k.toNat + 1 by omega, sm64_s, show rcT Ti Co row side v k.toNat = 0 from if_pos hz, Int64.add_zero]
  exact h
theorem rc_sn {Ti Co : Nat → Int64} {row side v : Nat} {a b : Int64} {k : Int} (h : a = b + sm64 (rcT Ti Co row side v) k.toNat) (hk : 0 ≤ k) (hz : Ti (16 * (side + v) + k.toNat) ≠ 0) : a + scR (Ti (16 * (side + v) + k.toNat) + Co (row + side + k.toNat)) = b + sm64 (rcT Ti Co row side v) (k + 1).toNat := by
  rw [show (k + 1).toNat = k.toNat + 1 by omega, sm64_s, show rcT Ti Co row side v k.toNat = scR (Ti (16 * (side + v) + k.toNat) + Co (row + side + k.toNat)) from if_neg hz, ← Int64.add_assoc, ← h]
/-- colours divided further: numberings keep to them -/
def rfI (Ti Co0 Co : Nat → Int64) (row n : Nat) : Prop := (∀ i, (i < row ∨ row + 32 ≤ i) → Co i = Co0 i) ∧ ∀ p, tpP Ti n p → cvP Co0 row n p → cvP Co row n p
theorem rf_0 {Ti Co : Nat → Int64} {row n : Nat} : rfI Ti Co Co row n := ⟨fun _ _ => rfl, fun _ _ h => h⟩
theorem rf_up {Ti Co0 Co Fr0 Fr1 Fr2 : Nat → Int64} {row n d0 : Nat} (hn : n ≤ 16) (h : rfI Ti Co0 Co row n) (h1 : rcI Ti Co Fr0 Fr1 row 0 n (n : Int)) (h2 : rcI Ti Co Fr1 Fr2 row 16 n (n : Int)) (hd : d0 = row) : rfI Ti Co0 (cpJ Fr2 Co 0 d0 32) row n := by
  subst hd
  refine ⟨fun i hi => ?_, fun p hp hc => ?_⟩
  · show (if d0 ≤ i ∧ i < d0 + 32 then Fr2 (0 + (i - d0)) else Co i) = _
    rw [if_neg (by omega)]; exact h.1 i hi
  · refine cv_cp (Co := Co) hn hp.1 (Fr := Fr2) (fun i hi => ?_) (rc_cv hp (h.2 p hp hc) (fun v hv => ?_) (fun v hv => h2.1 v (by omega)))
    · show (if d0 ≤ d0 + i ∧ d0 + i < d0 + 32 then Fr2 (0 + (d0 + i - d0)) else Co (d0 + i)) = _
      rw [if_pos (by omega), show 0 + (d0 + i - d0) = i by omega]
    · rw [h2.2 (0 + v) (by omega)]; exact h1.1 v (by omega)
/-- a pair gets a colour of its own -/
theorem mk_cv {Co Co1 : Nat → Int64} {row n v u a b : Nat} {own : Int64} {p : Nat → Nat} (hn : n ≤ 16) (hv : v < n) (hu : u < 16) (hp : ∀ v, v < n → p v < n) (hj : ∀ i j, i < n → j < n → p i = p j → i = j) (hpu : p v = u) {s0 d0 : Nat} (hs : s0 = row) (hd : d0 = row + 32) (ha : a = row + 32 + v) (hb : b = row + 32 + 16 + u) (h : cvP Co row n p) (h1 : Co1 = fuj (fuj (cpJ Co Co s0 d0 32) a own) b own) : cvP Co1 (row + 32) n p := by
  subst hs hd ha hb h1
  refine cv_mk (own := own) hn hv hu hp hj hpu (fun i hi => ?_) h
  show (if s0 + 32 + i = s0 + 32 + 16 + u then own else if s0 + 32 + i = s0 + 32 + v then own else if s0 + 32 ≤ s0 + 32 + i ∧ s0 + 32 + i < s0 + 32 + 32 then Co (s0 + (s0 + 32 + i - (s0 + 32))) else Co (s0 + 32 + i)) = _
  by_cases e : i = 16 + u
  · rw [if_pos e, if_pos (by omega)]
  · rw [if_neg e, if_neg (by omega)]
    by_cases e1 : i = v
    · rw [if_pos e1, if_pos (by omega)]
    · rw [if_neg e1, if_neg (by omega), if_pos (by omega), show s0 + (s0 + 32 + i - (s0 + 32)) = s0 + i by omega]
theorem mk_lo {Co : Nat → Int64} {row v u a b s0 d0 : Nat} {own : Int64} (hd : d0 = row + 32) (ha : a = row + 32 + v) (hb : b = row + 32 + 16 + u) : ∀ i, i < row + 32 → fuj (fuj (cpJ Co Co s0 d0 32) a own) b own i = Co i := fun i hi => by
  show (if i = b then own else if i = a then own else if d0 ≤ i ∧ i < d0 + 32 then Co (s0 + (i - d0)) else Co i) = Co i
  rw [if_neg (by omega), if_neg (by omega), if_neg (by omega)]
theorem flq_cg {Co Co1 : Nat → Int64} {row n : Nat} {c : Int64} {tk r : Int} (h : flQ Co1 row n c tk r) (hn : n ≤ 16) (hr : r < (n : Int)) (he : ∀ u, u < 16 → Co1 (row + 16 + u) = Co (row + 16 + u)) : flQ Co row n c tk r := by
  refine ⟨fun h0 u hu hm => ?_, fun h0 => ?_⟩
  · rw [← he u (by omega)]; exact h.1 h0 u hu hm
  · obtain ⟨h1, h2, h3⟩ := h.2 h0
    exact ⟨h1, by rw [← he _ (by omega)]; exact h2, fun u hu hm => by rw [← he u (by omega)]; exact h3 u hu hm⟩
/-- so many have been tried -/
def tkC (n : Nat) (tk r : Int) : Prop := ((cnP (fun i => Me tk i) n : Nat) : Int) = r
theorem tk_0 {n : Nat} : tkC n 0 0 := by
  unfold tkC
  rw [cnP_none (fun i _ g => Me_0 i g)]; rfl
theorem tk_up {n u : Nat} {tk tk1 r : Int} (h : tkC n tk r) (hu : u < n) (hm : ¬ Me tk u) (h1 : ∀ i, Me tk1 i ↔ Me tk i ∨ i = u) : tkC n tk1 (r + 1) := by
  unfold tkC at h ⊢
  have q1 : cnP (fun i => Me tk1 i) n = cnP (fun i => Me tk1 i ∧ i ≠ u) n + 1 := cnP_rm hu ((h1 u).mpr (Or.inr rfl))
  have q2 : cnP (fun i => Me tk1 i ∧ i ≠ u) n = cnP (fun i => Me tk i) n := cnP_eq (fun i _ => ⟨fun g => ((h1 i).mp g.1).elim id (fun e => absurd e g.2), fun g => ⟨(h1 i).mpr (Or.inl g), fun e => hm (by rw [← e]; exact g)⟩⟩)
  omega
theorem tk_all {n : Nat} {tk r : Int} (h : tkC n tk r) (hr : (n : Int) ≤ r) : ∀ u, u < n → Me tk u := fun u hu => Classical.byContradiction (fun g => by
  unfold tkC at h
  have q1 : cnP (fun i => Me tk i) n < cnP (fun _ => True) n := cnP_lt (u := u) (fun _ _ _ => trivial) hu trivial g
  have q2 := cnP_le (fun _ => True) n
  omega)
theorem cn_out {VA : (Nat → Int) → Prop} {n : Nat} {Nu Nu1 : Nat → Int} {v tk rd r : Int} (hv : 0 ≤ v ∧ v < (n : Int)) (hr : ∀ im, VA im → ∀ i : Nat, (i : Int) < (n : Int) → 0 ≤ im i ∧ im i < (n : Int)) (hnv : nvP VA Nu v tk) (htk : tkC n tk rd) (hrd : (n : Int) ≤ rd) (h0 : r = 0) : cnA VA n Nu Nu1 v r :=
  Or.inr ⟨h0, fun im hm hp => by
    have h1 := hr im hm v.toNat (by omega)
    exact hnv im hm hp _ (tk_all htk hrd (im v.toNat).toNat (by omega)) (by omega)⟩
/-- arcs before j don't fit -/
def sjI (d : Int) (F T W C F' T' W' C' im : Nat → Int) (us : Int64) (i : Nat) (j : Int) : Prop := ∀ x : Nat, (x : Int) < j → ¬ MeL us x → ¬ amP d F T W C F' T' W' C' im i x
theorem sj_0 {d : Int} {F T W C F' T' W' C' im : Nat → Int} {us : Int64} {i : Nat} : sjI d F T W C F' T' W' C' im us i 0 := fun x hx => by omega
theorem sj_up {d : Int} {F T W C F' T' W' C' im : Nat → Int} {us : Int64} {i : Nat} {j : Int} (h : sjI d F T W C F' T' W' C' im us i j) (hj : 0 ≤ j) (h1 : ¬ MeL us j.toNat → ¬ amP d F T W C F' T' W' C' im i j.toNat) : sjI d F T W C F' T' W' C' im us i (j + 1) := fun x hx hm => by
  by_cases e : x = j.toNat
  · rw [e] at hm ⊢; exact h1 hm
  · exact h x (by omega) hm
theorem SmS_cl {Γ : TG} {cI cJ : ClassId} {s : Nat} {Ti Co Fr : Nat → Int64} {Nu : Nat → Int} {hp : MH} (hO : Γ s = some (tO 6 (smnR s))) (hA1 : Γ (s + 1) = some (tJ cJ 512 anyJ)) (hA2 : Γ (s + 2) = some (tJ cJ 544 anyJ)) (hA3 : Γ (s + 3) = some (tJ cJ 32 anyJ)) (ht : Tw (SmS Γ cI cJ s Ti Co Fr Nu) hp) : Tw (ov Γ (s + 4) (xI cI 16 Nu)) hp := by
  have e : SmS Γ cI cJ s Ti Co Fr Nu = ov (ov (ov (ov (ov Γ (s + 4) (xI cI 16 Nu)) s (tO 6 (smnR s))) (s + 1) (xJ cJ 512 Ti)) (s + 2) (xJ cJ 544 Co)) (s + 3) (xJ cJ 32 Fr) := by
    rw [show SmS Γ cI cJ s Ti Co Fr Nu = ov (ov (ov (ov (ov Γ s (tO 6 (smnR s))) (s + 1) (xJ cJ 512 Ti)) (s + 2) (xJ cJ 544 Co)) (s + 3) (xJ cJ 32 Fr)) (s + 4) (xI cI 16 Nu) from rfl, ov_c _ (xJ cJ 32 Fr) (xI cI 16 Nu) (show s + 3 ≠ s + 4 by omega), ov_c _ (xJ cJ 544 Co) (xI cI 16 Nu) (show s + 2 ≠ s + 4 by omega), ov_c _ (xJ cJ 512 Ti) (xI cI 16 Nu) (show s + 1 ≠ s + 4 by omega), ov_c _ (tO 6 (smnR s)) (xI cI 16 Nu) (show s ≠ s + 4 by omega)]
  rw [e] at ht
  have t1 := Tw.closeJ ht (eq_ov (by omega) (eq_ov (by omega) (eq_ov (by omega) (eq_ov (by omega) hA3)))) (fun _ _ => trivial)
  have t2 := Tw.closeJ t1 (eq_ov (by omega) (eq_ov (by omega) (eq_ov (by omega) hA2))) (fun _ _ => trivial)
  have t3 := Tw.closeJ t2 (eq_ov (by omega) (eq_ov (by omega) hA1)) (fun _ _ => trivial)
  exact Tw.weak t3 (eq_ov (by omega) hO) (fun _ h9 => h9)
