/-- a sum of any kind -/
def gsm {A : Type} (ad : A → A → A) (z : A) (f : Nat → A) : Nat → A
  | 0 => z
  | n + 1 => ad (gsm ad z f n) (f n)
theorem gsm_cg {A : Type} {ad : A → A → A} {z : A} {f g : Nat → A} : ∀ {n : Nat}, (∀ i, i < n → f i = g i) → gsm ad z f n = gsm ad z g n
  | 0, _ => rfl
  | n + 1, h => by
    show ad (gsm ad z f n) (f n) = ad (gsm ad z g n) (g n)
    rw [gsm_cg (f := f) (g := g) (n := n) (fun i hi => h i (by omega)), h n (by omega)]
theorem gsm_zz {A : Type} {ad : A → A → A} {z : A} (hz : ∀ a, ad a z = a) : ∀ n : Nat, gsm ad z (fun _ => z) n = z
  | 0 => rfl
  | n + 1 => by
    show ad (gsm ad z (fun _ => z) n) z = z
    rw [hz]; exact gsm_zz hz n
theorem gsm_rm {A : Type} {ad : A → A → A} {z : A} (hc : ∀ a b, ad a b = ad b a) (ha : ∀ a b c, ad (ad a b) c = ad a (ad b c)) (hz : ∀ a, ad a z = a) {f : Nat → A} {a : Nat} : ∀ {n : Nat}, a < n → gsm ad z f n = ad (gsm ad z (fun i => if i = a then z else f i) n) (f a)
  | 0, h => by omega
  | n + 1, h => by
    by_cases e : a = n
    · subst e
      show ad (gsm ad z f a) (f a) = ad (ad (gsm ad z (fun i => if i = a then z else f i) a) (if a = a then z else f a)) (f a)
      rw [if_pos rfl, hz, gsm_cg (f := fun i => if i = a then z else f i) (g := f) (n := a) (fun i hi => if_neg (by omega))]
    · show ad (gsm ad z f n) (f n) = ad (ad (gsm ad z (fun i => if i = a then z else f i) n) (if n = a then z else f n)) (f a)
      rw [if_neg (fun e1 => e (Eq.symm e1)), gsm_rm hc ha hz (f := f) (a := a) (n := n) (by omega), ha, ha, hc (f a) (f n)]
theorem gsm_pt {A : Type} {ad : A → A → A} {z : A} (hc : ∀ a b, ad a b = ad b a) (ha : ∀ a b c, ad (ad a b) c = ad a (ad b c)) (hz : ∀ a, ad a z = a) {g : Nat → A} {N : Nat} {σ : Nat → Nat} : ∀ {n : Nat}, (∀ i, i < n → σ i < N) → (∀ i j, i < n → j < n → σ i = σ j → i = j) → ∃ g' : Nat → A, (∀ j, (∀ i, i < n → σ i ≠ j) → g' j = g j) ∧ (∀ i, i < n → g' (σ i) = z) ∧ gsm ad z g N = ad (gsm ad z g' N) (gsm ad z (fun i => g (σ i)) n)
  | 0, _, _ => ⟨g, fun _ _ => rfl, fun i hi => by omega, (hz _).symm⟩
  | n + 1, h1, h2 => by
    obtain ⟨g', k1, k2, k3⟩ := gsm_pt hc ha hz (g := g) (σ := σ) (N := N) (n := n) (fun i hi => h1 i (by omega)) (fun i j hi hj => h2 i j (by omega) (by omega))
    have e1 : g' (σ n) = g (σ n) := k1 _ (fun i hi e => by have := h2 i n (by omega) (by omega) e; omega)
    refine ⟨fun j => if j = σ n then z else g' j, fun j hj => ?_, fun i hi => ?_, ?_⟩
    · show (if j = σ n then z else g' j) = g j
      rw [if_neg (fun e => hj n (by omega) (Eq.symm e))]
      exact k1 j (fun i hi => hj i (by omega))
    · show (if σ i = σ n then z else g' (σ i)) = z
      by_cases e : i = n
      · rw [e, if_pos rfl]
      · rw [if_neg (fun q => e (h2 i n hi (by omega) q))]
        exact k2 i (by omega)
    · show gsm ad z g N = ad (gsm ad z (fun j => if j = σ n then z else g' j) N) (ad (gsm ad z (fun i => g (σ i)) n) (g (σ n)))
      rw [k3, gsm_rm hc ha hz (f := g') (h1 n (by omega)), e1, ha, hc (g (σ n))]
theorem inj_sj {σ : Nat → Nat} {n : Nat} (h1 : ∀ i, i < n → σ i < n) (h2 : ∀ i j, i < n → j < n → σ i = σ j → i = j) {j : Nat} (hj : j < n) : ∃ i, i < n ∧ σ i = j := Classical.byContradiction (fun g => by
  have a1 : cnP (fun _ => True) n ≤ cnP (fun i => i ≠ j) n := cnP_inj (φ := σ) (fun i hi _ => ⟨h1 i hi, fun e => g ⟨i, hi, e⟩⟩) (fun i k hi hk _ _ e => h2 i k hi hk e)
  have a2 : cnP (fun i => i ≠ j) n < cnP (fun _ => True) n := cnP_lt (u := j) (fun _ _ _ => trivial) hj trivial (fun q => q rfl)
  omega)
theorem gsm_pm {A : Type} {ad : A → A → A} {z : A} (hc : ∀ a b, ad a b = ad b a) (ha : ∀ a b c, ad (ad a b) c = ad a (ad b c)) (hz : ∀ a, ad a z = a) {f g : Nat → A} {n : Nat} {σ : Nat → Nat} (h1 : ∀ i, i < n → σ i < n) (h2 : ∀ i j, i < n → j < n → σ i = σ j → i = j) (h : ∀ i, i < n → g (σ i) = f i) : gsm ad z g n = gsm ad z f n := by
  obtain ⟨g', k1, k2, k3⟩ := gsm_pt hc ha hz (g := g) h1 h2
  have e : ∀ j, j < n → g' j = (fun _ => z) j := fun j hj => by
    obtain ⟨i, hi, e⟩ := inj_sj h1 h2 hj
    rw [← e]; exact k2 i hi
  rw [k3, gsm_cg e, gsm_zz hz, hc z, hz]
  exact gsm_cg h
theorem sgm_gs {f : Nat → Int} : ∀ n : Nat, sgm f n = gsm (fun a b : Int => a + b) 0 f n
  | 0 => rfl
  | n + 1 => by
    show sgm f n + f n = gsm (fun a b : Int => a + b) 0 f n + f n
    rw [sgm_gs n]
theorem sgm_pm {f g : Nat → Int} {n : Nat} {σ : Nat → Nat} (h1 : ∀ i, i < n → σ i < n) (h2 : ∀ i j, i < n → j < n → σ i = σ j → i = j) (h : ∀ i, i < n → g (σ i) = f i) : sgm g n = sgm f n := by
  rw [sgm_gs, sgm_gs]
  exact gsm_pm Int.add_comm Int.add_assoc Int.add_zero h1 h2 h
/-- a sum of longs -/
def sm64 (f : Nat → Int64) (n : Nat) : Int64 := gsm (fun a b : Int64 => a + b) 0 f n
theorem sm64_s {f : Nat → Int64} {n : Nat} : sm64 f (n + 1) = sm64 f n + f n := rfl
theorem sm64_pm {f g : Nat → Int64} {n : Nat} {σ : Nat → Nat} (h1 : ∀ i, i < n → σ i < n) (h2 : ∀ i j, i < n → j < n → σ i = σ j → i = j) (h : ∀ i, i < n → g (σ i) = f i) : sm64 g n = sm64 f n :=
  gsm_pm Int64.add_comm Int64.add_assoc Int64.add_zero h1 h2 h
/-- an arc stands for another -/
def amP (d : Int) (F T W C F' T' W' C' im : Nat → Int) (i j : Nat) : Prop := ((F' j = im (F i).toNat ∧ T' j = im (T i).toNat) ∨ (d = 0 ∧ F' j = im (T i).toNat ∧ T' j = im (F i).toNat)) ∧ W' j = W i ∧ C' j = C i
theorem sg_cn {f : Nat → Int} {P : Nat → Prop} : ∀ {m : Nat}, (∀ k, k < m → (f k = 1 ∧ P k) ∨ (f k = 0 ∧ ¬ P k)) → sgm f m = (cnP P m : Int)
  | 0, _ => rfl
  | m + 1, h => by
    have h1 := sg_cn (m := m) (fun k hk => h k (by omega))
    show sgm f m + f m = _
    rcases h m (by omega) with ⟨e, g⟩ | ⟨e, g⟩
    · rw [cnP_y g, h1, e]; omega
    · rw [cnP_n g, h1, e]; omega
section AL
variable {m : Nat} {d : Int} {F T W C F' T' W' C' im : Nat → Int} {n : Nat}
theorem tm_cn {a b w c : Int} : tmA m d F T W C a b w c = (cnP (fun k => ((F k = a ∧ T k = b) ∨ (d = 0 ∧ F k = b ∧ T k = a)) ∧ W k = w ∧ C k = c) m : Int) := sg_cn (fun k _ => by
  by_cases g : ((F k = a ∧ T k = b) ∨ (d = 0 ∧ F k = b ∧ T k = a)) ∧ W k = w ∧ C k = c
  · exact Or.inl ⟨if_pos g, g⟩
  · exact Or.inr ⟨if_neg g, g⟩)
theorem va_tm (hFT : ∀ k, k < m → (0 ≤ F k ∧ F k < (n : Int)) ∧ 0 ≤ T k ∧ T k < (n : Int)) (h : vaP (isP m d F T W C F' T' W' C') (n : Int) im) {i : Nat} (hi : i < m) : tmA m d F T W C (F i) (T i) (W i) (C i) = tmA m d F' T' W' C' (im (F i).toNat) (im (T i).toNat) (W i) (C i) := by
  have hi9 := hFT i hi
  by_cases e : F i ≤ T i
  · have h1 := (h.1 (T i).toNat (by omega)).2 (by omega)
    exact (h1.2 (F i).toNat (by omega)).1 i hi (Or.inl ⟨by omega, by omega⟩)
  · have h1 := (h.1 (F i).toNat (by omega)).2 (by omega)
    exact (h1.2 (T i).toNat (by omega)).1 i hi (Or.inr ⟨by omega, by omega⟩)
theorem im_ij (hj : ∀ i j : Nat, (i : Int) < (n : Int) → (j : Int) < (n : Int) → im i = im j → i = j) {x y : Int} (hx : 0 ≤ x ∧ x < (n : Int)) (hy : 0 ≤ y ∧ y < (n : Int)) (e : im x.toNat = im y.toNat) : x = y := by
  have := hj x.toNat y.toNat (by omega) (by omega) e
  omega
theorem ar_cl (hFT : ∀ k, k < m → (0 ≤ F k ∧ F k < (n : Int)) ∧ 0 ≤ T k ∧ T k < (n : Int)) (hj : ∀ i j : Nat, (i : Int) < (n : Int) → (j : Int) < (n : Int) → im i = im j → i = j) {k i j : Nat} (hk : k < m) (hi : i < m) (h1 : amP d F T W C F' T' W' C' im k j) (h2 : amP d F T W C F' T' W' C' im i j) : ((F k = F i ∧ T k = T i) ∨ (d = 0 ∧ F k = T i ∧ T k = F i)) ∧ W k = W i ∧ C k = C i := by
  have f1 := hFT k hk
  have f2 := hFT i hi
  refine ⟨?_, h1.2.1.symm.trans h2.2.1, h1.2.2.symm.trans h2.2.2⟩
  rcases h1.1 with ⟨a1, a2⟩ | ⟨a0, a1, a2⟩
  · rcases h2.1 with ⟨b1, b2⟩ | ⟨b0, b1, b2⟩
    · exact Or.inl ⟨im_ij hj f1.1 f2.1 (a1.symm.trans b1), im_ij hj f1.2 f2.2 (a2.symm.trans b2)⟩
    · exact Or.inr ⟨b0, im_ij hj f1.1 f2.2 (a1.symm.trans b1), im_ij hj f1.2 f2.1 (a2.symm.trans b2)⟩
  · rcases h2.1 with ⟨b1, b2⟩ | ⟨b0, b1, b2⟩
    · exact Or.inr ⟨a0, im_ij hj f1.1 f2.2 (a2.symm.trans b2), im_ij hj f1.2 f2.1 (a1.symm.trans b1)⟩
    · exact Or.inl ⟨im_ij hj f1.1 f2.1 (a2.symm.trans b2), im_ij hj f1.2 f2.2 (a1.symm.trans b1)⟩
theorem ar_rl {k i j : Nat} (h1 : amP d F T W C F' T' W' C' im i j) (h : ((F i = F k ∧ T i = T k) ∨ (d = 0 ∧ F i = T k ∧ T i = F k)) ∧ W i = W k ∧ C i = C k) : amP d F T W C F' T' W' C' im k j := by
  refine ⟨?_, h1.2.1.trans h.2.1, h1.2.2.trans h.2.2⟩
  rcases h.1 with ⟨b1, b2⟩ | ⟨b0, b1, b2⟩
  · rw [← b1, ← b2]; exact h1.1
  · rw [← b1, ← b2]
    rcases h1.1 with ⟨a1, a2⟩ | ⟨a0, a1, a2⟩
    · exact Or.inr ⟨b0, a1, a2⟩
    · exact Or.inl ⟨a1, a2⟩
theorem ar_no (hFT : ∀ k, k < m → (0 ≤ F k ∧ F k < (n : Int)) ∧ 0 ≤ T k ∧ T k < (n : Int)) (h : vaP (isP m d F T W C F' T' W' C') (n : Int) im) {σ : Nat → Nat} {i : Nat} (hi : i < m) (hs : ∀ a, a < i → amP d F T W C F' T' W' C' im a (σ a)) : ∃ j, j < m ∧ (∀ a, a < i → σ a ≠ j) ∧ amP d F T W C F' T' W' C' im i j := Classical.byContradiction (fun g => by
  have hn : ∀ j, j < m → amP d F T W C F' T' W' C' im i j → ∃ a, a < i ∧ σ a = j := fun j hj hm => Classical.byContradiction (fun q => g ⟨j, hj, fun a ha e => q ⟨a, ha, e⟩, hm⟩)
  have e := va_tm hFT h hi
  rw [tm_cn, tm_cn] at e
  have e1 : ((cnP (fun k => ((F k = F i ∧ T k = T i) ∨ (d = 0 ∧ F k = T i ∧ T k = F i)) ∧ W k = W i ∧ C k = C i) m : Nat) : Int) = (cnP (fun j => amP d F T W C F' T' W' C' im i j) m : Nat) := e
  have a1 : cnP (fun j => amP d F T W C F' T' W' C' im i j) m ≤ cnP (fun k => k < i ∧ (((F k = F i ∧ T k = T i) ∨ (d = 0 ∧ F k = T i ∧ T k = F i)) ∧ W k = W i ∧ C k = C i)) m := cnP_rel (R := fun j k => k < i ∧ σ k = j) (fun j hj hm => by
    obtain ⟨a, ha, ea⟩ := hn j hj hm
    have hm2 := hs a ha
    rw [ea] at hm2
    exact ⟨a, by omega, ⟨ha, ar_cl hFT h.2 (by omega) hi hm2 hm⟩, ha, ea⟩) (fun j j' k _ _ _ _ r1 r2 => r1.2.symm.trans r2.2)
  have a2 : cnP (fun k => k < i ∧ (((F k = F i ∧ T k = T i) ∨ (d = 0 ∧ F k = T i ∧ T k = F i)) ∧ W k = W i ∧ C k = C i)) m < cnP (fun k => ((F k = F i ∧ T k = T i) ∨ (d = 0 ∧ F k = T i ∧ T k = F i)) ∧ W k = W i ∧ C k = C i) m := cnP_lt (u := i) (fun k _ hk => hk.2) hi ⟨Or.inl ⟨rfl, rfl⟩, rfl, rfl⟩ (fun q => absurd q.1 (by omega))
  omega)
theorem ar_ex (hFT : ∀ k, k < m → (0 ≤ F k ∧ F k < (n : Int)) ∧ 0 ≤ T k ∧ T k < (n : Int)) (h : vaP (isP m d F T W C F' T' W' C') (n : Int) im) : ∀ i, i ≤ m → ∃ σ : Nat → Nat, (∀ a, a < i → σ a < m ∧ amP d F T W C F' T' W' C' im a (σ a)) ∧ ∀ a b, a < i → b < i → σ a = σ b → a = b
  | 0, _ => ⟨id, fun a ha => by omega, fun a b ha => by omega⟩
  | i + 1, hi => by
    obtain ⟨σ, s1, s2⟩ := ar_ex hFT h i (by omega)
    obtain ⟨j, j1, j2, j3⟩ := ar_no hFT h (i := i) (by omega) (fun a ha => (s1 a ha).2)
    refine ⟨fun a => if a = i then j else σ a, fun a ha => ?_, fun a b ha hb e => ?_⟩
    · show (if a = i then j else σ a) < m ∧ amP d F T W C F' T' W' C' im a (if a = i then j else σ a)
      by_cases q : a = i
      · rw [if_pos q, q]; exact ⟨j1, j3⟩
      · rw [if_neg q]; exact s1 a (by omega)
    · have e1 : (if a = i then j else σ a) = (if b = i then j else σ b) := e
      by_cases q : a = i
      · by_cases q1 : b = i
        · omega
        · rw [if_pos q, if_neg q1] at e1
          exact absurd e1.symm (j2 b (by omega))
      · by_cases q1 : b = i
        · rw [if_neg q, if_pos q1] at e1
          exact absurd e1 (j2 a (by omega))
        · rw [if_neg q, if_neg q1] at e1
          exact s2 a b (by omega) (by omega) e1
theorem im_ji (hj : ∀ i j : Nat, (i : Int) < (n : Int) → (j : Int) < (n : Int) → im i = im j → i = j) {x : Int} {w : Nat} (hx : 0 ≤ x ∧ x < (n : Int)) (hw : (w : Int) < (n : Int)) : im x.toNat = im w ↔ x = (w : Int) :=
  ⟨fun e => by have := hj x.toNat w (by omega) hw e; omega, fun e => by rw [e]; rfl⟩
theorem va_of (hFT : ∀ k, k < m → (0 ≤ F k ∧ F k < (n : Int)) ∧ 0 ≤ T k ∧ T k < (n : Int)) (hr : ∀ v : Nat, (v : Int) < (n : Int) → 0 ≤ im v ∧ im v < (n : Int)) (hj : ∀ i j : Nat, (i : Int) < (n : Int) → (j : Int) < (n : Int) → im i = im j → i = j) {σ : Nat → Nat} (s1 : ∀ a, a < m → σ a < m ∧ amP d F T W C F' T' W' C' im a (σ a)) (s2 : ∀ a b, a < m → b < m → σ a = σ b → a = b) : vaP (isP m d F T W C F' T' W' C') (n : Int) im := by
  refine ⟨fun v hv => ⟨hr v hv, fun _ => ⟨?_, fun u hu => ⟨fun k hk hb => ?_, ?_⟩⟩⟩, hj⟩
  · refine (sgm_pm (σ := σ) (fun i hi => (s1 i hi).1) s2 (fun i hi => ?_)).symm
    have f1 := hFT i hi
    show (if F' (σ i) = im v then (1 : Int) else 0) + (if T' (σ i) = im v then (if d = 0 then 1 else 1000) else 0) = (if F i = (v : Int) then (1 : Int) else 0) + (if T i = (v : Int) then (if d = 0 then 1 else 1000) else 0)
    rcases (s1 i hi).2.1 with ⟨a1, a2⟩ | ⟨a0, a1, a2⟩
    · have q1 : F' (σ i) = im v ↔ F i = (v : Int) := by rw [a1]; exact im_ji hj f1.1 hv
      have q2 : T' (σ i) = im v ↔ T i = (v : Int) := by rw [a2]; exact im_ji hj f1.2 hv
      by_cases c1 : F i = (v : Int)
      · by_cases c2 : T i = (v : Int)
        · rw [if_pos (q1.mpr c1), if_pos (q2.mpr c2), if_pos c1, if_pos c2]
        · rw [if_pos (q1.mpr c1), if_neg (fun g => c2 (q2.mp g)), if_pos c1, if_neg c2]
      · by_cases c2 : T i = (v : Int)
        · rw [if_neg (fun g => c1 (q1.mp g)), if_pos (q2.mpr c2), if_neg c1, if_pos c2]
        · rw [if_neg (fun g => c1 (q1.mp g)), if_neg (fun g => c2 (q2.mp g)), if_neg c1, if_neg c2]
    · have q1 : F' (σ i) = im v ↔ T i = (v : Int) := by rw [a1]; exact im_ji hj f1.2 hv
      have q2 : T' (σ i) = im v ↔ F i = (v : Int) := by rw [a2]; exact im_ji hj f1.1 hv
      rw [if_pos a0]
      by_cases c1 : F i = (v : Int)
      · by_cases c2 : T i = (v : Int)
        · rw [if_pos (q1.mpr c2), if_pos (q2.mpr c1), if_pos c1, if_pos c2]
        · rw [if_neg (fun g => c2 (q1.mp g)), if_pos (q2.mpr c1), if_pos c1, if_neg c2]; rfl
      · by_cases c2 : T i = (v : Int)
        · rw [if_pos (q1.mpr c2), if_neg (fun g => c1 (q2.mp g)), if_neg c1, if_pos c2]; rfl
        · rw [if_neg (fun g => c2 (q1.mp g)), if_neg (fun g => c1 (q2.mp g)), if_neg c1, if_neg c2]
  · refine (sgm_pm (σ := σ) (fun i hi => (s1 i hi).1) s2 (fun i hi => ?_)).symm
    have q : amP d F T W C F' T' W' C' im k (σ i) ↔ ((F i = F k ∧ T i = T k) ∨ (d = 0 ∧ F i = T k ∧ T i = F k)) ∧ W i = W k ∧ C i = C k := ⟨fun g => ar_cl hFT hj hi hk (s1 i hi).2 g, fun g => ar_rl (s1 i hi).2 g⟩
    show (if ((F' (σ i) = im (F k).toNat ∧ T' (σ i) = im (T k).toNat) ∨ (d = 0 ∧ F' (σ i) = im (T k).toNat ∧ T' (σ i) = im (F k).toNat)) ∧ W' (σ i) = W k ∧ C' (σ i) = C k then (1 : Int) else 0) = (if ((F i = F k ∧ T i = T k) ∨ (d = 0 ∧ F i = T k ∧ T i = F k)) ∧ W i = W k ∧ C i = C k then (1 : Int) else 0)
    by_cases c : ((F i = F k ∧ T i = T k) ∨ (d = 0 ∧ F i = T k ∧ T i = F k)) ∧ W i = W k ∧ C i = C k
    · rw [if_pos c]; exact if_pos (q.mpr c)
    · rw [if_neg c]; exact if_neg (fun g => c (q.mp g))
  · refine (sgm_pm (σ := σ) (fun i hi => (s1 i hi).1) s2 (fun i hi => ?_)).symm
    have f1 := hFT i hi
    have hu9 : (u : Int) < (n : Int) := by omega
    have q : ((F' (σ i) = im u ∧ T' (σ i) = im v) ∨ (F' (σ i) = im v ∧ T' (σ i) = im u)) ↔ ((F i = (u : Int) ∧ T i = (v : Int)) ∨ (F i = (v : Int) ∧ T i = (u : Int))) := by
      rcases (s1 i hi).2.1 with ⟨a1, a2⟩ | ⟨a0, a1, a2⟩
      · rw [a1, a2, im_ji hj f1.1 hv, im_ji hj f1.1 hu9, im_ji hj f1.2 hv, im_ji hj f1.2 hu9]
      · rw [a1, a2, im_ji hj f1.1 hv, im_ji hj f1.1 hu9, im_ji hj f1.2 hv, im_ji hj f1.2 hu9]
        exact ⟨fun g => g.elim (fun g => Or.inr ⟨g.2, g.1⟩) (fun g => Or.inl ⟨g.2, g.1⟩), fun g => g.elim (fun g => Or.inr ⟨g.2, g.1⟩) (fun g => Or.inl ⟨g.2, g.1⟩)⟩
    show (if (F' (σ i) = im u ∧ T' (σ i) = im v) ∨ (F' (σ i) = im v ∧ T' (σ i) = im u) then (1 : Int) else 0) = (if (F i = (u : Int) ∧ T i = (v : Int)) ∨ (F i = (v : Int) ∧ T i = (u : Int)) then (1 : Int) else 0)
    by_cases c : (F i = (u : Int) ∧ T i = (v : Int)) ∨ (F i = (v : Int) ∧ T i = (u : Int))
    · rw [if_pos c]; exact if_pos (q.mpr c)
    · rw [if_neg c]; exact if_neg (fun g => c (q.mp g))
end AL
/-- mixing -/
def lu9 (x : Int64) (k : Int32) : Int64 := (x.toUInt64 >>> (k.toInt64.toUInt64 &&& Int64.toUInt64 63)).toInt64
def sc1 (x : Int64) (k : Int32) : Int64 := (x ^^^ lu9 x k) * ((-7046029254386353131) : Int64)
def scR (x : Int64) : Int64 := sc1 (sc1 x (iv 31)) (iv 29) ^^^ lu9 (sc1 (sc1 x (iv 31)) (iv 29)) (iv 32)
def kdA (W C : Nat → Int) (k : Nat) : Int64 := scR ((iv (W k)).toInt64 * 4096 + (iv (C k)).toInt64 + 1)
def krA (d : Int) (W C : Nat → Int) (k : Nat) : Int64 := if d = 0 then kdA W C k else scR (kdA W C k)
/-- what an arc puts between two nodes -/
def tyF (d : Int) (F T W C : Nat → Int) (u v k : Nat) : Int64 := (if F k = (u : Int) ∧ T k = (v : Int) then kdA W C k else 0) + (if F k ≠ T k ∧ T k = (u : Int) ∧ F k = (v : Int) then krA d W C k else 0)
def tyA (d : Int) (F T W C : Nat → Int) (m u v : Nat) : Int64 := sm64 (tyF d F T W C u v) m
theorem tyf_pm {d : Int} {F T W C F' T' W' C' im : Nat → Int} {m n i j u v pu pv : Nat} (hFT : ∀ k, k < m → (0 ≤ F k ∧ F k < (n : Int)) ∧ 0 ≤ T k ∧ T k < (n : Int)) (hj : ∀ i j : Nat, (i : Int) < (n : Int) → (j : Int) < (n : Int) → im i = im j → i = j) (hi : i < m) (h : amP d F T W C F' T' W' C' im i j) (hu : (u : Int) < (n : Int)) (hv : (v : Int) < (n : Int)) (hpu : (pu : Int) = im u) (hpv : (pv : Int) = im v) : tyF d F' T' W' C' pu pv j = tyF d F T W C u v i := by
  have f1 := hFT i hi
  have ek : kdA W' C' j = kdA W C i := by unfold kdA; rw [h.2.1, h.2.2]
  have er : krA d W' C' j = krA d W C i := by unfold krA; rw [ek]
  unfold tyF
  rw [ek, er, hpu, hpv]
  have fu := im_ji (im := im) hj f1.1 hu
  have fv := im_ji (im := im) hj f1.1 hv
  have tu := im_ji (im := im) hj f1.2 hu
  have tv := im_ji (im := im) hj f1.2 hv
  have ne : im (F i).toNat = im (T i).toNat ↔ F i = T i := ⟨fun e => im_ij hj f1.1 f1.2 e, fun e => by rw [e]⟩
  rcases h.1 with ⟨a1, a2⟩ | ⟨a0, a1, a2⟩
  · rw [a1, a2]
    have q1 : (im (F i).toNat = im u ∧ im (T i).toNat = im v) ↔ (F i = (u : Int) ∧ T i = (v : Int)) := by rw [fu, tv]
    have q2 : (im (F i).toNat ≠ im (T i).toNat ∧ im (T i).toNat = im u ∧ im (F i).toNat = im v) ↔ (F i ≠ T i ∧ T i = (u : Int) ∧ F i = (v : Int)) := by rw [tu, fv, Ne, ne]
    rw [ite_congr (propext q1) (fun _ => rfl) (fun _ => rfl), ite_congr (propext q2) (fun _ => rfl) (fun _ => rfl)]
  · rw [a1, a2]
    have e0 : krA d W C i = kdA W C i := if_pos a0
    have q1 : (im (T i).toNat = im u ∧ im (F i).toNat = im v) ↔ (T i = (u : Int) ∧ F i = (v : Int)) := by rw [tu, fv]
    have q2 : (im (T i).toNat ≠ im (F i).toNat ∧ im (F i).toNat = im u ∧ im (T i).toNat = im v) ↔ (F i ≠ T i ∧ F i = (u : Int) ∧ T i = (v : Int)) := by
      rw [fu, tv]
      exact ⟨fun g => ⟨fun e => g.1 (by rw [e]), g.2⟩, fun g => ⟨fun e => g.1 (ne.mp e.symm), g.2⟩⟩
    rw [ite_congr (propext q1) (fun _ => rfl) (fun _ => rfl), ite_congr (propext q2) (fun _ => rfl) (fun _ => rfl), e0]
    by_cases e : F i = T i
    · have p1 : ¬ (F i ≠ T i ∧ F i = (u : Int) ∧ T i = (v : Int)) := fun g => g.1 e
      have p2 : ¬ (F i ≠ T i ∧ T i = (u : Int) ∧ F i = (v : Int)) := fun g => g.1 e
      have p3 : (T i = (u : Int) ∧ F i = (v : Int)) ↔ (F i = (u : Int) ∧ T i = (v : Int)) := by rw [e]
      rw [if_neg p1, if_neg p2, ite_congr (propext p3) (fun _ => rfl) (fun _ => rfl)]
    · have p1 : (F i ≠ T i ∧ F i = (u : Int) ∧ T i = (v : Int)) ↔ (F i = (u : Int) ∧ T i = (v : Int)) := ⟨fun g => g.2, fun g => ⟨e, g⟩⟩
      have p2 : (F i ≠ T i ∧ T i = (u : Int) ∧ F i = (v : Int)) ↔ (T i = (u : Int) ∧ F i = (v : Int)) := ⟨fun g => g.2, fun g => ⟨e, g⟩⟩
      rw [ite_congr (propext p1) (fun _ => rfl) (fun _ => rfl), ite_congr (propext p2) (fun _ => rfl) (fun _ => rfl), Int64.add_comm]
/-- the ties of one graph stand from a place on -/
def tfI (d : Int) (F T W C : Nat → Int) (st : Nat) (Ti0 Ti : Nat → Int64) (k : Nat) : Prop := (∀ u v, u < 16 → v < 16 → Ti (st + (16 * u + v)) = tyA d F T W C k u v) ∧ ∀ q, (q < st ∨ st + 256 ≤ q) → Ti q = Ti0 q
theorem tf_0 {d : Int} {F T W C : Nat → Int} {st : Nat} {Ti : Nat → Int64} (h : ∀ q, st ≤ q → q < st + 256 → Ti q = 0) : tfI d F T W C st Ti Ti 0 := ⟨fun u v hu hv => h _ (by omega) (by omega), fun _ _ => rfl⟩
theorem tf_eq {d : Int} {F T W C : Nat → Int} {st k a : Nat} {Ti0 Ti : Nat → Int64} (h : tfI d F T W C st Ti0 Ti k) (hF : 0 ≤ F k ∧ F k < 16) (hT : 0 ≤ T k ∧ T k < 16) (e : F k = T k) (ha : (a : Int) = st + F k * 16 + T k) : tfI d F T W C st Ti0 (fuj Ti a (Ti a + kdA W C k)) (k + 1) := by
  refine ⟨fun u v hu hv => ?_, fun q hq => ?_⟩
  · have h1 := h.1 u v hu hv
    show (if st + (16 * u + v) = a then Ti a + kdA W C k else Ti (st + (16 * u + v))) = tyA d F T W C k u v + ((if F k = (u : Int) ∧ T k = (v : Int) then kdA W C k else 0) + (if F k ≠ T k ∧ T k = (u : Int) ∧ F k = (v : Int) then krA d W C k else 0))
    have p2 : ¬ (F k ≠ T k ∧ T k = (u : Int) ∧ F k = (v : Int)) := fun g => g.1 e
    rw [if_neg p2, Int64.add_zero]
    by_cases c : F k = (u : Int) ∧ T k = (v : Int)
    · have ea : st + (16 * u + v) = a := by omega
      rw [if_pos c, if_pos ea, ← ea, h1]
    · have ea : ¬ st + (16 * u + v) = a := fun g => c ⟨by omega, by omega⟩
      rw [if_neg c, if_neg ea, Int64.add_zero, h1]
  · show (if q = a then Ti a + kdA W C k else Ti q) = Ti0 q
    rw [if_neg (by omega)]; exact h.2 q hq
theorem tf_ne {d : Int} {F T W C : Nat → Int} {st k a b : Nat} {Ti0 Ti : Nat → Int64} {w : Int64} (h : tfI d F T W C st Ti0 Ti k) (hF : 0 ≤ F k ∧ F k < 16) (hT : 0 ≤ T k ∧ T k < 16) (e : F k ≠ T k) (ha : (a : Int) = st + F k * 16 + T k) (hb : (b : Int) = st + T k * 16 + F k) (hw : w = fuj Ti a (Ti a + kdA W C k) b + krA d W C k) : tfI d F T W C st Ti0 (fuj (fuj Ti a (Ti a + kdA W C k)) b w) (k + 1) := by
  have hab : b ≠ a := by omega
  have hw1 : w = Ti b + krA d W C k := by rw [hw]; show (if b = a then _ else Ti b) + _ = _; rw [if_neg hab]
  refine ⟨fun u v hu hv => ?_, fun q hq => ?_⟩
  · have h1 := h.1 u v hu hv
    show (if st + (16 * u + v) = b then w else (if st + (16 * u + v) = a then Ti a + kdA W C k else Ti (st + (16 * u + v)))) = tyA d F T W C k u v + ((if F k = (u : Int) ∧ T k = (v : Int) then kdA W C k else 0) + (if F k ≠ T k ∧ T k = (u : Int) ∧ F k = (v : Int) then krA d W C k else 0))
    by_cases c : F k = (u : Int) ∧ T k = (v : Int)
    · have ea : st + (16 * u + v) = a := by omega
      have p2 : ¬ (F k ≠ T k ∧ T k = (u : Int) ∧ F k = (v : Int)) := fun g => g.1 (by omega)
      have eb : ¬ st + (16 * u + v) = b := by omega
      rw [if_pos c, if_neg p2, if_neg eb, if_pos ea, Int64.add_zero, ← ea, h1]
    · have ea : ¬ st + (16 * u + v) = a := fun g => c ⟨by omega, by omega⟩
      rw [if_neg c, if_neg ea, Int64.zero_add]
      by_cases c2 : T k = (u : Int) ∧ F k = (v : Int)
      · have eb : st + (16 * u + v) = b := by omega
        have p2 : F k ≠ T k ∧ T k = (u : Int) ∧ F k = (v : Int) := ⟨e, c2⟩
        rw [if_pos p2, if_pos eb, hw1, ← eb, h1]
      · have eb : ¬ st + (16 * u + v) = b := fun g => c2 ⟨by omega, by omega⟩
        have p2 : ¬ (F k ≠ T k ∧ T k = (u : Int) ∧ F k = (v : Int)) := fun g => c2 g.2
        rw [if_neg p2, if_neg eb, Int64.add_zero, h1]
  · show (if q = b then w else (if q = a then Ti a + kdA W C k else Ti q)) = Ti0 q
    rw [if_neg (by omega), if_neg (by omega)]; exact h.2 q hq
/-- a numbering keeps the ties -/
def tpP (Ti : Nat → Int64) (n : Nat) (p : Nat → Nat) : Prop := (∀ v, v < n → p v < n) ∧ (∀ i j, i < n → j < n → p i = p j → i = j) ∧ ∀ u v, u < n → v < n → Ti (16 * u + v) = Ti (256 + (16 * p u + p v))
theorem tp_of {d : Int} {F T W C F' T' W' C' im : Nat → Int} {m n : Nat} {Ti : Nat → Int64} (hn : n ≤ 16) (hFT : ∀ k, k < m → (0 ≤ F k ∧ F k < (n : Int)) ∧ 0 ≤ T k ∧ T k < (n : Int)) (h1 : ∀ u v, u < 16 → v < 16 → Ti (16 * u + v) = tyA d F T W C m u v) (h2 : ∀ u v, u < 16 → v < 16 → Ti (256 + (16 * u + v)) = tyA d F' T' W' C' m u v) (h : vaP (isP m d F T W C F' T' W' C') (n : Int) im) : tpP Ti n (fun v => (im v).toNat) := by
  have hr : ∀ v, v < n → (im v).toNat < n ∧ (((im v).toNat : Nat) : Int) = im v := fun v hv => by
    have := (h.1 v (by omega)).1
    omega
  refine ⟨fun v hv => (hr v hv).1, fun i j hi hj e => ?_, fun u v hu hv => ?_⟩
  · have e1 : (im i).toNat = (im j).toNat := e
    have := (hr i hi).2
    have := (hr j hj).2
    exact h.2 i j (by omega) (by omega) (by omega)
  · obtain ⟨σ, s1, s2⟩ := ar_ex hFT h m (Nat.le_refl m)
    show Ti (16 * u + v) = Ti (256 + (16 * (im u).toNat + (im v).toNat))
    rw [h1 u v (by omega) (by omega), h2 _ _ (by have := (hr u hu).1; omega) (by have := (hr v hv).1; omega)]
    exact (sm64_pm (σ := σ) (fun i hi => (s1 i hi).1) s2 (fun i hi => tyf_pm hFT h.2 hi (s1 i hi).2 (by omega) (by omega) (hr u hu).2 (hr v hv).2)).symm
/-- a numbering keeps the colours -/
def cvP (Co : Nat → Int64) (row n : Nat) (p : Nat → Nat) : Prop := ∀ v, v < n → Co (row + v) = Co (row + 16 + p v)
def rcT (Ti Co : Nat → Int64) (row side v u : Nat) : Int64 := if Ti (16 * (side + v) + u) = 0 then 0 else scR (Ti (16 * (side + v) + u) + Co (row + side + u))
def rcV (Ti Co : Nat → Int64) (row side n v : Nat) : Int64 := scR (3 * Co (row + side + v) + sm64 (rcT Ti Co row side v) n)
theorem rc_cv {Ti Co Fr : Nat → Int64} {row n : Nat} {p : Nat → Nat} (hp : tpP Ti n p) (hc : cvP Co row n p) (h0 : ∀ v, v < n → Fr (0 + v) = rcV Ti Co row 0 n v) (h1 : ∀ v, v < n → Fr (16 + v) = rcV Ti Co row 16 n v) : ∀ v, v < n → Fr v = Fr (16 + p v) := by
  intro v hv
  have h0v := h0 v hv
  rw [Nat.zero_add] at h0v
  rw [h0v, h1 (p v) (hp.1 v hv)]
  unfold rcV
  have e1 : Co (row + 16 + p v) = Co (row + 0 + v) := (hc v hv).symm
  have e2 : sm64 (rcT Ti Co row 16 (p v)) n = sm64 (rcT Ti Co row 0 v) n := sm64_pm (σ := p) hp.1 hp.2.1 (fun u hu => by
    have t : Ti (16 * (16 + p v) + p u) = Ti (16 * (0 + v) + u) := by
      rw [show 16 * (16 + p v) + p u = 256 + (16 * p v + p u) by omega, show 16 * (0 + v) + u = 16 * v + u by omega]
      exact (hp.2.2 v u hv hu).symm
    have t2 : Co (row + 16 + p u) = Co (row + 0 + u) := (hc u hu).symm
    unfold rcT
    rw [t, t2])
  rw [e1, e2]
/-- so many of the first graph's nodes have found one of their colour -/
def hsI (Co : Nat → Int64) (row : Nat) (tk v : Int) : Prop := ∃ t : Nat → Nat, ∀ u, Me tk u ↔ ∃ w : Nat, (w : Int) < v ∧ t w = u ∧ Co (row + w) = Co (row + 16 + u)
theorem hs_0 {Co : Nat → Int64} {row : Nat} : hsI Co row 0 0 := ⟨id, fun u => ⟨fun g => absurd g (Me_0 u), fun ⟨w, h, _⟩ => by omega⟩⟩
theorem hs_up {Co : Nat → Int64} {row u : Nat} {tk tk1 v : Int} (h : hsI Co row tk v) (hv : 0 ≤ v) (hu : Co (row + 16 + u) = Co (row + v.toNat)) (h1 : ∀ i, Me tk1 i ↔ Me tk i ∨ i = u) : hsI Co row tk1 (v + 1) := by
  obtain ⟨t, ht⟩ := h
  refine ⟨fun w => if w = v.toNat then u else t w, fun x => ?_⟩
  rw [h1 x, ht x]
  constructor
  · rintro (⟨w, w1, w2, w3⟩ | e)
    · exact ⟨w, by omega, by show (if w = v.toNat then u else t w) = x; rw [if_neg (by omega)]; exact w2, w3⟩
    · exact ⟨v.toNat, by omega, by show (if v.toNat = v.toNat then u else t v.toNat) = x; rw [if_pos rfl]; exact e.symm, by rw [e]; exact hu.symm⟩
  · rintro ⟨w, w1, w2, w3⟩
    have w4 : (if w = v.toNat then u else t w) = x := w2
    by_cases e : w = v.toNat
    · rw [if_pos e] at w4; exact Or.inr w4.symm
    · rw [if_neg e] at w4; exact Or.inl ⟨w, by omega, w4, w3⟩
theorem hs_no {Co : Nat → Int64} {row n : Nat} {tk v : Int} (h : hsI Co row tk v) (hv : 0 ≤ v ∧ v < (n : Int)) (hno : ∀ u, u < n → ¬ Me tk u → Co (row + 16 + u) ≠ Co (row + v.toNat)) {p : Nat → Nat} (hp : ∀ v, v < n → p v < n) (hj : ∀ i j, i < n → j < n → p i = p j → i = j) : ¬ cvP Co row n p := fun hc => by
  obtain ⟨t, ht⟩ := h
  have a1 : cnP (fun w => Co (row + w) = Co (row + v.toNat)) n ≤ cnP (fun w => (w : Int) < v ∧ Co (row + w) = Co (row + v.toNat)) n := cnP_rel (R := fun w w' => t w' = p w) (fun w hw e => by
    have e1 := hc w hw
    have hm : Me tk (p w) := Classical.byContradiction (fun g => hno (p w) (hp w hw) g (e1.symm.trans e))
    obtain ⟨x, x1, x2, x3⟩ := (ht (p w)).mp hm
    exact ⟨x, by omega, ⟨x1, x3.trans (e1.symm.trans e)⟩, x2⟩) (fun i i' j hi hi' _ _ r1 r2 => hj i i' hi hi' (r1.symm.trans r2))
  have a2 : cnP (fun w => (w : Int) < v ∧ Co (row + w) = Co (row + v.toNat)) n < cnP (fun w => Co (row + w) = Co (row + v.toNat)) n := cnP_lt (u := v.toNat) (fun _ _ hk => hk.2) (by omega) rfl (fun q => absurd q.1 (by omega))
  omega
/-- what copies of colours, a new colour for a pair keep -/
theorem cv_cp {Co Fr Co1 : Nat → Int64} {row n : Nat} {p : Nat → Nat} (hn : n ≤ 16) (hp : ∀ v, v < n → p v < n) (h1 : ∀ i, i < 32 → Co1 (row + i) = Fr i) (h : ∀ v, v < n → Fr v = Fr (16 + p v)) : cvP Co1 row n p := fun v hv => by
  have := hp v hv
  rw [h1 v (by omega), show row + 16 + p v = row + (16 + p v) by omega, h1 _ (by omega)]
  exact h v hv
theorem cv_mk {Co Co1 : Nat → Int64} {row n v u : Nat} {own : Int64} {p : Nat → Nat} (hn : n ≤ 16) (hv : v < n) (hu : u < 16) (hp : ∀ v, v < n → p v < n) (hj : ∀ i j, i < n → j < n → p i = p j → i = j) (hpu : p v = u) (h1 : ∀ i, i < 32 → Co1 (row + 32 + i) = if i = 16 + u then own else if i = v then own else Co (row + i)) (h : cvP Co row n p) : cvP Co1 (row + 32) n p := fun w hw => by
  have g1 := hp w hw
  rw [h1 w (by omega), show row + 32 + 16 + p w = row + 32 + (16 + p w) by omega, h1 _ (by omega)]
  rw [if_neg (show ¬ w = 16 + u by omega)]
  by_cases e : w = v
  · rw [if_pos e, if_pos (by rw [e, hpu])]
  · rw [if_neg e, if_neg (fun q => e (hj w v hw hv (by omega))), if_neg (by omega), show row + (16 + p w) = row + 16 + p w by omega]
    exact h w hw
/-- what firstLike finds -/
def flQ (Co : Nat → Int64) (row n : Nat) (c : Int64) (tk r : Int) : Prop := (r < 0 → ∀ u, u < n → ¬ Me tk u → Co (row + 16 + u) ≠ c) ∧ (0 ≤ r → ¬ Me tk r.toNat ∧ Co (row + 16 + r.toNat) = c ∧ ∀ u : Nat, (u : Int) < r → ¬ Me tk u → Co (row + 16 + u) ≠ c)
def flJ (Co : Nat → Int64) (row : Nat) (c : Int64) (tk v : Int) : Prop := ∀ u : Nat, (u : Int) < v → ¬ Me tk u → Co (row + 16 + u) ≠ c
theorem flj_0 {Co : Nat → Int64} {row : Nat} {c : Int64} {tk : Int} : flJ Co row c tk 0 := fun u hu => by omega
theorem flj_up {Co : Nat → Int64} {row : Nat} {c : Int64} {tk v : Int} (h : flJ Co row c tk v) (hv : 0 ≤ v) (h1 : ¬ Me tk v.toNat → Co (row + 16 + v.toNat) ≠ c) : flJ Co row c tk (v + 1) := fun u hu hm => by
  by_cases e : u = v.toNat
  · rw [e] at hm ⊢; exact h1 hm
  · exact h u (by omega) hm
