/-- a mask as a set -/
def bS (S : Nat) : Nat → Bool := fun i => S.testBit i
theorem bs_2k {k t : Nat} (h : t < 2 ^ k) : bS (2 ^ k + t) = bst (bS t) k true := by
  funext i
  have e : 2 ^ k + t = 2 ^ k ||| t := by
    have := Nat.two_pow_add_eq_or_of_lt h 1
    rw [Nat.mul_one] at this; exact this
  show (2 ^ k + t).testBit i = bst (bS t) k true i
  rw [e, Nat.testBit_or, Nat.testBit_two_pow]
  by_cases q : i = k
  · rw [q, bst_s, decide_eq_true rfl, Bool.true_or]
  · rw [bst_o q, decide_eq_false (fun e => q e.symm), Bool.false_or]; rfl
theorem sgm_pl {f : Nat → Int} {a : Nat} : ∀ b : Nat, sgm f (a + b) = sgm f a + sgm (fun t => f (a + t)) b
  | 0 => by show sgm f a = sgm f a + 0; omega
  | b + 1 => by
    show sgm f (a + b) + f (a + b) = sgm f a + (sgm (fun t => f (a + t)) b + f (a + b))
    rw [sgm_pl b]; omega
theorem sg_us {U : Nat → Bool} : ∀ {k : Nat} {f : Nat → Int} {φ : (Nat → Bool) → Int}, (∀ t, t < 2 ^ k → (∀ i, t.testBit i = true → U i = true) → f t = φ (bS t)) → (∀ t, t < 2 ^ k → ¬ (∀ i, t.testBit i = true → U i = true) → f t = 0) → sgm f (2 ^ k) = usum U k φ
  | 0, f, φ, h1, _ => by
    show 0 + f 0 = φ (fun _ => false)
    rw [h1 0 (by decide) (fun i hi => by rw [Nat.zero_testBit] at hi; exact absurd hi Bool.false_ne_true), Int.zero_add]
    congr 1
    funext i
    exact Nat.zero_testBit i
  | k + 1, f, φ, h1, h2 => by
    have e2 : 2 ^ (k + 1) = 2 ^ k + 2 ^ k := by rw [Nat.pow_succ]; omega
    rw [e2, sgm_pl]
    have hlt : ∀ t, t < 2 ^ k → t < 2 ^ (k + 1) ∧ 2 ^ k + t < 2 ^ (k + 1) := fun t ht => by omega
    have i1 := sg_us (U := U) (k := k) (f := f) (φ := φ) (fun t ht hs => h1 t (hlt t ht).1 hs) (fun t ht hs => h2 t (hlt t ht).1 hs)
    have hb : ∀ t, t < 2 ^ k → ∀ i, (2 ^ k + t).testBit i = bst (bS t) k true i := fun t ht i => congrFun (bs_2k ht) i
    by_cases g : U k = true
    · rw [ug_y g, i1]
      have i2 := sg_us (U := U) (k := k) (f := fun t => f (2 ^ k + t)) (φ := fun X => φ (bst X k true)) (fun t ht hs => by
        show f (2 ^ k + t) = φ (bst (bS t) k true)
        rw [← bs_2k ht]
        exact h1 _ (hlt t ht).2 (fun i hi => by
          rw [hb t ht i] at hi
          by_cases e : i = k
          · rw [e]; exact g
          · rw [bst_o e] at hi; exact hs i hi)) (fun t ht hs => h2 _ (hlt t ht).2 (fun q => hs (fun i hi => q i (by
          rw [hb t ht i]
          by_cases e : i = k
          · rw [e, bst_s]
          · rw [bst_o e]; exact hi))))
      rw [i2]
    · rw [ug_n g, i1, sgm_cg (f := fun t => f (2 ^ k + t)) (g := fun _ => 0) (fun t ht => h2 _ (hlt t ht).2 (fun q => g (q k (by rw [hb t ht k, bst_s])))), sgm_0, Int.add_zero]
theorem sgm_sw {f : Nat → Nat → Int} {m : Nat} : ∀ n : Nat, sgm (fun b => sgm (fun k => f b k) m) n = sgm (fun k => sgm (fun b => f b k) n) m
  | 0 => (sgm_0 m).symm
  | n + 1 => by
    show sgm (fun b => sgm (fun k => f b k) m) n + sgm (fun k => f n k) m = sgm (fun k => sgm (fun b => f b k) n + f n k) m
    rw [sgm_sw n, sgm_add (f := fun k => sgm (fun b => f b k) n) (g := fun k => f n k)]
theorem sgm_if {f : Nat → Int} {c : Bool} {m : Nat} : (if c = true then sgm f m else 0) = sgm (fun k => if c = true then f k else 0) m := by
  cases c
  · rw [if_neg Bool.false_ne_true]
    exact (sgm_0 m).symm
  · rw [if_pos rfl]; rfl
theorem sgm_md {f g : Nat → Int} {p : Int} : ∀ {n : Nat}, (∀ t, t < n → f t % p = g t % p) → sgm f n % p = sgm g n % p
  | 0, _ => rfl
  | n + 1, h => by
    show (sgm f n + f n) % p = (sgm g n + g n) % p
    rw [Int.add_emod, sgm_md (n := n) (fun t ht => h t (by omega)), h n (by omega), ← Int.add_emod]
/-- how many arcs join two nodes -/
def wB (m : Nat) (F T : Nat → Int) (i j : Nat) : Int := bwA m F T (i : Int) (j : Int)
theorem wb_sy {m : Nat} {F T : Nat → Int} (i j : Nat) : wB m F T i j = wB m F T j i := sgm_cg (fun k _ => by
  have q : ((F k = (i : Int) ∧ T k = (j : Int)) ∨ (F k = (j : Int) ∧ T k = (i : Int))) ↔ ((F k = (j : Int) ∧ T k = (i : Int)) ∨ (F k = (i : Int) ∧ T k = (j : Int))) := Or.comm
  exact ite_congr (propext q) (fun _ => rfl) (fun _ => rfl))
theorem eb_gs {m N r t : Nat} {F T : Nat → Int} (hFT : ∀ k, k < m → (0 ≤ F k ∧ F k < (N : Int)) ∧ 0 ≤ T k ∧ T k < (N : Int)) (hr : t.testBit r = false) : ebA m F T r t = gsF N (wB m F T r) (bS t) := by
  have e1 : gsF N (wB m F T r) (bS t) = sgm (fun b => sgm (fun k => if bS t b = true then bwF F T (r : Int) (b : Int) k else 0) m) N := sgm_cg (fun b _ => sgm_if)
  rw [e1, sgm_sw]
  refine sgm_cg (fun k hk => ?_)
  have hk9 := hFT k hk
  show (if (F k = (r : Int) ∧ t.testBit (T k).toNat = true) ∨ (T k = (r : Int) ∧ t.testBit (F k).toNat = true) then (1 : Int) else 0) = sgm (fun b => if t.testBit b = true then (if (F k = (r : Int) ∧ T k = (b : Int)) ∨ (F k = (b : Int) ∧ T k = (r : Int)) then (1 : Int) else 0) else 0) N
  have one : ∀ x, x < N → t.testBit x = true → (∀ b, b < N → ((F k = (r : Int) ∧ T k = (b : Int)) ∨ (F k = (b : Int) ∧ T k = (r : Int)) ↔ b = x)) → sgm (fun b => if t.testBit b = true then (if (F k = (r : Int) ∧ T k = (b : Int)) ∨ (F k = (b : Int) ∧ T k = (r : Int)) then (1 : Int) else 0) else 0) N = 1 := fun x hx ht hu => by
    rw [sgm_one (a := x) hx (fun b hb hne => by
      show (if t.testBit b = true then (if (F k = (r : Int) ∧ T k = (b : Int)) ∨ (F k = (b : Int) ∧ T k = (r : Int)) then (1 : Int) else 0) else 0) = 0
      rw [if_neg (fun q => hne ((hu b hb).mp q))]
      by_cases c : t.testBit b = true
      · rw [if_pos c]
      · rw [if_neg c])]
    show (if t.testBit x = true then (if (F k = (r : Int) ∧ T k = (x : Int)) ∨ (F k = (x : Int) ∧ T k = (r : Int)) then (1 : Int) else 0) else 0) = 1
    rw [if_pos ht, if_pos ((hu x hx).mpr rfl)]
  have non : (∀ b, b < N → t.testBit b = true → ¬ ((F k = (r : Int) ∧ T k = (b : Int)) ∨ (F k = (b : Int) ∧ T k = (r : Int)))) → sgm (fun b => if t.testBit b = true then (if (F k = (r : Int) ∧ T k = (b : Int)) ∨ (F k = (b : Int) ∧ T k = (r : Int)) then (1 : Int) else 0) else 0) N = 0 := fun hu => by
    rw [sgm_cg (g := fun _ => 0) (fun b hb => by
      show (if t.testBit b = true then (if (F k = (r : Int) ∧ T k = (b : Int)) ∨ (F k = (b : Int) ∧ T k = (r : Int)) then (1 : Int) else 0) else 0) = 0
      by_cases c : t.testBit b = true
      · rw [if_pos c, if_neg (hu b hb c)]
      · rw [if_neg c]), sgm_0]
  by_cases c1 : F k = (r : Int) ∧ t.testBit (T k).toNat = true
  · rw [if_pos (Or.inl c1), one (T k).toNat (by omega) c1.2 (fun b hb => ?_)]
    have hne : (T k).toNat ≠ r := fun e => by rw [e, hr] at c1; exact absurd c1.2 Bool.false_ne_true
    omega
  · by_cases c2 : T k = (r : Int) ∧ t.testBit (F k).toNat = true
    · rw [if_pos (Or.inr c2), one (F k).toNat (by omega) c2.2 (fun b hb => ?_)]
      have hne : (F k).toNat ≠ r := fun e => by rw [e, hr] at c2; exact absurd c2.2 Bool.false_ne_true
      omega
    · rw [if_neg (fun q => q.elim c1 c2), non (fun b hb ht q => ?_)]
      rcases q with ⟨q1, q2⟩ | ⟨q1, q2⟩
      · exact c1 ⟨q1, by rw [q2]; exact ht⟩
      · exact c2 ⟨q2, by rw [q1]; exact ht⟩
theorem tv_f {r s S t : Nat} (hr : S.testBit r = true) (hs : S.testBit s = true) (g : t &&& (S ^^^ 2 ^ r) = t ∧ t.testBit s = true) : (0 < t ∧ 0 < S ^^^ t ∧ S ^^^ t < S) ∧ ∀ i, t.testBit i = true → S.testBit i = true ∧ i ≠ r := by
  have h0 : 0 < t := Nat.pos_of_ne_zero (fun e => by rw [e, Nat.zero_testBit] at g; cases g.2)
  have hsub : ∀ i, t.testBit i = true → S.testBit i = true ∧ i ≠ r := fun i hi => by
    have h9 : (t &&& (S ^^^ 2 ^ r)).testBit i = true := by rw [g.1]; exact hi
    rw [Nat.testBit_and, Bool.and_eq_true, Nat.testBit_xor, Nat.testBit_two_pow] at h9
    have h8 := h9.2
    by_cases e : r = i
    · subst e
      rw [hr] at h8; simp at h8
    · have e2 : decide (r = i) = false := decide_eq_false e
      rw [e2, Bool.xor_false] at h8
      exact ⟨h8, fun q => e q.symm⟩
  have h1 : 0 < S ^^^ t := Nat.pos_of_ne_zero (fun e => by
    have h9 : (S ^^^ t).testBit r = true := by
      rw [Nat.testBit_xor, hr]
      have : t.testBit r = false := Bool.eq_false_iff.mpr (fun q => (hsub r q).2 rfl)
      rw [this]; rfl
    rw [e, Nat.zero_testBit] at h9; cases h9)
  have h2 : S ^^^ t < S := by
    have hle : ∀ i, (S ^^^ t).testBit i = true → S.testBit i = true := fun i hi => by
      rw [Nat.testBit_xor] at hi
      cases q : t.testBit i
      · rw [q, Bool.xor_false] at hi; exact hi
      · exact (hsub i q).1
    have h9 := Me_sub_le (x := ((S ^^^ t : Nat) : Int)) (y := ((S : Nat) : Int)) (Int.natCast_nonneg _) (Int.natCast_nonneg _) hle
    have h8 : S ^^^ t ≠ S := fun e => by
      have h7 : (S ^^^ t).testBit s = S.testBit s := by rw [e]
      rw [Nat.testBit_xor, hs, g.2] at h7; cases h7
    omega
  exact ⟨⟨h0, h1, h2⟩, hsub⟩
theorem bit_lt {S N r : Nat} (h : S.testBit r = true) (hS : S < 2 ^ N) : r < N := Classical.byContradiction (fun g => by
  have h1 : 2 ^ N ≤ 2 ^ r := Nat.pow_le_pow_right (by omega) (by omega)
  rw [Nat.testBit_lt_two_pow (by omega)] at h
  exact absurd h Bool.false_ne_true)
/-- the recursion counts trees -/
theorem st_tr {m N : Nat} {F T : Nat → Int} {p : Int} {sp : Nat → Int} (hFT : ∀ k, k < m → (0 ≤ F k ∧ F k < (N : Int)) ∧ 0 ≤ T k ∧ T k < (N : Int)) (h : ∀ S, 0 < S → S < 2 ^ N → (0 ≤ sp S ∧ sp S < p) ∧ spR sp (ebA m F T) p S) : ∀ S, 0 < S → S < 2 ^ N → sp S % p = trQ (wB m F T) N (bS S) % p := by
  intro S
  induction S using Nat.strongRecOn with
  | _ S ih =>
    intro h0 h1
    obtain ⟨-, r, r1, r2, r3⟩ := h S h0 h1
    have hrN := bit_lt r1 h1
    have tr := tr_q (w := wB m F T) (N := N) wb_sy (B := bS S) hrN r1
    rcases r3 with ⟨g1, g2⟩ | ⟨s, g1, g2, g3, g4⟩
    · rw [g2, tr, k_e (fun i _ => by
        by_cases e : i = r
        · rw [e, bst_s]; exact Bool.false_ne_true
        · rw [bst_o e]
          show ¬ S.testBit i = true
          rw [g1, Nat.testBit_two_pow, decide_eq_false (fun q => e q.symm)]; exact Bool.false_ne_true)]
    · have hsN := bit_lt g2 h1
      rw [g4, Int.emod_emod_of_dvd _ (Int.dvd_refl p)]
      have e1 : sgm (tvF sp (ebA m F T) r s S) S % p = sgm (tvF (fun u => trQ (wB m F T) N (bS u)) (ebA m F T) r s S) S % p := sgm_md (fun t ht => by
        unfold tvF
        by_cases c : t &&& (S ^^^ 2 ^ r) = t ∧ t.testBit s = true
        · obtain ⟨⟨t0, t1, t2⟩, -⟩ := tv_f r1 g2 c
          rw [if_pos c, if_pos c, Int.mul_emod, Int.mul_emod (sp t) (sp (S ^^^ t)), ih t ht t0 (by omega), ih (S ^^^ t) t2 t1 (by omega), ← Int.mul_emod (trQ (wB m F T) N (bS t)) (trQ (wB m F T) N (bS (S ^^^ t))), ← Int.mul_emod]
        · rw [if_neg c, if_neg c])
      rw [e1]
      congr 1
      rw [tr]
      have hx : ∀ i, (S ^^^ 2 ^ r).testBit i = bst (bS S) r false i := fun i => by
        rw [Nat.testBit_xor, Nat.testBit_two_pow]
        by_cases e : i = r
        · rw [e, bst_s, r1, decide_eq_true rfl]; rfl
        · rw [bst_o e, decide_eq_false (fun q => e q.symm), Bool.xor_false]; rfl
      have hsb : ∀ t : Nat, (t &&& (S ^^^ 2 ^ r) = t) ↔ ∀ i, t.testBit i = true → bst (bS S) r false i = true := fun t => by
        constructor
        · intro e i hi
          have h9 : (t &&& (S ^^^ 2 ^ r)).testBit i = true := by rw [e]; exact hi
          rw [Nat.testBit_and, Bool.and_eq_true, hx i] at h9
          exact h9.2
        · intro e
          exact Nat.eq_of_testBit_eq (fun i => by
            rw [Nat.testBit_and]
            cases q : t.testBit i
            · rfl
            · rw [hx i, e i q]; rfl)
      have e2 : sgm (tvF (fun u => trQ (wB m F T) N (bS u)) (ebA m F T) r s S) (2 ^ N) = sgm (tvF (fun u => trQ (wB m F T) N (bS u)) (ebA m F T) r s S) S := sgm_z (by omega) (fun t t1 t2 => tv_0 (fun c => by
        obtain ⟨-, hs1⟩ := tv_f r1 g2 c
        have h9 := Me_sub_le (x := ((t : Nat) : Int)) (y := ((S : Nat) : Int)) (Int.natCast_nonneg _) (Int.natCast_nonneg _) (fun i hi => (hs1 i hi).1)
        have h8 : t = S := by omega
        rw [← h8] at r1
        exact (hs1 r r1).2 rfl))
      rw [← e2]
      have e3 := sg_us (U := bst (bS S) r false) (k := N) (f := tvF (fun u => trQ (wB m F T) N (bS u)) (ebA m F T) r s S) (φ := fun X => if X s = true then trQ (wB m F T) N X * trQ (wB m F T) N (bdf (bS S) X) * gsF N (wB m F T r) X else 0) (fun t ht hs1 => by
        unfold tvF
        show (if t &&& (S ^^^ 2 ^ r) = t ∧ t.testBit s = true then _ else 0) = (if t.testBit s = true then _ else 0)
        by_cases c : t.testBit s = true
        · rw [if_pos c, if_pos ⟨(hsb t).mpr hs1, c⟩, eb_gs hFT (by
            cases q : t.testBit r
            · rfl
            · have := hs1 r q; rw [bst_s] at this; exact absurd this Bool.false_ne_true)]
          have eb : bS (S ^^^ t) = bdf (bS S) (bS t) := by
            funext i
            show (S ^^^ t).testBit i = (S.testBit i && !t.testBit i)
            rw [Nat.testBit_xor]
            cases q : t.testBit i
            · cases S.testBit i <;> rfl
            · have h9 := hs1 i q
              have h8 : S.testBit i = true := by
                by_cases e : i = r
                · rw [e]; exact r1
                · rw [bst_o e] at h9; exact h9
              rw [h8]; rfl
          show trQ (wB m F T) N (bS t) * trQ (wB m F T) N (bS (S ^^^ t)) * gsF N (wB m F T r) (bS t) = _
          rw [eb]
        · rw [if_neg c, if_neg (fun q => c q.2)]) (fun t ht hs1 => if_neg (fun q => hs1 ((hsb t).mp q.1)))
      rw [e3]
      obtain ⟨V, hV⟩ : ∃ V, V = bst (bst (bS S) r false) s false := ⟨_, rfl⟩
      have hrs : s ≠ r := fun q => g1 q.symm
      have hU0s : bst (bS S) r false s = true := by rw [bst_o hrs]; exact g2
      have hVs : V s = false := by rw [hV, bst_s]
      have e4 : usum (bst (bS S) r false) N (fun X => if X s = true then trQ (wB m F T) N X * trQ (wB m F T) N (bdf (bS S) X) * gsF N (wB m F T r) X else 0) = usum V N (fun X => if X s = true then trQ (wB m F T) N X * trQ (wB m F T) N (bdf (bS S) X) * gsF N (wB m F T r) X else 0) + usum V N (fun X => if bst X s true s = true then trQ (wB m F T) N (bst X s true) * trQ (wB m F T) N (bdf (bS S) (bst X s true)) * gsF N (wB m F T r) (bst X s true) else 0) := by
        rw [hV]; exact ug_sp hsN hU0s
      have e5 : usum V N (fun X => if X s = true then trQ (wB m F T) N X * trQ (wB m F T) N (bdf (bS S) X) * gsF N (wB m F T r) X else 0) = 0 := ug_z (fun X hX => if_neg (fun q => by
        have := (hX s q).2
        rw [hVs] at this; exact absurd this Bool.false_ne_true))
      have e6 := k_st (w := wB m F T) (N := N) wb_sy (cdB V N) (V := V) (s := s) (g := wB m F T r) hsN hVs (Nat.le_refl _)
      have e7 : kwF (wB m F T) N (bst (bS S) r false) (wB m F T r) = kwF (wB m F T) N (bst V s true) (wB m F T r) := k_cg (fun i _ => by
        by_cases e : i = s
        · rw [e, bst_s, hU0s]
        · rw [bst_o e, hV, bst_o e]) (fun _ _ _ => rfl)
      rw [e4, e5, Int.zero_add, e7, e6]
      refine ug_cg (fun X hX => ?_)
      rw [if_pos bst_s]
      have hXr : X r = false := by
        cases q : X r
        · rfl
        · have h9 := (hX r q).2
          rw [hV, bst_o (fun e => hrs e.symm), bst_s] at h9; exact absurd h9 Bool.false_ne_true
      have e8 : trQ (wB m F T) N (bdf (bS S) (bst X s true)) = kwF (wB m F T) N (bdf V X) (wB m F T r) := by
        rw [tr_q (w := wB m F T) wb_sy hrN (show bdf (bS S) (bst X s true) r = true by rw [bdf_n (by rw [bst_o (fun e => hrs e.symm)]; exact hXr)]; exact r1)]
        exact k_cg (fun i _ => by
          by_cases e : i = r
          · rw [e, bst_s]
            unfold bdf
            rw [hV, bst_o (fun e => hrs e.symm), bst_s]; rfl
          · rw [bst_o e]
            by_cases e1 : i = s
            · rw [e1, bdf_y bst_s]
              unfold bdf
              rw [hVs]; rfl
            · unfold bdf
              rw [bst_o e1, hV, bst_o e1, bst_o e]) (fun _ _ _ => rfl)
      rw [e8, Int.mul_assoc, Int.mul_comm (kwF (wB m F T) N (bdf V X) (wB m F T r)), ← Int.mul_assoc]
theorem st_u {m N : Nat} {F T : Nat → Int} {p r : Int} (hN : 0 < N) (hFT : ∀ k, k < m → (0 ≤ F k ∧ F k < (N : Int)) ∧ 0 ≤ T k ∧ T k < (N : Int)) (h : stA m F T N p r) : r = trQ (wB m F T) N (bS (2 ^ N - 1)) % p := by
  obtain ⟨sp, h1, h2⟩ := h
  have h3 : 2 ^ 1 ≤ 2 ^ N := Nat.pow_le_pow_right (by omega) hN
  have h4 := h1 (2 ^ N - 1) (by omega) (by omega)
  rw [h2, ← st_tr hFT h1 (2 ^ N - 1) (by omega) (by omega)]
  exact (Int.emod_eq_of_lt h4.1.1 h4.1.2).symm
/-- the degrees less the joinings -/
def lapF (m : Nat) (F T : Nat → Int) (N : Nat) (i j : Nat) : Int := if i = j then sgm (fun k => if k ≠ i then wB m F T i k else 0) N else - wB m F T i j
theorem tr_la {m n : Nat} {F T : Nat → Int} : trQ (wB m F T) (n + 1) (bS (2 ^ (n + 1) - 1)) = dtm n (lapF m F T (n + 1)) := by
  have ha : ∀ i, i < n + 1 → bS (2 ^ (n + 1) - 1) i = true := fun i hi => by
    show (2 ^ (n + 1) - 1).testBit i = true
    rw [Nat.testBit_two_pow_sub_one]; exact decide_eq_true hi
  rw [tr_q (w := wB m F T) (N := n + 1) wb_sy (b := n) (by omega) (ha n (by omega))]
  have hn : ¬ bst (bS (2 ^ (n + 1) - 1)) n false n = true := by rw [bst_s]; exact Bool.false_ne_true
  have hy : ∀ i, i < n → bst (bS (2 ^ (n + 1) - 1)) n false i = true := fun i hi => by rw [bst_o (by omega)]; exact ha i (by omega)
  show dtm (n + 1) (laM (wB m F T) (n + 1) (bst (bS (2 ^ (n + 1) - 1)) n false) (wB m F T n)) = _
  rw [dt_la (fun j hj => by rw [lp_u hn]; exact if_neg (by omega)) (by rw [lp_u hn]; exact if_pos rfl) (fun i hi => lp_z (hy i hi) hn)]
  refine dt_cg (fun i j hi hj => ?_)
  unfold lapF
  by_cases e : i = j
  · subst e
    rw [lp_d (hy i hi), if_pos rfl]
    have e2 : sgm (fun k => if k ≠ i then wB m F T i k else 0) (n + 1) = sgm (fun k => if bst (bS (2 ^ (n + 1) - 1)) n false k = true ∧ k ≠ i then wB m F T i k else 0) (n + 1) + ((if n ≠ i then wB m F T i n else 0) - (if bst (bS (2 ^ (n + 1) - 1)) n false n = true ∧ n ≠ i then wB m F T i n else 0)) := sgm_up (f := fun k => if bst (bS (2 ^ (n + 1) - 1)) n false k = true ∧ k ≠ i then wB m F T i k else 0) (g := fun k => if k ≠ i then wB m F T i k else 0) (i := n) (n := n + 1) (fun k hk hne => by
      show (if k ≠ i then wB m F T i k else 0) = (if bst (bS (2 ^ (n + 1) - 1)) n false k = true ∧ k ≠ i then wB m F T i k else 0)
      have q : k ≠ i ↔ bst (bS (2 ^ (n + 1) - 1)) n false k = true ∧ k ≠ i := ⟨fun g => ⟨hy k (by omega), g⟩, fun g => g.2⟩
      exact ite_congr (propext q) (fun _ => rfl) (fun _ => rfl)) (by omega)
    rw [if_pos (show n ≠ i by omega), if_neg (show ¬ (bst (bS (2 ^ (n + 1) - 1)) n false n = true ∧ n ≠ i) from fun q => hn q.1)] at e2
    rw [e2, wb_sy n i]; omega
  · rw [if_neg e, lp_o (hy i hi) (hy j hj) e]
