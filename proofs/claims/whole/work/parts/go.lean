/-- a set of nodes can be coloured with k colours -/
def coQ (R : Nat → Nat → Prop) (S : Nat → Prop) (k : Int) : Prop := ∃ c : Nat → Int, ∀ v, S v → (0 ≤ c v ∧ c v < k) ∧ ∀ u, S u → u ≠ v → R u v → c u ≠ c v
/-- the fewest colours of a set -/
def coA (R : Nat → Nat → Prop) (S : Nat → Prop) (r : Int) : Prop := 0 ≤ r ∧ coQ R S r ∧ ∀ k, 0 ≤ k → coQ R S k → r ≤ k
theorem coa_uq {R : Nat → Nat → Prop} {S : Nat → Prop} {r q : Int} (h : coA R S r) (h' : coA R S q) : r = q := by
  have h1 := h.2.2 q h'.1 h'.2.1
  have h2 := h'.2.2 r h.1 h.2.1
  omega
theorem coq_cg {R R1 : Nat → Nat → Prop} {S S1 : Nat → Prop} {k : Int} (hS : ∀ i, S1 i → S i) (hR : ∀ i j, S1 i → S1 j → i ≠ j → R1 i j → R i j) (h : coQ R S k) : coQ R1 S1 k := by
  obtain ⟨c, hc⟩ := h
  exact ⟨c, fun v hv => ⟨(hc v (hS v hv)).1, fun u hu hne hr => (hc v (hS v hv)).2 u (hS u hu) hne (hR u v hu hv hne hr)⟩⟩
theorem coa_cg {R R1 : Nat → Nat → Prop} {S S1 : Nat → Prop} {k : Int} (hS : ∀ i, S1 i ↔ S i) (hR : ∀ i j, S i → S j → i ≠ j → (R1 i j ↔ R i j)) (h : coA R S k) : coA R1 S1 k :=
  ⟨h.1, coq_cg (fun i g => (hS i).mp g) (fun i j gi gj hne g => (hR i j ((hS i).mp gi) ((hS j).mp gj) hne).mp g) h.2.1, fun q h0 hq => h.2.2 q h0 (coq_cg (fun i g => (hS i).mpr g) (fun i j gi gj hne g => (hR i j gi gj hne).mpr g) hq)⟩
theorem coq_id {R : Nat → Nat → Prop} {S : Nat → Prop} {k : Int} (h : ∀ v, S v → (v : Int) < k) : coQ R S k := ⟨fun v => (v : Int), fun v hv => ⟨⟨Int.natCast_nonneg v, h v hv⟩, fun u _ hne _ e => hne (by have e1 : (u : Int) = (v : Int) := e; omega)⟩⟩
theorem mk_ex (P : Nat → Prop) : ∀ n : Nat, n ≤ 16 → ∃ z : Int, (0 ≤ z ∧ z ≤ 65535) ∧ ∀ i, Me z i ↔ i < n ∧ P i
  | 0, _ => ⟨0, by omega, fun i => ⟨fun g => absurd g (Me_0 i), fun g => by omega⟩⟩
  | n + 1, h => by
    obtain ⟨z, hz, hm⟩ := mk_ex P n (by omega)
    by_cases hp : P n
    · obtain ⟨y, hy, hn⟩ := ins_ex hz (show n < 16 by omega)
      refine ⟨y, hy, fun i => ?_⟩
      rw [hn i, hm i]
      constructor
      · rintro (g | g)
        · exact ⟨by omega, g.2⟩
        · rw [g]; exact ⟨by omega, hp⟩
      · intro g
        by_cases e : i = n
        · exact Or.inr e
        · exact Or.inl ⟨by omega, g.2⟩
    · refine ⟨z, hz, fun i => ?_⟩
      rw [hm i]
      constructor
      · intro g; exact ⟨by omega, g.2⟩
      · intro g
        by_cases e : i = n
        · rw [e] at g; exact absurd g.2 hp
        · exact ⟨by omega, g.2⟩
theorem co_add {R : Nat → Nat → Prop} {S s r : Int} (hs : apP R s) (h0 : 0 ≤ r) (h : coQ R (fun j => Me S j ∧ ¬ Me s j) r) : coQ R (Me S) (r + 1) := by
  obtain ⟨c, hc⟩ := h
  have e1 : ∀ v, Me s v → (if s.toNat.testBit v = true then r else c v) = r := fun v g => if_pos g
  have e2 : ∀ v, ¬ Me s v → (if s.toNat.testBit v = true then r else c v) = c v := fun v g => if_neg g
  refine ⟨fun v => if s.toNat.testBit v = true then r else c v, fun v hv => ?_⟩
  by_cases g : Me s v
  · refine ⟨by show 0 ≤ (if s.toNat.testBit v = true then r else c v) ∧ (if s.toNat.testBit v = true then r else c v) < r + 1; rw [e1 v g]; omega, fun u hu hne hr => ?_⟩
    show (if s.toNat.testBit u = true then r else c u) ≠ (if s.toNat.testBit v = true then r else c v)
    rw [e1 v g]
    by_cases q : Me s u
    · exact absurd hr (hs u v q g hne)
    · rw [e2 u q]
      have := (hc u ⟨hu, q⟩).1
      omega
  · have hb := hc v ⟨hv, g⟩
    refine ⟨by show 0 ≤ (if s.toNat.testBit v = true then r else c v) ∧ (if s.toNat.testBit v = true then r else c v) < r + 1; rw [e2 v g]; omega, fun u hu hne hr => ?_⟩
    show (if s.toNat.testBit u = true then r else c u) ≠ (if s.toNat.testBit v = true then r else c v)
    rw [e2 v g]
    by_cases q : Me s u
    · rw [e1 u q]; omega
    · rw [e2 u q]; exact hb.2 u ⟨hu, q⟩ hne hr
theorem co_class {R : Nat → Nat → Prop} {S k : Int} {i : Nat} (hS : S ≤ 65535) (hi : Me S i) (h : coQ R (Me S) k) : ∃ t : Int, (0 ≤ t ∧ t ≤ 65535) ∧ suP t S ∧ Me t i ∧ apP R t ∧ 1 ≤ k ∧ coQ R (fun j => Me S j ∧ ¬ Me t j) (k - 1) := by
  obtain ⟨c, hc⟩ := h
  obtain ⟨t, ht, hm⟩ := mk_ex (fun v => Me S v ∧ c v = c i) 16 (by omega)
  have hi9 := hc i hi
  refine ⟨t, ht, fun v g => ((hm v).mp g).2.1, (hm i).mpr ⟨Me_lt hi hS, hi, rfl⟩, fun u v gu gv hne hr => ?_, by omega, fun v => if c v = k - 1 then c i else c v, fun v hv => ?_⟩
  · have a := (hm u).mp gu
    have b := (hm v).mp gv
    exact (hc v b.2.1).2 u a.2.1 hne hr (by rw [a.2.2, b.2.2])
  · have nc : ∀ u, (Me S u ∧ ¬ Me t u) → c u ≠ c i := fun u g e => g.2 ((hm u).mpr ⟨Me_lt g.1 hS, g.1, e⟩)
    have hv9 := hc v hv.1
    have n9 := nc v hv
    refine ⟨?_, fun u hu hne hr => ?_⟩
    · show 0 ≤ (if c v = k - 1 then c i else c v) ∧ (if c v = k - 1 then c i else c v) < k - 1
      by_cases g : c v = k - 1
      · rw [if_pos g]; omega
      · rw [if_neg g]; omega
    · show (if c u = k - 1 then c i else c u) ≠ (if c v = k - 1 then c i else c v)
      have n8 := nc u hu
      have d9 := hv9.2 u hu.1 hne hr
      by_cases g : c v = k - 1
      · rw [if_pos g, if_neg (by omega)]; exact n8
      · rw [if_neg g]
        by_cases q : c u = k - 1
        · rw [if_pos q]; exact fun e => n9 e.symm
        · rw [if_neg q]; exact d9
/-- the next smaller subset -/
theorem sb_nat : ∀ (n S s t : Nat), S < 2 ^ n → (∀ i, s.testBit i = true → S.testBit i = true) → (∀ i, t.testBit i = true → S.testBit i = true) → t < s → t ≤ (s - 1) &&& S
  | 0, S, s, t, hS, hs, _, h => by
    have e : S = 0 := by simpa using hS
    have : s = 0 := Nat.eq_of_testBit_eq (fun i => by
      rw [Nat.zero_testBit]
      refine Bool.eq_false_iff.mpr (fun g => ?_)
      have := hs i g
      rw [e, Nat.zero_testBit] at this
      cases this)
    omega
  | n + 1, S, s, t, hS, hs, ht, h => by
    have hd : ((s - 1) &&& S) / 2 = ((s - 1) / 2) &&& (S / 2) := Nat.eq_of_testBit_eq (fun i => by
      rw [Nat.testBit_and, ← Nat.testBit_succ, ← Nat.testBit_succ, ← Nat.testBit_succ, Nat.testBit_and])
    have h0 := Nat.testBit_and (s - 1) S 0
    rw [Nat.testBit_zero, Nat.testBit_zero, Nat.testBit_zero] at h0
    have hs2 : ∀ i, (s / 2).testBit i = true → (S / 2).testBit i = true := fun i g => by
      rw [← Nat.testBit_succ] at g ⊢; exact hs _ g
    have ht2 : ∀ i, (t / 2).testBit i = true → (S / 2).testBit i = true := fun i g => by
      rw [← Nat.testBit_succ] at g ⊢; exact ht _ g
    have ht0 : t % 2 = 1 → S % 2 = 1 := fun g => by
      have := ht 0 (by rw [Nat.testBit_zero]; exact decide_eq_true g)
      rw [Nat.testBit_zero] at this
      exact of_decide_eq_true this
    have hS2 : S / 2 < 2 ^ n := by rw [Nat.pow_succ] at hS; omega
    by_cases hp : s % 2 = 1
    · have e1 : (s - 1) / 2 = s / 2 := by omega
      have e2 : (s / 2) &&& (S / 2) = s / 2 := Nat.eq_of_testBit_eq (fun i => by
        rw [Nat.testBit_and]
        cases hb : (s / 2).testBit i
        · rfl
        · rw [hs2 i hb]; rfl)
      rw [e1, e2] at hd
      omega
    · have e1 : (s - 1) / 2 = s / 2 - 1 := by omega
      have ih := sb_nat n (S / 2) (s / 2) (t / 2) hS2 hs2 ht2 (by omega)
      rw [e1] at hd
      rw [← hd] at ih
      by_cases q : t % 2 = 1
      · have hq := ht0 q
        rw [decide_eq_true (show (s - 1) % 2 = 1 by omega), decide_eq_true hq] at h0
        have := of_decide_eq_true h0
        omega
      · omega
theorem sb_me {S s t z : Int} (hs : suP s S) (ht : suP t S) (h0 : 0 ≤ t) (h1 : t < s) (hz : ∀ i, Me z i ↔ Me (s - 1) i ∧ Me S i) (hz0 : 0 ≤ z) : t ≤ z := by
  have e : z.toNat = (s - 1).toNat &&& S.toNat := Nat.eq_of_testBit_eq (fun i => by
    rw [Nat.testBit_and]
    refine Bool.eq_iff_iff.mpr ?_
    rw [Bool.and_eq_true]
    exact hz i)
  have := sb_nat S.toNat S.toNat s.toNat t.toNat Nat.lt_two_pow_self hs ht (by omega)
  rw [show s.toNat - 1 = (s - 1).toNat by omega, ← e] at this
  omega
/-- the table of the fewest colours, below S -/
def lsT (R : Nat → Nat → Prop) (ls : Nat → Int) (S : Int) : Prop := ∀ t : Nat, (t : Int) < S → coA R (Me (t : Int)) (ls t)
theorem lst_0 {R : Nat → Nat → Prop} {ls : Nat → Int} (h : ls 0 = 0) : lsT R ls 1 := fun t ht => by
  have e : t = 0 := by omega
  subst e
  rw [h]
  exact ⟨by omega, ⟨fun _ => 0, fun v hv => absurd hv (Me_0 v)⟩, fun k h0 _ => h0⟩
theorem lst_up {R : Nat → Nat → Prop} {ls : Nat → Int} {S x : Int} (h : lsT R ls S) (h0 : 0 ≤ S) : lsT R (fup ls (Int.toNat S) x) S := fun t ht => by
  rw [show fup ls (Int.toNat S) x t = ls t from if_neg (by omega)]
  exact h t ht
theorem lst_st {R : Nat → Nat → Prop} {ls : Nat → Int} {S : Int} (h : lsT R ls S) (h0 : 0 ≤ S) (hS : coA R (Me S) (ls (Int.toNat S))) : lsT R ls (S + 1) := fun t ht => by
  by_cases e : (t : Int) < S
  · exact h t e
  · have e1 : t = Int.toNat S := by omega
    subst e1
    rw [show ((Int.toNat S : Nat) : Int) = S by omega]
    exact hS
/-- the subsets above s have been looked at -/
def csI (R : Nat → Nat → Prop) (S : Int) (i : Nat) (s b : Int) : Prop := (b = 99 ∨ coQ R (Me S) b) ∧ 0 ≤ b ∧ ∀ t : Int, s < t → t ≤ S → suP t S → Me t i → apP R t → ∀ k, 0 ≤ k → coQ R (fun j => Me S j ∧ ¬ Me t j) k → b ≤ k + 1
theorem csi_0 {R : Nat → Nat → Prop} {S : Int} {i : Nat} {b : Int} (hb : b = 99) : csI R S i S b := by
  subst hb; exact ⟨Or.inl rfl, by omega, fun t h1 h2 => by omega⟩
theorem cs_skip {R : Nat → Nat → Prop} {S s z b : Int} {i : Nat} (h : csI R S i s b) (hs : suP s S) (hs0 : 0 < s) (hz : ∀ j, Me z j ↔ Me (s - 1) j ∧ Me S j) (hz0 : 0 ≤ z) (hn : Me s i → apP R s → ∀ k, 0 ≤ k → coQ R (fun j => Me S j ∧ ¬ Me s j) k → b ≤ k + 1) : csI R S i z b := by
  refine ⟨h.1, h.2.1, fun t h1 h2 h3 h4 h5 k hk hq => ?_⟩
  by_cases e : t = s
  · subst e; exact hn h4 h5 k hk hq
  · refine h.2.2 t (Classical.byContradiction (fun g => ?_)) h2 h3 h4 h5 k hk hq
    have := sb_me hs h3 (by omega) (show t < s by omega) hz hz0
    omega
theorem cs_take {R : Nat → Nat → Prop} {S s z b r : Int} {i : Nat} (h : csI R S i s b) (hs : suP s S) (hs0 : 0 < s) (hz : ∀ j, Me z j ↔ Me (s - 1) j ∧ Me S j) (hz0 : 0 ≤ z) (ha : apP R s) (hr : coA R (fun j => Me S j ∧ ¬ Me s j) r) (hb : r + 1 ≤ b) : csI R S i z (r + 1) := by
  have h1 : csI R S i s (r + 1) := ⟨Or.inr (co_add ha hr.1 hr.2.1), by have := hr.1; omega, fun t h1 h2 h3 h4 h5 k hk hq => by
    have := h.2.2 t h1 h2 h3 h4 h5 k hk hq
    omega⟩
  exact cs_skip h1 hs hs0 hz hz0 (fun _ _ k hk hq => by have := hr.2.2 k hk hq; omega)
theorem cs_end {R : Nat → Nat → Prop} {S s b : Int} {i : Nat} (h : csI R S i s b) (h0 : s ≤ 0) (hS : 0 ≤ S ∧ S ≤ 65535) (hi : Me S i) : coA R (Me S) b := by
  have h1 : ∀ k, 0 ≤ k → coQ R (Me S) k → b ≤ k := fun k hk hq => by
    obtain ⟨t, t1, t2, t3, t4, t5, t6⟩ := co_class hS.2 hi hq
    have tp : 0 < t := Classical.byContradiction (fun g => by
      rw [show t = 0 by omega] at t3; exact Me_0 _ t3)
    have := h.2.2 t (by omega) (Me_sub_le t1.1 hS.1 t2) t2 t3 t4 (k - 1) (by omega) t6
    omega
  have h2 := h1 16 (by omega) (coq_id (fun v hv => by have := Me_lt hv hS.2; omega))
  rcases h.1 with g | g
  · omega
  · exact ⟨h.2.1, g, h1⟩
theorem co_tb {R : Nat → Nat → Prop} {ls : Nat → Int} {S s z : Int} {i : Nat} (h : lsT R ls S) (hz : ∀ j, Me z j ↔ Me S j ∧ ¬ Me s j) (hz0 : 0 ≤ z) (hS : 0 ≤ S) (hi : Me S i) (hs : Me s i) : coA R (fun j => Me S j ∧ ¬ Me s j) (ls (Int.toNat z)) := by
  have h1 : z ≤ S := Me_sub_le hz0 hS (fun j g => ((hz j).mp g).1)
  have h2 : z ≠ S := fun e => by
    have := ((hz i).mp (by rw [e]; exact hi)).2
    exact this hs
  have h3 := h (Int.toNat z) (by omega)
  rw [show ((Int.toNat z : Nat) : Int) = z by omega] at h3
  exact coa_cg (fun j => (hz j).symm) (fun _ _ _ _ _ => Iff.rfl) h3
/-- which sets are solid, below S -/
def slT (R : Nat → Nat → Prop) (sd : Nat → Int) (S : Int) : Prop := ∀ t : Nat, (t : Int) < S → (sd t = 1 ∧ apP R (t : Int)) ∨ (sd t = 0 ∧ ¬ apP R (t : Int))
theorem slt_0 {R : Nat → Nat → Prop} {sd : Nat → Int} : slT R sd 0 := fun t h => by omega
theorem slt_up {R : Nat → Nat → Prop} {sd : Nat → Int} {S r : Int} (h : slT R sd S) (h0 : 0 ≤ S) (hr : (r = 1 ∧ apP R S) ∨ (r = 0 ∧ ¬ apP R S)) : slT R (fup sd (Int.toNat S) r) (S + 1) := fun t ht => by
  by_cases e : (t : Int) < S
  · rw [show fup sd (Int.toNat S) r t = sd t from if_neg (by omega)]; exact h t e
  · have e1 : t = Int.toNat S := by omega
    subst e1
    rw [show fup sd (Int.toNat S) r (Int.toNat S) = r from if_pos rfl, show ((Int.toNat S : Nat) : Int) = S by omega]
    exact hr
theorem slt_at {R : Nat → Nat → Prop} {sd : Nat → Int} {S s : Int} (h : slT R sd S) (h0 : 0 ≤ s) (hs : s < S) : (sd (Int.toNat s) = 1 ∧ apP R s) ∨ (sd (Int.toNat s) = 0 ∧ ¬ apP R s) := by
  have := h (Int.toNat s) (by omega)
  rw [show ((Int.toNat s : Nat) : Int) = s by omega] at this
  exact this
theorem lst_at {R : Nat → Nat → Prop} {ls : Nat → Int} {S s : Int} (h : lsT R ls S) (h0 : 0 ≤ s) (hs : s < S) : coA R (Me s) (ls (Int.toNat s)) := by
  have := h (Int.toNat s) (by omega)
  rw [show ((Int.toNat s : Nat) : Int) = s by omega] at this
  exact this
theorem coa_b {R : Nat → Nat → Prop} {S : Nat → Prop} {r : Int} (h : coA R S r) (hS : ∀ i, S i → i < 16) : 0 ≤ r ∧ r ≤ 16 :=
  ⟨h.1, h.2.2 16 (by omega) (coq_id (fun v hv => by have := hS v hv; omega))⟩
