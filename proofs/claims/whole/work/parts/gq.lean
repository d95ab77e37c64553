theorem php {c : Nat → Int} : ∀ (k : Nat) (x : Int), (0 ≤ x ∧ x ≤ 65535) → (∀ q : Int, 0 ≤ q → q < (k : Int) → ∃ i, Me x i ∧ c i = q) → (k : Int) ≤ bcI x 16
  | 0, x, _, _ => by have := bc_le x 16; omega
  | k + 1, x, hx, h => by
    obtain ⟨i, hi, hc⟩ := h (k : Int) (by omega) (by omega)
    obtain ⟨z, hz, hm⟩ := mk_ex (fun j => Me x j ∧ j ≠ i) 16 (by omega)
    have h1 := php k z hz (fun q h0 hq => by
      obtain ⟨j, hj, hd⟩ := h q h0 (by omega)
      exact ⟨j, (hm j).mpr ⟨Me_lt hj hx.2, hj, fun e => by rw [e] at hd; omega⟩, hd⟩)
    have h2 := bc_less hx.2 hz (fun j g => ((hm j).mp g).2.1) hi (fun g => ((hm i).mp g).2.2 rfl)
    omega
theorem co_hard {R : Nat → Nat → Prop} (hsy : ∀ i j, R i j → R j i) {S S1 z k : Int} {v : Nat} (hz : ∀ j, Me z j ↔ R v j ∧ Me S j) (hzb : 0 ≤ z ∧ z ≤ 65535) (hk : bcI z 16 < k) (h1 : ∀ j, Me S1 j ↔ Me S j ∧ j ≠ v) (h : coQ R (Me S1) k) : coQ R (Me S) k := by
  obtain ⟨c, hc⟩ := h
  have hq : ∃ q : Int, (0 ≤ q ∧ q < k) ∧ ∀ i, Me z i → c i ≠ q := Classical.byContradiction (fun g => by
    have := php (c := c) k.toNat z hzb (fun q h0 hq => Classical.byContradiction (fun g1 => g ⟨q, by omega, fun i hi e => g1 ⟨i, hi, e⟩⟩))
    have := bc_le z 16
    omega)
  obtain ⟨q, hq1, hq2⟩ := hq
  refine ⟨fun j => if j = v then q else c j, fun w hw => ?_⟩
  by_cases e : w = v
  · subst e
    refine ⟨by show 0 ≤ (if w = w then q else c w) ∧ (if w = w then q else c w) < k; rw [if_pos rfl]; exact hq1, fun u hu hne hr => ?_⟩
    show (if u = w then q else c u) ≠ (if w = w then q else c w)
    rw [if_neg hne, if_pos rfl]
    exact hq2 u ((hz u).mpr ⟨hsy _ _ hr, hu⟩)
  · have hb := hc w ((h1 w).mpr ⟨hw, e⟩)
    refine ⟨by show 0 ≤ (if w = v then q else c w) ∧ (if w = v then q else c w) < k; rw [if_neg e]; exact hb.1, fun u hu hne hr => ?_⟩
    show (if u = v then q else c u) ≠ (if w = v then q else c w)
    rw [if_neg e]
    by_cases g : u = v
    · subst g
      rw [if_pos rfl]
      exact fun g1 => hq2 w ((hz w).mpr ⟨hr, hw⟩) g1.symm
    · rw [if_neg g]; exact hb.2 u ((h1 u).mpr ⟨hu, g⟩) hne hr
/-- the hard nodes so far -/
def hdI (R : Nat → Nat → Prop) (S k x : Int) : Prop := suP x S ∧ (coQ R (Me x) k → coQ R (Me S) k)
theorem hdi_0 {R : Nat → Nat → Prop} {S k : Int} : hdI R S k S := ⟨fun i g => g, id⟩
theorem hdi_st {R : Nat → Nat → Prop} (hsy : ∀ i j, R i j → R j i) {S S0 S1 z k : Int} {v : Nat} (h : hdI R S0 k S) (hz : ∀ j, Me z j ↔ R v j ∧ Me S j) (hzb : 0 ≤ z ∧ z ≤ 65535) (hk : bcI z 16 < k) (h1 : ∀ j, Me S1 j ↔ Me S j ∧ j ≠ v) : hdI R S0 k S1 :=
  ⟨fun i g => h.1 i ((h1 i).mp g).1, fun g => h.2 (co_hard hsy hz hzb hk h1 g)⟩
theorem hdi_e {R : Nat → Nat → Prop} {S k x : Int} (h : hdI R S k x) : coQ R (Me x) k ↔ coQ R (Me S) k := ⟨h.2, fun g => coq_cg h.1 (fun _ _ _ _ _ q => q) g⟩
/-- what is left can be coloured beside what is coloured already -/
def exQ (R : Nat → Nat → Prop) (L : Int) (Cl : Nat → Int) (k : Int) : Prop := ∃ c : Nat → Int, ∀ v, Me L v → (0 ≤ c v ∧ c v < k) ∧ (∀ u, Me (Cl (Int.toNat (c v))) u → ¬ R v u) ∧ ∀ u, Me L u → u ≠ v → R u v → c u ≠ c v
/-- no class from u on has a node -/
def usP (Cl : Nat → Int) (u : Int) : Prop := ∀ q : Nat, u ≤ (q : Int) → q < 16 → ∀ i, ¬ Me (Cl q) i
/-- what is left is in no class -/
def djP (L : Int) (Cl : Nat → Int) : Prop := ∀ q : Nat, q < 16 → ∀ i, Me (Cl q) i → ¬ Me L i
theorem ex_nil {R : Nat → Nat → Prop} {Cl : Nat → Int} {k : Int} : exQ R 0 Cl k := ⟨fun _ => 0, fun v hv => absurd hv (Me_0 v)⟩
theorem ex_one {R : Nat → Nat → Prop} {L L1 z k : Int} {Cl : Nat → Int} {c : Nat → Int} {v : Nat} (hv : Me L v) (h1 : ∀ j, Me L1 j ↔ Me L j ∧ j ≠ v) (hz : ∀ j, Me z j ↔ Me (Cl (Int.toNat (c v))) j ∨ j = v) (hc : ∀ v, Me L v → (0 ≤ c v ∧ c v < k) ∧ (∀ u, Me (Cl (Int.toNat (c v))) u → ¬ R v u) ∧ ∀ u, Me L u → u ≠ v → R u v → c u ≠ c v) : exQ R L1 (fup Cl (Int.toNat (c v)) z) k := by
  refine ⟨c, fun w hw => ?_⟩
  have w1 := (h1 w).mp hw
  have hb := hc w w1.1
  refine ⟨hb.1, fun u hu hr => ?_, fun u hu hne hr => hb.2.2 u ((h1 u).mp hu).1 hne hr⟩
  by_cases e : Int.toNat (c w) = Int.toNat (c v)
  · rw [show fup Cl (Int.toNat (c v)) z (Int.toNat (c w)) = z from if_pos e] at hu
    rcases (hz u).mp hu with g | g
    · rw [← e] at g; exact hb.2.1 u g hr
    · rw [g] at hr
      have hv9 := hc v hv
      exact hv9.2.2 w w1.1 w1.2 hr (by omega)
  · rw [show fup Cl (Int.toNat (c v)) z (Int.toNat (c w)) = Cl (Int.toNat (c w)) from if_neg e] at hu
    exact hb.2.1 u hu hr
theorem ex_fw {R : Nat → Nat → Prop} {L L1 k us : Int} {Cl : Nat → Int} {v : Nat} (h : exQ R L Cl k) (hv : Me L v) (h1 : ∀ j, Me L1 j ↔ Me L j ∧ j ≠ v) (hu : usP Cl us) (hu0 : 0 ≤ us) (hk : k ≤ 16) : ∃ q : Int, (0 ≤ q ∧ q < k ∧ q ≤ us) ∧ (∀ u, Me (Cl (Int.toNat q)) u → ¬ R v u) ∧ ∀ z : Int, (∀ j, Me z j ↔ Me (Cl (Int.toNat q)) j ∨ j = v) → exQ R L1 (fup Cl (Int.toNat q) z) k := by
  obtain ⟨c, hc⟩ := h
  have hv9 := hc v hv
  by_cases e : c v ≤ us
  · exact ⟨c v, ⟨hv9.1.1, hv9.1.2, e⟩, hv9.2.1, fun z hz => ex_one hv h1 hz hc⟩
  · have em : ∀ q : Int, us ≤ q → q < k → ∀ i, ¬ Me (Cl (Int.toNat q)) i := fun q h0 hq => hu (Int.toNat q) (by omega) (by omega)
    have hc1 : ∀ w, Me L w → (0 ≤ (if c w = c v then us else if c w = us then c v else c w) ∧ (if c w = c v then us else if c w = us then c v else c w) < k) ∧ (∀ u, Me (Cl (Int.toNat (if c w = c v then us else if c w = us then c v else c w))) u → ¬ R w u) ∧ ∀ u, Me L u → u ≠ w → R u w → (if c u = c v then us else if c u = us then c v else c u) ≠ (if c w = c v then us else if c w = us then c v else c w) := by
      intro w hw
      have hb := hc w hw
      refine ⟨?_, ?_, fun u hu hne hr => ?_⟩
      · by_cases g : c w = c v
        · rw [if_pos g]; omega
        · rw [if_neg g]
          by_cases g1 : c w = us
          · rw [if_pos g1]; omega
          · rw [if_neg g1]; omega
      · by_cases g : c w = c v
        · rw [if_pos g]; exact fun u hu => absurd hu (em us (by omega) (by omega) u)
        · rw [if_neg g]
          by_cases g1 : c w = us
          · rw [if_pos g1]; exact fun u hu => absurd hu (em (c v) (by omega) (by omega) u)
          · rw [if_neg g1]; exact hb.2.1
      · have d9 := hb.2.2 u hu hne hr
        by_cases g : c w = c v
        · rw [if_pos g, if_neg (by omega)]
          by_cases g1 : c u = us
          · rw [if_pos g1]; omega
          · rw [if_neg g1]; omega
        · rw [if_neg g]
          by_cases g1 : c w = us
          · rw [if_pos g1]
            by_cases g2 : c u = c v
            · rw [if_pos g2]; omega
            · rw [if_neg g2, if_neg (by omega)]; omega
          · rw [if_neg g1]
            by_cases g2 : c u = c v
            · rw [if_pos g2]; omega
            · rw [if_neg g2]
              by_cases g3 : c u = us
              · rw [if_pos g3]; omega
              · rw [if_neg g3]; omega
    have ev : (if c v = c v then us else if c v = us then c v else c v) = us := if_pos rfl
    refine ⟨us, ⟨hu0, by omega, Int.le_refl _⟩, fun u g => absurd g (em us (by omega) (by omega) u), fun z hz => ?_⟩
    have h9 := ex_one (c := fun w => if c w = c v then us else if c w = us then c v else c w) (z := z) hv h1 (fun j => by
      show Me z j ↔ Me (Cl (Int.toNat (if c v = c v then us else if c v = us then c v else c v))) j ∨ j = v
      rw [ev]; exact hz j) hc1
    have h8 : exQ R L1 (fup Cl (Int.toNat (if c v = c v then us else if c v = us then c v else c v)) z) k := h9
    rw [ev] at h8; exact h8
theorem ex_bk {R : Nat → Nat → Prop} (hsy : ∀ i j, R i j → R j i) {L L1 z q k : Int} {Cl : Nat → Int} {v : Nat} (hq : 0 ≤ q ∧ q < k) (h1 : ∀ j, Me L1 j ↔ Me L j ∧ j ≠ v) (hz : ∀ j, Me z j ↔ Me (Cl (Int.toNat q)) j ∨ j = v) (hn : ∀ u, Me (Cl (Int.toNat q)) u → ¬ R v u) (h : exQ R L1 (fup Cl (Int.toNat q) z) k) : exQ R L Cl k := by
  obtain ⟨c, hc⟩ := h
  have hd : ∀ w, Me L1 w → c w = q → ¬ R w v := fun w hw e => (hc w hw).2.1 v (by
    rw [e, show fup Cl (Int.toNat q) z (Int.toNat q) = z from if_pos rfl]; exact (hz v).mpr (Or.inr rfl))
  refine ⟨fun w => if w = v then q else c w, fun w hw => ?_⟩
  show (0 ≤ (if w = v then q else c w) ∧ (if w = v then q else c w) < k) ∧ (∀ u, Me (Cl (Int.toNat (if w = v then q else c w))) u → ¬ R w u) ∧ ∀ u, Me L u → u ≠ w → R u w → (if u = v then q else c u) ≠ (if w = v then q else c w)
  by_cases e : w = v
  · subst e
    rw [if_pos rfl]
    refine ⟨hq, hn, fun u hu hne hr => ?_⟩
    rw [if_neg hne]
    exact fun g => hd u ((h1 u).mpr ⟨hu, hne⟩) g hr
  · rw [if_neg e]
    have hb := hc w ((h1 w).mpr ⟨hw, e⟩)
    refine ⟨hb.1, fun u hu => hb.2.1 u ?_, fun u hu hne hr => ?_⟩
    · by_cases g : Int.toNat (c w) = Int.toNat q
      · rw [show fup Cl (Int.toNat q) z (Int.toNat (c w)) = z from if_pos g]
        rw [g] at hu
        exact (hz u).mpr (Or.inl hu)
      · rw [show fup Cl (Int.toNat q) z (Int.toNat (c w)) = Cl (Int.toNat (c w)) from if_neg g]; exact hu
    · by_cases g : u = v
      · subst g
        rw [if_pos rfl]
        exact fun g1 => hd w ((h1 w).mpr ⟨hw, e⟩) g1.symm (hsy _ _ hr)
      · rw [if_neg g]; exact hb.2.2 u ((h1 u).mpr ⟨hu, g⟩) hne hr
theorem us_up {Cl : Nat → Int} {us q w z : Int} (h : usP Cl us) (hq : 0 ≤ q) (hw : us ≤ w ∧ q < w) : usP (fup Cl (Int.toNat q) z) w := fun p h0 hp i => by
  rw [show fup Cl (Int.toNat q) z p = Cl p from if_neg (by omega)]
  exact h p (by omega) hp i
theorem dj_up {Cl : Nat → Int} {L L1 q z : Int} {v : Nat} (h : djP L Cl) (hq : 0 ≤ q ∧ q < 16) (h1 : ∀ j, Me L1 j ↔ Me L j ∧ j ≠ v) (hz : ∀ j, Me z j ↔ Me (Cl (Int.toNat q)) j ∨ j = v) : djP L1 (fup Cl (Int.toNat q) z) := fun p hp i g g1 => by
  have g2 := (h1 i).mp g1
  by_cases e : p = Int.toNat q
  · rw [show fup Cl (Int.toNat q) z p = z from if_pos e] at g
    rcases (hz i).mp g with a | a
    · exact h _ (by omega) i a g2.1
    · exact g2.2 a
  · rw [show fup Cl (Int.toNat q) z p = Cl p from if_neg e] at g
    exact h p hp i g g2.1
theorem Me_eqi {x y : Int} (hx : 0 ≤ x) (hy : 0 ≤ y) (h : ∀ i, Me x i ↔ Me y i) : x = y := by
  have := Nat.eq_of_testBit_eq (x := x.toNat) (y := y.toNat) (fun i => Bool.eq_iff_iff.mpr (h i))
  omega
theorem fup_bk {Cl : Nat → Int} {q : Nat} {z y : Int} (h : y = Cl q) : fup (fup Cl q z) q y = Cl := by
  funext p
  by_cases e : p = q
  · rw [show fup (fup Cl q z) q y p = y from if_pos e, h, e]
  · rw [show fup (fup Cl q z) q y p = fup Cl q z p from if_neg e]; exact if_neg e
/-- no colour below c does for v -/
def ccI (R : Nat → Nat → Prop) (L : Int) (Cl : Nat → Int) (k : Int) (v : Nat) (c : Int) : Prop := ∀ q : Int, 0 ≤ q → q < c → q < k → (∀ u, Me (Cl (Int.toNat q)) u → ¬ R v u) → ∀ L1 z : Int, (∀ j, Me L1 j ↔ Me L j ∧ j ≠ v) → (∀ j, Me z j ↔ Me (Cl (Int.toNat q)) j ∨ j = v) → 0 ≤ L1 → 0 ≤ z → ¬ exQ R L1 (fup Cl (Int.toNat q) z) k
theorem cc_0 {R : Nat → Nat → Prop} {L : Int} {Cl : Nat → Int} {k : Int} {v : Nat} : ccI R L Cl k v 0 := fun q h0 h1 => by omega
theorem cc_n {R : Nat → Nat → Prop} {L : Int} {Cl : Nat → Int} {k c : Int} {v u : Nat} (h : ccI R L Cl k v c) (hu : Me (Cl (Int.toNat c)) u) (hr : R v u) : ccI R L Cl k v (c + 1) := fun q h0 h1 h2 h3 => by
  by_cases e : q = c
  · subst e; exact absurd hr (h3 u hu)
  · exact h q h0 (by omega) h2 h3
theorem cc_f {R : Nat → Nat → Prop} {L L1 z : Int} {Cl : Nat → Int} {k c : Int} {v : Nat} (h : ccI R L Cl k v c) (h1 : ∀ j, Me L1 j ↔ Me L j ∧ j ≠ v) (hz : ∀ j, Me z j ↔ Me (Cl (Int.toNat c)) j ∨ j = v) (hL : 0 ≤ L1) (hz0 : 0 ≤ z) (hn : ¬ exQ R L1 (fup Cl (Int.toNat c) z) k) : ccI R L Cl k v (c + 1) := fun q h0 h2 h3 h4 L2 z2 a1 a2 a3 a4 => by
  by_cases e : q = c
  · subst e
    rw [Me_eqi a3 hL (fun i => (a1 i).trans (h1 i).symm), Me_eqi a4 hz0 (fun i => (a2 i).trans (hz i).symm)]
    exact hn
  · exact h q h0 (by omega) h3 h4 L2 z2 a1 a2 a3 a4
theorem cc_e {R : Nat → Nat → Prop} {L us : Int} {Cl : Nat → Int} {k c : Int} {v : Nat} (h : ccI R L Cl k v c) (hL : 0 ≤ L ∧ L ≤ 65535) (hv : Me L v) (hu : usP Cl us) (hu0 : 0 ≤ us) (hk : k ≤ 16) (hR : Rfx 16 0 65535 Cl) (hc : us < c ∨ k ≤ c) : ¬ exQ R L Cl k := fun g => by
  obtain ⟨L1, l1, l2⟩ := mk_ex (fun j => Me L j ∧ j ≠ v) 16 (by omega)
  have h1 : ∀ j, Me L1 j ↔ Me L j ∧ j ≠ v := fun j => (l2 j).trans ⟨fun a => a.2, fun a => ⟨Me_lt a.1 hL.2, a⟩⟩
  obtain ⟨q, hq, hq1, hq2⟩ := ex_fw g hv h1 hu hu0 hk
  obtain ⟨z, z1, z2⟩ := ins_ex (s := Cl (Int.toNat q)) (hR _ (by omega)) (Me_lt hv hL.2)
  exact h q hq.1 (by omega) hq.2.1 hq1 L1 z h1 z2 l1.1 z1.1 (hq2 z z2)
/-- no class has a node: what is left is to be coloured by itself -/
theorem ex_co {R : Nat → Nat → Prop} {L k : Int} {Cl : Nat → Int} (hk : k ≤ 16) (h : usP Cl 0) : exQ R L Cl k ↔ coQ R (Me L) k := by
  constructor
  · rintro ⟨c, hc⟩
    exact ⟨c, fun v hv => ⟨(hc v hv).1, (hc v hv).2.2⟩⟩
  · rintro ⟨c, hc⟩
    exact ⟨c, fun v hv => ⟨(hc v hv).1, fun u hu => absurd hu (h _ (by omega) (by have := (hc v hv).1; omega) u), (hc v hv).2⟩⟩
theorem co_mono {R : Nat → Nat → Prop} {S : Nat → Prop} {k l : Int} (h : coQ R S k) (hl : k ≤ l) : coQ R S l := by
  obtain ⟨c, hc⟩ := h
  exact ⟨c, fun v hv => ⟨⟨(hc v hv).1.1, Int.lt_of_lt_of_le (hc v hv).1.2 hl⟩, (hc v hv).2⟩⟩
/-- a set of which all are joined needs as many colours as it has nodes -/
theorem co_clq {R : Nat → Nat → Prop} {S s k : Int} (hs : 0 ≤ s ∧ s ≤ 65535) (hsu : suP s S) (hcl : ∀ i j, Me s i → Me s j → i ≠ j → R i j) (h : coQ R (Me S) k) (h0 : 0 ≤ k) : bcI s 16 ≤ k := by
  obtain ⟨c, hc⟩ := h
  have hh : ∀ (m : Nat) (x : Int), (0 ≤ x ∧ x ≤ 65535) → suP x s → (∀ i, Me x i → c i < (m : Int)) → bcI x 16 ≤ (m : Int) := by
    intro m
    induction m with
    | zero =>
      intro x hx hxs hb
      have e : ∀ i, ¬ Me x i := fun i g => by
        have h1 := hb i g
        have h2 := (hc i (hsu i (hxs i g))).1
        omega
      have : x = 0 := Me_eqi hx.1 (by omega) (fun i => ⟨fun g => absurd g (e i), fun g => absurd g (Me_0 i)⟩)
      subst this; decide
    | succ m ih =>
      intro x hx hxs hb
      by_cases g : ∃ i, Me x i ∧ c i = (m : Int)
      · obtain ⟨i, hi, hci⟩ := g
        obtain ⟨z, hz, hm⟩ := mk_ex (fun j => Me x j ∧ j ≠ i) 16 (by omega)
        have h1 := ih z hz (fun j g => hxs j ((hm j).mp g).2.1) (fun j g => by
          have g1 := (hm j).mp g
          have g2 := hb j g1.2.1
          have g3 := (hc i (hsu i (hxs i hi))).2 j (hsu j (hxs j g1.2.1)) g1.2.2 (hcl j i (hxs j g1.2.1) (hxs i hi) g1.2.2)
          omega)
        have h2 := bc_ins (s := z) (z := x) (v := i) (fun j => by
          rw [hm j]
          constructor
          · intro q
            by_cases e : j = i
            · exact Or.inr e
            · exact Or.inl ⟨Me_lt q hx.2, q, e⟩
          · rintro (q | q)
            · exact q.2.1
            · rw [q]; exact hi) (fun q => ((hm i).mp q).2.2 rfl) 16
        rw [if_pos (Me_lt hi hx.2)] at h2
        omega
      · have h1 := ih x hx hxs (fun j q => by
          have h2 := hb j q
          have h3 : c j ≠ (m : Int) := fun e => g ⟨j, q, e⟩
          omega)
        omega
  have := hh k.toNat s hs (fun i g => g) (fun i g => by have := (hc i (hsu i g)).1; omega)
  omega
