/-- a pairing of a set: each partner is the other's, and they are related -/
def vmP (R : Nat → Nat → Prop) (S : Nat → Prop) (mt : Nat → Int) : Prop := ∀ a, S a → mt a < 0 ∨ ∃ b : Nat, mt a = (b : Int) ∧ S b ∧ mt b = (a : Int) ∧ b ≠ a ∧ R a b
/-- how many of a set have a partner -/
noncomputable def cvN (S : Nat → Prop) (n : Nat) (mt : Nat → Int) : Nat := cnP (fun i => S i ∧ 0 ≤ mt i) n
theorem vm_at {R : Nat → Nat → Prop} {S : Nat → Prop} {mt : Nat → Int} (h : vmP R S mt) {a b : Nat} (ha : S a) (hb : mt a = (b : Int)) : S b ∧ mt b = (a : Int) ∧ b ≠ a ∧ R a b := by
  rcases h a ha with g | ⟨c, g1, g2, g3, g4, g5⟩
  · omega
  · have e : c = b := by omega
    subst e
    exact ⟨g2, g3, g4, g5⟩
theorem vm_ex {R : Nat → Nat → Prop} {S : Nat → Prop} {mt : Nat → Int} (h : vmP R S mt) {a : Nat} (ha : S a) (h0 : 0 ≤ mt a) : ∃ b : Nat, mt a = (b : Int) ∧ S b ∧ mt b = (a : Int) ∧ b ≠ a ∧ R a b := by
  rcases h a ha with g | g
  · omega
  · exact g
/-- a set in which each has another as partner has an even number -/
theorem ev_cn {n : Nat} {g : Nat → Int} : ∀ (k : Nat) {S : Nat → Prop}, cnP S n = k → (∀ a, S a → a < n ∧ ∃ b : Nat, g a = (b : Int) ∧ S b ∧ g b = (a : Int) ∧ b ≠ a) → k % 2 = 0
  | 0, _, _, _ => rfl
  | 1, S, h, hg => by
    exfalso
    by_cases e : ∃ a, S a
    · obtain ⟨a, ha⟩ := e
      obtain ⟨h1, b, h2, h3, h4, h5⟩ := hg a ha
      have q1 : cnP S n = cnP (fun i => S i ∧ i ≠ a) n + 1 := cnP_rm h1 ha
      have q2 : cnP (fun i => S i ∧ i ≠ a) n = cnP (fun i => (S i ∧ i ≠ a) ∧ i ≠ b) n + 1 := cnP_rm (p := fun i => S i ∧ i ≠ a) (hg b h3).1 ⟨h3, h5⟩
      omega
    · have : cnP S n = 0 := cnP_none (fun i _ hi => e ⟨i, hi⟩)
      omega
  | k + 2, S, h, hg => by
    by_cases e : ∃ a, S a
    · obtain ⟨a, ha⟩ := e
      obtain ⟨h1, b, h2, h3, h4, h5⟩ := hg a ha
      have q1 : cnP S n = cnP (fun i => S i ∧ i ≠ a) n + 1 := cnP_rm h1 ha
      have q2 : cnP (fun i => S i ∧ i ≠ a) n = cnP (fun i => (S i ∧ i ≠ a) ∧ i ≠ b) n + 1 := cnP_rm (p := fun i => S i ∧ i ≠ a) (hg b h3).1 ⟨h3, h5⟩
      have q3 := ev_cn (n := n) (g := g) k (S := fun i => (S i ∧ i ≠ a) ∧ i ≠ b) (by omega) (fun c hc => by
        obtain ⟨g1, d, g2, g3, g4, g5⟩ := hg c hc.1.1
        refine ⟨g1, d, g2, ⟨⟨g3, fun e1 => ?_⟩, fun e1 => ?_⟩, g4, g5⟩
        · rw [e1] at g4; exact hc.2 (by omega)
        · rw [e1] at g4; exact hc.1.2 (by omega))
      omega
    · have : cnP S n = 0 := cnP_none (fun i _ hi => e ⟨i, hi⟩)
      omega
theorem mt_of {R : Nat → Nat → Prop} {n : Nat} {mt : Nat → Int} : ∀ {k : Nat} {S : Nat → Prop}, (∀ a, S a → a < n) → vmP R S mt → 2 * k ≤ cvN S n mt → mtkP R k S
  | 0, _, _, _, _ => trivial
  | k + 1, S, hS, hv, hk => by
    have h9 : 2 * (k + 1) ≤ cnP (fun i => S i ∧ 0 ≤ mt i) n := hk
    have hex : ∃ a, S a ∧ 0 ≤ mt a := Classical.byContradiction (fun e => by
      have : cnP (fun i => S i ∧ 0 ≤ mt i) n = 0 := cnP_none (fun i _ hi => e ⟨i, hi⟩)
      omega)
    obtain ⟨a, ha, hm⟩ := hex
    obtain ⟨b, g1, g2, g3, g4, g5⟩ := vm_ex hv ha hm
    refine ⟨a, b, fun e => g4 e.symm, ha, g2, g5, mt_of (n := n) (mt := mt) (k := k) (fun c hc => hS c hc.1) (fun c hc => ?_) ?_⟩
    · rcases hv c hc.1 with q | ⟨d, q1, q2, q3, q4, q5⟩
      · exact Or.inl q
      · refine Or.inr ⟨d, q1, ⟨q2, fun e => ?_, fun e => ?_⟩, q3, q4, q5⟩
        · rw [e] at q3; exact hc.2.2 (by omega)
        · rw [e] at q3; exact hc.2.1 (by omega)
    · have q1 : cnP (fun i => S i ∧ 0 ≤ mt i) n = cnP (fun i => (S i ∧ 0 ≤ mt i) ∧ i ≠ a) n + 1 := cnP_rm (p := fun i => S i ∧ 0 ≤ mt i) (hS a ha) ⟨ha, hm⟩
      have q2 : cnP (fun i => (S i ∧ 0 ≤ mt i) ∧ i ≠ a) n = cnP (fun i => ((S i ∧ 0 ≤ mt i) ∧ i ≠ a) ∧ i ≠ b) n + 1 := cnP_rm (p := fun i => (S i ∧ 0 ≤ mt i) ∧ i ≠ a) (hS b g2) ⟨⟨g2, by omega⟩, g4⟩
      have q3 : cvN (fun i => S i ∧ i ≠ a ∧ i ≠ b) n mt = cnP (fun i => ((S i ∧ 0 ≤ mt i) ∧ i ≠ a) ∧ i ≠ b) n := cnP_eq (fun i _ => ⟨fun h => ⟨⟨⟨h.1.1, h.2⟩, h.1.2.1⟩, h.1.2.2⟩, fun h => ⟨⟨h.1.1.1, h.1.2, h.2⟩, h.1.1.2⟩⟩)
      omega
/-- a pair more -/
def pu2 (N : Nat → Int) (a b : Nat) : Nat → Int := fun i => if i = a then (b : Int) else if i = b then (a : Int) else N i
theorem pu2_a {N : Nat → Int} {a b : Nat} : pu2 N a b a = (b : Int) := if_pos rfl
theorem pu2_b {N : Nat → Int} {a b : Nat} (h : b ≠ a) : pu2 N a b b = (a : Int) := by
  show (if b = a then (b : Int) else if b = b then (a : Int) else N b) = _
  rw [if_neg h, if_pos rfl]
theorem pu2_n {N : Nat → Int} {a b i : Nat} (h : i ≠ a) (h1 : i ≠ b) : pu2 N a b i = N i := by
  show (if i = a then (b : Int) else if i = b then (a : Int) else N i) = _
  rw [if_neg h, if_neg h1]
theorem pu2_vm {R : Nat → Nat → Prop} (hsy : ∀ i j, R i j → R j i) {S : Nat → Prop} {N : Nat → Int} {a b : Nat} (hab : a ≠ b) (ha : S a) (hb : S b) (hr : R a b) (h : vmP R (fun i => S i ∧ i ≠ a ∧ i ≠ b) N) : vmP R S (pu2 N a b) := fun c hc => by
  by_cases e : c = a
  · subst e
    exact Or.inr ⟨b, pu2_a, hb, pu2_b (fun e => hab e.symm), fun e => hab e.symm, hr⟩
  · by_cases e1 : c = b
    · subst e1
      exact Or.inr ⟨a, pu2_b e, ha, pu2_a, hab, hsy _ _ hr⟩
    · rcases h c ⟨hc, e, e1⟩ with q | ⟨d, q1, q2, q3, q4, q5⟩
      · exact Or.inl (by rw [pu2_n e e1]; exact q)
      · exact Or.inr ⟨d, by rw [pu2_n e e1]; exact q1, q2.1, by rw [pu2_n q2.2.1 q2.2.2]; exact q3, q4, q5⟩
theorem pu2_cv {S : Nat → Prop} {N : Nat → Int} {a b n : Nat} (hab : a ≠ b) (ha : S a) (hb : S b) (han : a < n) (hbn : b < n) : cvN S n (pu2 N a b) = cvN (fun i => S i ∧ i ≠ a ∧ i ≠ b) n N + 2 := by
  have q1 : cnP (fun i => S i ∧ 0 ≤ pu2 N a b i) n = cnP (fun i => (S i ∧ 0 ≤ pu2 N a b i) ∧ i ≠ a) n + 1 := cnP_rm (p := fun i => S i ∧ 0 ≤ pu2 N a b i) han ⟨ha, by rw [pu2_a]; omega⟩
  have q2 : cnP (fun i => (S i ∧ 0 ≤ pu2 N a b i) ∧ i ≠ a) n = cnP (fun i => ((S i ∧ 0 ≤ pu2 N a b i) ∧ i ≠ a) ∧ i ≠ b) n + 1 := cnP_rm (p := fun i => (S i ∧ 0 ≤ pu2 N a b i) ∧ i ≠ a) hbn ⟨⟨hb, by rw [pu2_b (fun e => hab e.symm)]; omega⟩, fun e => hab e.symm⟩
  have q3 : cvN (fun i => S i ∧ i ≠ a ∧ i ≠ b) n N = cnP (fun i => ((S i ∧ 0 ≤ pu2 N a b i) ∧ i ≠ a) ∧ i ≠ b) n := cnP_eq (fun i _ => ⟨fun h => ⟨⟨⟨h.1.1, by rw [pu2_n h.1.2.1 h.1.2.2]; exact h.2⟩, h.1.2.1⟩, h.1.2.2⟩, fun h => ⟨⟨h.1.1.1, h.1.2, h.2⟩, by have h9 := h.1.1.2; rw [pu2_n h.1.2 h.2] at h9; exact h9⟩⟩)
  have q4 : cvN S n (pu2 N a b) = cnP (fun i => S i ∧ 0 ≤ pu2 N a b i) n := rfl
  omega
theorem mt_fn {R : Nat → Nat → Prop} (hsy : ∀ i j, R i j → R j i) {n : Nat} : ∀ {k : Nat} {S : Nat → Prop}, (∀ a, S a → a < n) → mtkP R k S → ∃ N : Nat → Int, vmP R S N ∧ cvN S n N = 2 * k
  | 0, S, hS, _ => ⟨fun _ => -1, fun a _ => Or.inl (show (-1 : Int) < 0 by omega), cnP_none (fun i _ h => by have h2 : (0 : Int) ≤ -1 := h.2; omega)⟩
  | k + 1, S, hS, ⟨a, b, h1, h2, h3, h4, h5⟩ => by
    obtain ⟨N, n1, n2⟩ := mt_fn hsy (k := k) (S := fun i => S i ∧ i ≠ a ∧ i ≠ b) (fun c hc => hS c hc.1) h5
    exact ⟨pu2 N a b, pu2_vm hsy h1 h2 h3 h4 n1, by rw [pu2_cv h1 h2 h3 (hS a h2) (hS b h3)]; omega⟩
/-- a pairing may be changed so that it reaches all that another one reaches, and is no smaller -/
theorem ex_mt {R : Nat → Nat → Prop} {n : Nat} {S : Nat → Prop} (hS : ∀ a, S a → a < n) {M : Nat → Int} (hM : vmP R S M) : ∀ (k : Nat) {N : Nat → Int}, cnP (fun i => S i ∧ 0 ≤ M i ∧ N i ≠ M i) n = k → vmP R S N → ∃ N' : Nat → Int, vmP R S N' ∧ cvN S n N ≤ cvN S n N' ∧ ∀ z, S z → 0 ≤ M z → 0 ≤ N' z := by
  intro k
  induction k using Nat.strongRecOn with
  | _ k ih =>
    intro N hk hN
    by_cases hall : ∀ z, S z → 0 ≤ M z → 0 ≤ N z
    · exact ⟨N, hN, Nat.le_refl _, hall⟩
    · obtain ⟨z0, hz, hm, hnn⟩ : ∃ z, S z ∧ 0 ≤ M z ∧ ¬ 0 ≤ N z := Classical.byContradiction (fun g => hall (fun z h1 h2 => Classical.byContradiction (fun h3 => g ⟨z, h1, h2, h3⟩)))
      obtain ⟨z1, m1, m2, m3, m4, m5⟩ := vm_ex hM hz hm
      obtain ⟨-, -, -, m6⟩ := vm_at hM m2 m3
      obtain ⟨N1, hN1⟩ : ∃ N1 : Nat → Int, N1 = fun i => if i = z0 then (z1 : Int) else if i = z1 then (z0 : Int) else if N i = (z1 : Int) then -1 else N i := ⟨_, rfl⟩
      have e0 : N1 z0 = (z1 : Int) := by rw [hN1]; exact if_pos rfl
      have e1 : N1 z1 = (z0 : Int) := by rw [hN1]; show (if z1 = z0 then (z1 : Int) else if z1 = z1 then (z0 : Int) else _) = _; rw [if_neg m4, if_pos rfl]
      have e2 : ∀ i, i ≠ z0 → i ≠ z1 → N i = (z1 : Int) → N1 i = -1 := fun i h1 h2 h3 => by rw [hN1]; show (if i = z0 then (z1 : Int) else if i = z1 then (z0 : Int) else if N i = (z1 : Int) then -1 else N i) = _; rw [if_neg h1, if_neg h2, if_pos h3]
      have e3 : ∀ i, i ≠ z0 → i ≠ z1 → N i ≠ (z1 : Int) → N1 i = N i := fun i h1 h2 h3 => by rw [hN1]; show (if i = z0 then (z1 : Int) else if i = z1 then (z0 : Int) else if N i = (z1 : Int) then -1 else N i) = _; rw [if_neg h1, if_neg h2, if_neg h3]
      have v1 : vmP R S N1 := fun c hc => by
        by_cases g0 : c = z0
        · subst g0; exact Or.inr ⟨z1, e0, m2, e1, m4, m5⟩
        · by_cases g1 : c = z1
          · subst g1; exact Or.inr ⟨z0, e1, hz, e0, fun e => m4 e.symm, m6⟩
          · by_cases g2 : N c = (z1 : Int)
            · exact Or.inl (by rw [e2 c g0 g1 g2]; omega)
            · rcases hN c hc with q | ⟨d, q1, q2, q3, q4, q5⟩
              · exact Or.inl (by rw [e3 c g0 g1 g2]; exact q)
              · refine Or.inr ⟨d, by rw [e3 c g0 g1 g2]; exact q1, q2, ?_, q4, q5⟩
                rw [e3 d (fun e => by rw [e] at q3; omega) (fun e => g2 (by rw [q1, e])) (by rw [q3]; omega)]
                exact q3
      have c1 : cvN S n N ≤ cvN S n N1 := cnP_inj (φ := fun i => if N i = (z1 : Int) then z0 else i) (fun i hi hp => by
          show (if N i = (z1 : Int) then z0 else i) < n ∧ S (if N i = (z1 : Int) then z0 else i) ∧ 0 ≤ N1 (if N i = (z1 : Int) then z0 else i)
          by_cases g : N i = (z1 : Int)
          · rw [if_pos g]; exact ⟨hS z0 hz, hz, by rw [e0]; omega⟩
          · rw [if_neg g]
            refine ⟨hi, hp.1, ?_⟩
            have h2 := hp.2
            by_cases g0 : i = z0
            · rw [g0, e0]; omega
            · by_cases g1 : i = z1
              · rw [g1, e1]; omega
              · rw [e3 i g0 g1 g]; exact h2) (fun i j hi hj hp hq he => by
          have he1 : (if N i = (z1 : Int) then z0 else i) = (if N j = (z1 : Int) then z0 else j) := he
          have hp2 := hp.2
          have hq2 := hq.2
          by_cases g : N i = (z1 : Int)
          · by_cases g1 : N j = (z1 : Int)
            · have h1 := (vm_at hN hp.1 g).2.1
              have h2 := (vm_at hN hq.1 g1).2.1
              omega
            · rw [if_pos g, if_neg g1] at he1
              rw [← he1] at hq2
              omega
          · by_cases g1 : N j = (z1 : Int)
            · rw [if_neg g, if_pos g1] at he1
              rw [he1] at hp2
              omega
            · rw [if_neg g, if_neg g1] at he1; exact he1)
      have d1 : cnP (fun i => S i ∧ 0 ≤ M i ∧ N1 i ≠ M i) n < cnP (fun i => S i ∧ 0 ≤ M i ∧ N i ≠ M i) n := cnP_lt (u := z0) (fun i hi hp => by
          refine ⟨hp.1, hp.2.1, fun e => hp.2.2 ?_⟩
          by_cases g0 : i = z0
          · rw [g0, e0]; exact m1.symm
          · by_cases g1 : i = z1
            · rw [g1, e1]; exact m3.symm
            · by_cases g2 : N i = (z1 : Int)
              · exfalso
                have h1 := (vm_at hM hp.1 (e.symm.trans g2)).2.1
                omega
              · rw [e3 i g0 g1 g2]; exact e) (hS z0 hz) ⟨hz, hm, by omega⟩ (fun hp => hp.2.2 (by rw [e0]; exact m1.symm))
      obtain ⟨N2, w1, w2, w3⟩ := ih _ (by omega) rfl v1
      exact ⟨N2, w1, Nat.le_trans c1 w2, w3⟩
theorem ma_of {R : Nat → Nat → Prop} (hsy : ∀ i j, R i j → R j i) {n : Nat} {S : Nat → Prop} (hS : ∀ a, S a → a < n) {M : Nat → Int} (hM : vmP R S M) {k : Nat} (hk : cvN S n M = 2 * k) (hx : ∀ x, S x → M x < 0 → ¬ ∃ N : Nat → Int, vmP R S N ∧ 0 ≤ N x ∧ ∀ z, S z → 0 ≤ M z → 0 ≤ N z) : maA R S (k : Int) := by
  refine ⟨by omega, ?_, fun h => ?_⟩
  · rw [show ((k : Int)).toNat = k by omega]
    exact mt_of hS hM (by omega)
  · rw [show ((k : Int)).toNat = k by omega] at h
    obtain ⟨N, n1, n2⟩ := mt_fn hsy hS h
    obtain ⟨N1, w1, w2, w3⟩ := ex_mt hS hM _ rfl n1
    have hex : ∃ x, S x ∧ 0 ≤ N1 x ∧ M x < 0 := Classical.byContradiction (fun g => by
      have h1 : cvN S n N1 ≤ cvN S n M := cnP_sub (fun i _ hi => ⟨hi.1, Classical.byContradiction (fun g1 => g ⟨i, hi.1, hi.2, by omega⟩)⟩)
      omega)
    obtain ⟨x, x1, x2, x3⟩ := hex
    exact hx x x1 x3 ⟨N1, w1, x2, w3⟩
/-- a node without a partner is missed -/
theorem ms_un {R : Nat → Nat → Prop} {n : Nat} {M : Nat → Int} (hM : vmP R (fun j => j < n) M) {k v : Nat} (hk : cvN (fun j => j < n) n M = 2 * k) (hma : maA R (fun j => j < n) (k : Int)) (hv : M v < 0) : maA R (fun j => j < n ∧ j ≠ v) (k : Int) := by
  refine ⟨by omega, ?_, fun h => hma.2.2 (mt_mo (fun i g => g.1) h)⟩
  rw [show ((k : Int)).toNat = k by omega]
  refine mt_of (n := n) (mt := M) (fun a ha => ha.1) (fun a ha => ?_) ?_
  · rcases hM a ha.1 with q | ⟨b, q1, q2, q3, q4, q5⟩
    · exact Or.inl q
    · exact Or.inr ⟨b, q1, ⟨q2, fun e => by rw [e] at q3; omega⟩, q3, q4, q5⟩
  · have h1 : cvN (fun j => j < n) n M ≤ cvN (fun j => j < n ∧ j ≠ v) n M := cnP_sub (fun i _ hi => ⟨⟨hi.1, fun e => by have h2 := hi.2; rw [e] at h2; omega⟩, hi.2⟩)
    omega
/-- without a node and its pair -/
theorem vm_wo {R : Nat → Nat → Prop} {n : Nat} {M : Nat → Int} (hM : vmP R (fun j => j < n) M) {v u : Nat} (hv : v < n) (hu : M v = (u : Int)) : vmP R (fun j => j < n ∧ j ≠ v) (fup M u (-1)) := fun a ha => by
  have g := vm_at hM hv hu
  by_cases e : a = u
  · exact Or.inl (by rw [show fup M u (-1) a = -1 from if_pos e]; omega)
  · rcases hM a ha.1 with q | ⟨b, q1, q2, q3, q4, q5⟩
    · exact Or.inl (by rw [show fup M u (-1) a = M a from if_neg e]; exact q)
    · exact Or.inr ⟨b, by rw [show fup M u (-1) a = M a from if_neg e]; exact q1, ⟨q2, fun e1 => by rw [e1] at q3; omega⟩, by rw [show fup M u (-1) b = M b from if_neg (fun e1 => by rw [e1] at q3; exact ha.2 (by omega))]; exact q3, q4, q5⟩
theorem cv_wo {R : Nat → Nat → Prop} {n : Nat} {M : Nat → Int} (hM : vmP R (fun j => j < n) M) {v u : Nat} (hv : v < n) (hu : M v = (u : Int)) : cvN (fun j => j < n) n M = cvN (fun j => j < n ∧ j ≠ v) n (fup M u (-1)) + 2 := by
  have g := vm_at hM hv hu
  have q1 : cnP (fun i => i < n ∧ 0 ≤ M i) n = cnP (fun i => (i < n ∧ 0 ≤ M i) ∧ i ≠ v) n + 1 := cnP_rm (p := fun i => i < n ∧ 0 ≤ M i) hv ⟨hv, by omega⟩
  have q2 : cnP (fun i => (i < n ∧ 0 ≤ M i) ∧ i ≠ v) n = cnP (fun i => ((i < n ∧ 0 ≤ M i) ∧ i ≠ v) ∧ i ≠ u) n + 1 := cnP_rm (p := fun i => (i < n ∧ 0 ≤ M i) ∧ i ≠ v) g.1 ⟨⟨g.1, by omega⟩, g.2.2.1⟩
  have q3 : cvN (fun j => j < n ∧ j ≠ v) n (fup M u (-1)) = cnP (fun i => ((i < n ∧ 0 ≤ M i) ∧ i ≠ v) ∧ i ≠ u) n := cnP_eq (fun i _ => by
    by_cases e : i = u
    · exact ⟨fun h => by have h2 := h.2; rw [show fup M u (-1) i = -1 from if_pos e] at h2; omega, fun h => absurd e h.2⟩
    · rw [show fup M u (-1) i = M i from if_neg e]
      exact ⟨fun h => ⟨⟨⟨h.1.1, h.2⟩, h.1.2⟩, e⟩, fun h => ⟨⟨h.1.1.1, h.1.2⟩, h.1.1.2⟩⟩)
  have q4 : cvN (fun j => j < n) n M = cnP (fun i => i < n ∧ 0 ≤ M i) n := rfl
  omega
/-- its partner has found another one without it: it can be missed -/
theorem ms_fd {R : Nat → Nat → Prop} {n : Nat} {N : Nat → Int} {k v : Nat} (hma : maA R (fun j => j < n) (k : Int)) (hN : vmP R (fun j => j < n ∧ j ≠ v) N) (hk : 2 * k ≤ cvN (fun j => j < n ∧ j ≠ v) n N) : maA R (fun j => j < n ∧ j ≠ v) (k : Int) := by
  refine ⟨by omega, ?_, fun h => hma.2.2 (mt_mo (fun i g => g.1) h)⟩
  rw [show ((k : Int)).toNat = k by omega]
  exact mt_of (n := n) (fun a ha => ha.1) hN hk
/-- its partner finds none without it: it cannot be missed -/
theorem ms_nx {R : Nat → Nat → Prop} (hsy : ∀ i j, R i j → R j i) {n : Nat} {M : Nat → Int} (hM : vmP R (fun j => j < n) M) {k v u : Nat} (hk : cvN (fun j => j < n) n M = 2 * k) (hma : maA R (fun j => j < n) (k : Int)) (hv : v < n) (hu : M v = (u : Int)) (hx : ¬ ∃ N : Nat → Int, vmP R (fun j => j < n ∧ j ≠ v) N ∧ 0 ≤ N u ∧ ∀ z, (z < n ∧ z ≠ v) → 0 ≤ fup M u (-1) z → 0 ≤ N z) : ¬ maA R (fun j => j < n ∧ j ≠ v) (k : Int) := fun h => by
  have g := vm_at hM hv hu
  have h1 := h.2.1
  rw [show ((k : Int)).toNat = k by omega] at h1
  obtain ⟨N, n1, n2⟩ := mt_fn hsy (n := n) (fun a ha => ha.1) h1
  obtain ⟨N1, w1, w2, w3⟩ := ex_mt (n := n) (fun a ha => ha.1) (vm_wo hM hv hu) _ rfl n1
  by_cases hc : 0 ≤ N1 u
  · exact hx ⟨N1, w1, hc, w3⟩
  · have v1 : vmP R (fun i => i < n ∧ i ≠ v ∧ i ≠ u) N1 := fun a ha => by
      rcases w1 a ⟨ha.1, ha.2.1⟩ with q | ⟨b, q1, q2, q3, q4, q5⟩
      · exact Or.inl q
      · exact Or.inr ⟨b, q1, ⟨q2.1, q2.2, fun e => by rw [e] at q3; omega⟩, q3, q4, q5⟩
    have v2 := pu2_vm hsy (S := fun j => j < n) (fun e => g.2.2.1 e.symm) hv g.1 g.2.2.2 v1
    have c2 := pu2_cv (N := N1) (S := fun j => j < n) (n := n) (fun e => g.2.2.1 e.symm : v ≠ u) hv g.1 hv g.1
    have c3 : cvN (fun j => j < n ∧ j ≠ v) n N1 ≤ cvN (fun i => i < n ∧ i ≠ v ∧ i ≠ u) n N1 := cnP_sub (fun i _ hi => ⟨⟨hi.1.1, hi.1.2, fun e => by have h2 := hi.2; rw [e] at h2; omega⟩, hi.2⟩)
    have h5 := mt_of (k := k + 1) (n := n) (fun a ha => ha) v2 (by omega)
    exact hma.2.2 (by rw [show ((k : Int)).toNat = k by omega]; exact h5)
