/-- no two of a set stand in a relation -/
def apP (R : Nat → Nat → Prop) (s : Int) : Prop := ∀ i j, Me s i → Me s j → i ≠ j → ¬ R i j
def suP (s S : Int) : Prop := ∀ i, Me s i → Me S i
/-- how many of a set can be taken of which no two stand in a relation -/
def mxA (R : Nat → Nat → Prop) (S k : Int) : Prop := (∃ s : Int, (0 ≤ s ∧ s ≤ 65535) ∧ suP s S ∧ apP R s ∧ bcI s 16 = k) ∧ ∀ s : Int, (0 ≤ s ∧ s ≤ 65535) → suP s S → apP R s → bcI s 16 ≤ k
/-- the least number of the greatest sets of which no two stand in a relation -/
def clA (R : Nat → Nat → Prop) (S r : Int) : Prop := 0 ≤ r ∧ suP r S ∧ apP R r ∧ ∀ s : Int, (0 ≤ s ∧ s ≤ 65535) → suP s S → apP R s → bcI s 16 ≤ bcI r 16 ∧ (bcI s 16 = bcI r 16 → r ≤ s)
theorem cl_uq {R : Nat → Nat → Prop} {S r q : Int} (hS : 0 ≤ S ∧ S ≤ 65535) (h : clA R S r) (h' : clA R S q) : r = q := by
  obtain ⟨a1, a2, a3, a4⟩ := h
  obtain ⟨b1, b2, b3, b4⟩ := h'
  have e1 : r ≤ S := Me_sub_le a1 hS.1 a2
  have e2 : q ≤ S := Me_sub_le b1 hS.1 b2
  have c1 := a4 q ⟨b1, by omega⟩ b2 b3
  have c2 := b4 r ⟨a1, by omega⟩ a2 a3
  have c3 := c1.2 (by omega)
  have c4 := c2.2 (by omega)
  omega
theorem bc_y {x : Int} {k : Nat} (hm : Me x k) : bcI x (k + 1) = bcI x k + 1 := by
  have e : bcI x (k + 1) = bcI x k + ((x.toNat >>> k : Nat) : Int) % 2 := rfl
  have h := (Me_bit (x := x) (y := (k : Int))).mpr hm
  rw [Int.toNat_natCast] at h
  rw [e]; omega
theorem bc_n {x : Int} {k : Nat} (hm : ¬ Me x k) : bcI x (k + 1) = bcI x k := by
  have e : bcI x (k + 1) = bcI x k + ((x.toNat >>> k : Nat) : Int) % 2 := rfl
  have h : ¬ ((x.toNat >>> ((k : Int)).toNat : Nat) : Int) % 2 ≠ 0 := fun g => hm (Me_bit.mp g)
  rw [Int.toNat_natCast] at h
  rw [e]; omega
theorem bc_sb {s z : Int} (h : suP s z) : ∀ k : Nat, bcI s k ≤ bcI z k
  | 0 => Int.le_refl _
  | k + 1 => by
    have ih := bc_sb h k
    by_cases hm : Me s k
    · rw [bc_y hm, bc_y (h k hm)]; omega
    · rw [bc_n hm]
      by_cases g : Me z k
      · rw [bc_y g]; omega
      · rw [bc_n g]; omega
theorem bc_one {s z : Int} {w : Nat} (h : ∀ i, Me s i → Me z i ∨ i = w) : ∀ k : Nat, bcI s k ≤ bcI z k + (if w < k then 1 else 0)
  | 0 => by rw [if_neg (by omega)]; exact Int.le_refl _
  | k + 1 => by
    have ih := bc_one h k
    by_cases hw : w = k
    · subst hw
      rw [if_neg (by omega)] at ih
      rw [if_pos (show w < w + 1 by omega)]
      by_cases hm : Me s w
      · rw [bc_y hm]
        by_cases g : Me z w
        · rw [bc_y g]; omega
        · rw [bc_n g]; omega
      · rw [bc_n hm]
        by_cases g : Me z w
        · rw [bc_y g]; omega
        · rw [bc_n g]; omega
    · have hc : (if w < k + 1 then (1 : Int) else 0) = (if w < k then 1 else 0) := by
        by_cases g : w < k
        · rw [if_pos g, if_pos (by omega)]
        · rw [if_neg g, if_neg (by omega)]
      rw [hc]
      by_cases hm : Me s k
      · rcases h k hm with g | g
        · rw [bc_y hm, bc_y g]; omega
        · exact absurd g.symm hw
      · rw [bc_n hm]
        by_cases g : Me z k
        · rw [bc_y g]; omega
        · rw [bc_n g]; omega
theorem bc_ins {s z : Int} {v : Nat} (h : ∀ i, Me z i ↔ Me s i ∨ i = v) (hv : ¬ Me s v) : ∀ k : Nat, bcI z k = bcI s k + (if v < k then 1 else 0)
  | 0 => by rw [if_neg (by omega)]; rfl
  | k + 1 => by
    have ih := bc_ins h hv k
    by_cases hw : v = k
    · subst hw
      rw [if_neg (by omega)] at ih
      rw [if_pos (show v < v + 1 by omega), bc_y ((h v).mpr (Or.inr rfl)), bc_n hv]; omega
    · have hc : (if v < k + 1 then (1 : Int) else 0) = (if v < k then 1 else 0) := by
        by_cases g : v < k
        · rw [if_pos g, if_pos (by omega)]
        · rw [if_neg g, if_neg (by omega)]
      rw [hc]
      by_cases hm : Me s k
      · rw [bc_y hm, bc_y ((h k).mpr (Or.inl hm))]; omega
      · rw [bc_n hm, bc_n (fun g => (((h k).mp g).elim hm (fun e => hw e.symm)))]; omega
theorem bc_split {s c z : Int} (h : ∀ i, Me s i → Me c i ∨ Me z i) : ∀ k : Nat, bcI s k ≤ bcI c k + bcI z k
  | 0 => Int.le_refl _
  | k + 1 => by
    have ih := bc_split h k
    by_cases g1 : Me c k
    · rw [bc_y g1]
      by_cases g2 : Me z k
      · rw [bc_y g2]
        by_cases hm : Me s k
        · rw [bc_y hm]; omega
        · rw [bc_n hm]; omega
      · rw [bc_n g2]
        by_cases hm : Me s k
        · rw [bc_y hm]; omega
        · rw [bc_n hm]; omega
    · rw [bc_n g1]
      by_cases g2 : Me z k
      · rw [bc_y g2]
        by_cases hm : Me s k
        · rw [bc_y hm]; omega
        · rw [bc_n hm]; omega
      · rw [bc_n g2, bc_n (fun g => (h k g).elim g1 g2)]; omega
theorem tb_lt {c s j : Nat} (hc : c.testBit j = false) (hs : s.testBit j = true) (h : ∀ i, j < i → c.testBit i = s.testBit i) : c < s := by
  have e : c / 2 ^ (j + 1) = s / 2 ^ (j + 1) := Nat.eq_of_testBit_eq (fun i => by
    rw [Nat.testBit_div_two_pow, Nat.testBit_div_two_pow]; exact h _ (by omega))
  rw [Nat.testBit_eq_decide_div_mod_eq] at hc hs
  have hc1 := of_decide_eq_false hc
  have hs1 := of_decide_eq_true hs
  rw [Nat.pow_succ, ← Nat.div_div_eq_div_mul, ← Nat.div_div_eq_div_mul] at e
  have hlt : c / 2 ^ j < s / 2 ^ j := by omega
  refine Classical.byContradiction (fun g => ?_)
  have := Nat.div_le_div_right (c := 2 ^ j) (show s ≤ c by omega)
  omega
theorem bc_two16 {x : Int} (hx : x ≤ 65535) (h : bcI x 16 ≤ 1) {u w : Nat} (hu : Me x u) (hw : Me x w) : u = w := by
  refine Classical.byContradiction (fun hne => ?_)
  have h1 := bc_two (x := x) (k := 16) ⟨u, w, Me_lt hu hx, Me_lt hw hx, hu, hw, hne⟩
  omega
theorem ins_ex {s : Int} {v : Nat} (hs : 0 ≤ s ∧ s ≤ 65535) (hv : v < 16) : ∃ z : Int, (0 ≤ z ∧ z ≤ 65535) ∧ ∀ i, Me z i ↔ Me s i ∨ i = v := by
  refine ⟨((s.toNat ||| 2 ^ v : Nat) : Int), ?_, fun i => ?_⟩
  · have h1 : s.toNat ||| 2 ^ v < 2 ^ 16 := Nat.or_lt_two_pow (by omega) (Nat.pow_lt_pow_right (by omega) hv)
    omega
  · unfold Me
    rw [Int.toNat_natCast, Nat.testBit_or, Bool.or_eq_true, Nat.testBit_two_pow]
    constructor
    · rintro (g | g)
      · exact Or.inl g
      · exact Or.inr (by have := of_decide_eq_true g; omega)
    · rintro (g | g)
      · exact Or.inl g
      · exact Or.inr (decide_eq_true (by omega))
theorem int_ex {s S : Int} (hs : 0 ≤ s ∧ s ≤ 65535) : ∃ z : Int, (0 ≤ z ∧ z ≤ 65535) ∧ ∀ i, Me z i ↔ Me s i ∧ Me S i := by
  refine ⟨((s.toNat &&& S.toNat : Nat) : Int), ?_, fun i => ?_⟩
  · have h1 : s.toNat &&& S.toNat ≤ s.toNat := Nat.and_le_left
    omega
  · unfold Me
    rw [Int.toNat_natCast, Nat.testBit_and, Bool.and_eq_true]
theorem ap_0 {R : Nat → Nat → Prop} : apP R 0 := fun i _ h => absurd h (Me_0 i)
theorem ap_sub {R : Nat → Nat → Prop} {s z : Int} (h : apP R s) (hz : suP z s) : apP R z := fun i j hi hj => h i j (hz i hi) (hz j hj)
theorem mx_0 {R : Nat → Nat → Prop} {S : Int} (h : ∀ i, ¬ Me S i) : mxA R S 0 := by
  have e0 : bcI 0 16 = 0 := by
    have h1 := bc_sb (s := 0) (z := 0) (fun i g => g) 16
    decide
  refine ⟨⟨0, by omega, fun i g => absurd g (Me_0 i), ap_0, e0⟩, fun s hs h1 h2 => ?_⟩
  have h3 := bc_sb (s := s) (z := 0) (fun i g => absurd (h1 i g) (h i)) 16
  omega
theorem mx_uq {R : Nat → Nat → Prop} {S k l : Int} (h : mxA R S k) (h' : mxA R S l) : k = l := by
  obtain ⟨⟨s, a1, a2, a3, a4⟩, a5⟩ := h
  obtain ⟨⟨t, b1, b2, b3, b4⟩, b5⟩ := h'
  have c1 := a5 t b1 b2 b3
  have c2 := b5 s a1 a2 a3
  omega
theorem mx_mono {R : Nat → Nat → Prop} {S T k l : Int} (hs : suP S T) (h : mxA R S k) (h' : mxA R T l) : k ≤ l := by
  obtain ⟨⟨s, a1, a2, a3, a4⟩, a5⟩ := h
  have c := h'.2 s a1 (fun i g => hs i (a2 i g)) a3
  omega
/-- what is left when v and what it stands in relation with are gone -/
def lfV (R : Nat → Nat → Prop) (S : Int) (v : Nat) (Z : Int) : Prop := ∀ i, Me Z i ↔ Me S i ∧ ¬ (R v i ∨ i = v)
theorem mx_in {R : Nat → Nat → Prop} (hR : ∀ i j, R i j → R j i) {S Z k : Int} {v : Nat} (hS : S ≤ 65535) (hv : Me S v) (hZ : lfV R S v Z) (h : mxA R Z k) : ∃ s : Int, (0 ≤ s ∧ s ≤ 65535) ∧ suP s S ∧ apP R s ∧ bcI s 16 = k + 1 := by
  obtain ⟨⟨s, a1, a2, a3, a4⟩, -⟩ := h
  have hv16 := Me_lt hv hS
  obtain ⟨z, z1, z2⟩ := ins_ex a1 hv16
  have hns : ¬ Me s v := fun g => ((hZ v).mp (a2 v g)).2 (Or.inr rfl)
  refine ⟨z, z1, fun i g => ?_, fun i j gi gj hne => ?_, ?_⟩
  · rcases (z2 i).mp g with g | g
    · exact ((hZ i).mp (a2 i g)).1
    · rw [g]; exact hv
  · rcases (z2 i).mp gi with gi | gi
    · rcases (z2 j).mp gj with gj | gj
      · exact a3 i j gi gj hne
      · subst gj
        exact fun g => ((hZ i).mp (a2 i gi)).2 (Or.inl (hR _ _ g))
    · rcases (z2 j).mp gj with gj | gj
      · subst gi
        exact fun g => ((hZ j).mp (a2 j gj)).2 (Or.inl g)
      · exact absurd (gi.trans gj.symm) hne
  · rw [bc_ins z2 hns 16, if_pos hv16]; omega
theorem mx_up {R : Nat → Nat → Prop} {S Z k : Int} {v : Nat} (hZ : lfV R S v Z) (h : mxA R Z k) {s : Int} (hs : 0 ≤ s ∧ s ≤ 65535) (hsu : suP s S) (ha : apP R s) {w : Nat} (hw : ∀ i, Me s i → (R v i ∨ i = v) → i = w) : bcI s 16 ≤ k + 1 := by
  obtain ⟨z, z1, z2⟩ := int_ex (S := Z) hs
  have h1 := h.2 z z1 (fun i g => ((z2 i).mp g).2) (ap_sub ha (fun i g => ((z2 i).mp g).1))
  have h2 := bc_one (s := s) (z := z) (w := w) (fun i g => by
    by_cases q : R v i ∨ i = v
    · exact Or.inr (hw i g q)
    · exact Or.inl ((z2 i).mpr ⟨g, (hZ i).mpr ⟨hsu i g, q⟩⟩)) 16
  have h3 : (if w < 16 then (1 : Int) else 0) ≤ 1 := by split <;> omega
  omega
theorem mx_d1 {R : Nat → Nat → Prop} (hR : ∀ i j, R i j → R j i) {S Z k : Int} {v : Nat} (hS : S ≤ 65535) (hv : Me S v) (hd : ∀ i j, Me S i → Me S j → R v i → R v j → i = j) (hZ : lfV R S v Z) (h : mxA R Z k) : mxA R S (k + 1) := by
  refine ⟨mx_in hR hS hv hZ h, fun s hs hsu ha => ?_⟩
  by_cases g : Me s v
  · exact mx_up hZ h hs hsu ha (w := v) (fun i gi q => by
      rcases q with q | q
      · exact Classical.byContradiction (fun hne => ha v i g gi (fun e => hne e.symm) q)
      · exact q)
  · by_cases q : ∃ w, Me s w ∧ R v w
    · obtain ⟨w, w1, w2⟩ := q
      exact mx_up hZ h hs hsu ha (w := w) (fun i gi q => by
        rcases q with q | q
        · exact hd i w (hsu i gi) (hsu w w1) q w2
        · exact absurd (q ▸ gi) g)
    · exact mx_up hZ h hs hsu ha (w := 0) (fun i gi p => by
        rcases p with p | p
        · exact absurd ⟨i, gi, p⟩ q
        · exact absurd (p ▸ gi) g)
theorem mx_br {R : Nat → Nat → Prop} (hR : ∀ i j, R i j → R j i) {S Z Y a b : Int} {v : Nat} (hS : S ≤ 65535) (hv : Me S v) (hZ : lfV R S v Z) (hY : ∀ i, Me Y i ↔ Me S i ∧ i ≠ v) (ha : mxA R Z a) (hb : mxA R Y b) : mxA R S (max (a + 1) b) := by
  refine ⟨?_, fun s hs hsu hap => ?_⟩
  · by_cases g : b ≤ a + 1
    · rw [Int.max_eq_left g]; exact mx_in hR hS hv hZ ha
    · rw [Int.max_eq_right (by omega)]
      obtain ⟨⟨s, c1, c2, c3, c4⟩, -⟩ := hb
      exact ⟨s, c1, fun i q => ((hY i).mp (c2 i q)).1, c3, c4⟩
  · by_cases g : Me s v
    · have h1 := mx_up hZ ha hs hsu hap (w := v) (fun i gi q => by
        rcases q with q | q
        · exact Classical.byContradiction (fun hne => hap v i g gi (fun e => hne e.symm) q)
        · exact q)
      exact Int.le_trans h1 (Int.le_max_left _ _)
    · have h1 := hb.2 s hs (fun i q => (hY i).mpr ⟨hsu i q, fun e => g (e ▸ q)⟩) hap
      exact Int.le_trans h1 (Int.le_max_right _ _)
/-- on the way to the least of the greatest: nodes from v on are decided -/
def clJ (R : Nat → Nat → Prop) (S G c o : Int) (v : Nat) : Prop := (0 ≤ c ∧ c ≤ 65535) ∧ suP c S ∧ apP R c ∧ (∀ i, Me c i → v ≤ i) ∧ (∀ i, Me o i ↔ (Me S i ∧ i < v) ∧ ∀ j, Me c j → ¬ R j i) ∧ mxA R S G ∧ mxA R o (G - bcI c 16) ∧ ∀ s : Int, (0 ≤ s ∧ s ≤ 65535) → suP s S → apP R s → bcI s 16 = G → (∃ j, v ≤ j ∧ Me s j ∧ ¬ Me c j ∧ ∀ i, j < i → (Me s i ↔ Me c i)) ∨ ∀ i, v ≤ i → (Me s i ↔ Me c i)
theorem clj_0 {R : Nat → Nat → Prop} {S G : Int} {n : Nat} (hn : ∀ i, Me S i → i < n) (h : mxA R S G) : clJ R S G 0 S n := by
  have e0 : bcI 0 16 = 0 := by decide
  refine ⟨by omega, fun i g => absurd g (Me_0 i), ap_0, fun i g => absurd g (Me_0 i), fun i => ⟨fun g => ⟨⟨g, hn i g⟩, fun j q => absurd q (Me_0 j)⟩, fun g => g.1.1⟩, h, by rw [e0, Int.sub_zero]; exact h, fun s hs h1 h2 h3 => Or.inr (fun i hi => ⟨fun g => absurd (hn i (h1 i g)) (by omega), fun g => absurd g (Me_0 i)⟩)⟩
theorem clj_no {R : Nat → Nat → Prop} (hR : ∀ i j, R i j → R j i) {S G c o : Int} {v : Nat} (h : clJ R S G c o (v + 1)) (hv : ¬ Me o v) : clJ R S G c o v := by
  obtain ⟨h1, h2, h3, h4, h5, h6, h7, h8⟩ := h
  refine ⟨h1, h2, h3, fun i g => by have := h4 i g; omega, fun i => ⟨fun g => ?_, fun g => (h5 i).mpr ⟨⟨g.1.1, by omega⟩, g.2⟩⟩, h6, h7, fun s hs q1 q2 q3 => ?_⟩
  · have k := (h5 i).mp g
    refine ⟨⟨k.1.1, ?_⟩, k.2⟩
    have hne : i ≠ v := fun e => hv (e ▸ g)
    omega
  · rcases h8 s hs q1 q2 q3 with ⟨j, j0, k⟩ | k
    · exact Or.inl ⟨j, by omega, k⟩
    · refine Or.inr (fun i hi => ?_)
      by_cases e : i = v
      · subst e
        refine ⟨fun g => absurd ((h5 i).mpr ⟨⟨q1 i g, by omega⟩, fun j hj hr => ?_⟩) hv, fun g => absurd (h4 i g) (by omega)⟩
        have hj1 := h4 j hj
        exact q2 j i ((k j hj1).mpr hj) g (by omega) hr
      · exact k i (by omega)
theorem clj_lv {R : Nat → Nat → Prop} {S G c o o1 k : Int} {v : Nat} (h : clJ R S G c o (v + 1)) (ho : ∀ i, Me o1 i ↔ Me o i ∧ i ≠ v) (hk : mxA R o1 k) (hg : G ≤ bcI c 16 + k) : clJ R S G c o1 v := by
  obtain ⟨h1, h2, h3, h4, h5, h6, h7, h8⟩ := h
  have e := mx_mono (fun i g => ((ho i).mp g).1) hk h7
  refine ⟨h1, h2, h3, fun i g => by have := h4 i g; omega, fun i => ?_, h6, by rw [show G - bcI c 16 = k by omega]; exact hk, fun s hs q1 q2 q3 => ?_⟩
  · rw [ho i, h5 i]
    exact ⟨fun g => ⟨⟨g.1.1.1, by have := g.1.1.2; have := g.2; omega⟩, g.1.2⟩, fun g => ⟨⟨⟨g.1.1, by have := g.1.2; omega⟩, g.2⟩, by have := g.1.2; omega⟩⟩
  · rcases h8 s hs q1 q2 q3 with ⟨j, j0, k⟩ | k
    · exact Or.inl ⟨j, by omega, k⟩
    · by_cases g : Me s v
      · exact Or.inl ⟨v, Nat.le_refl v, g, fun q => absurd (h4 v q) (by omega), fun i hi => k i (by omega)⟩
      · refine Or.inr (fun i hi => ?_)
        by_cases e : i = v
        · subst e
          exact ⟨fun q => absurd q g, fun q => absurd (h4 i q) (by omega)⟩
        · exact k i (by omega)
theorem clj_tk {R : Nat → Nat → Prop} (hR : ∀ i j, R i j → R j i) {S G c c1 o o1 o2 k l : Int} {v : Nat} (hS : 0 ≤ S ∧ S ≤ 65535) (h : clJ R S G c o (v + 1)) (hv : Me o v) (ho : ∀ i, Me o1 i ↔ Me o i ∧ i ≠ v) (hk : mxA R o1 k) (hg : bcI c 16 + k < G) (hc : ∀ i, Me c1 i ↔ Me c i ∨ i = v) (hc0 : 0 ≤ c1) (ho2 : lfV R o v o2) (hl : mxA R o2 l) : clJ R S G c1 o2 v := by
  obtain ⟨h1, h2, h3, h4, h5, h6, h7, h8⟩ := h
  have hv5 := (h5 v).mp hv
  have hoS : suP o S := fun i g => ((h5 i).mp g).1.1
  have hnc : ¬ Me c v := fun g => absurd (h4 v g) (by omega)
  have hv16 : v < 16 := Me_lt hv5.1.1 hS.2
  have eb := bc_ins hc hnc 16
  rw [if_pos hv16] at eb
  have h2' : suP c1 S := fun i g => by
    rcases (hc i).mp g with g | g
    · exact h2 i g
    · rw [g]; exact hv5.1.1
  have hle : c1 ≤ S := Me_sub_le hc0 hS.1 h2'
  have hm : mxA R o (max (l + 1) k) := mx_br hR (S := o) (v := v) (by
    refine Classical.byContradiction (fun g => ?_)
    have hh : ∃ z : Int, (0 ≤ z ∧ z ≤ 65535) ∧ ∀ i, Me z i ↔ Me S i ∧ Me o i := int_ex hS
    obtain ⟨z, z1, z2⟩ := hh
    have ez : o = z := Me_ext (by omega) z1.1 (fun i => by rw [z2 i]; exact ⟨fun q => ⟨hoS i q, q⟩, fun q => q.2⟩)
    omega) hv ho2 ho hl hk
  have em := mx_uq hm h7
  have el : l + 1 = G - bcI c 16 := by
    rcases Int.le_total (l + 1) k with g | g
    · rw [Int.max_eq_right g] at em; omega
    · rw [Int.max_eq_left g] at em; exact em
  refine ⟨⟨hc0, by omega⟩, h2', fun i j gi gj hne => ?_, fun i g => ?_, fun i => ?_, h6, by rw [show G - bcI c1 16 = l by omega]; exact hl, fun s hs q1 q2 q3 => ?_⟩
  · rcases (hc i).mp gi with gi | gi
    · rcases (hc j).mp gj with gj | gj
      · exact h3 i j gi gj hne
      · subst gj; exact hv5.2 i gi
    · rcases (hc j).mp gj with gj | gj
      · subst gi; exact fun g => hv5.2 j gj (hR _ _ g)
      · exact absurd (gi.trans gj.symm) hne
  · rcases (hc i).mp g with g | g
    · have := h4 i g; omega
    · omega
  · rw [ho2 i, h5 i]
    constructor
    · intro g
      refine ⟨⟨g.1.1.1, ?_⟩, fun j hj hr => ?_⟩
      · have a1 := g.1.1.2
        have a2 : i ≠ v := fun e => g.2 (Or.inr e)
        omega
      · rcases (hc j).mp hj with hj | hj
        · exact g.1.2 j hj hr
        · exact g.2 (Or.inl (hj ▸ hr))
    · intro g
      refine ⟨⟨⟨g.1.1, by have := g.1.2; omega⟩, fun j hj => g.2 j ((hc j).mpr (Or.inl hj))⟩, fun q => ?_⟩
      rcases q with q | q
      · exact g.2 v ((hc v).mpr (Or.inr rfl)) q
      · have := g.1.2; omega
  · rcases h8 s hs q1 q2 q3 with ⟨j, j0, j1, j2, j3⟩ | k8
    · refine Or.inl ⟨j, by omega, j1, fun g => ((hc j).mp g).elim j2 (fun e => by omega), fun i hi => ?_⟩
      rw [hc i, j3 i hi]
      exact ⟨Or.inl, fun g => g.elim id (fun g => absurd g (by omega))⟩
    · by_cases g : Me s v
      · refine Or.inr (fun i hi => ?_)
        by_cases e : i = v
        · subst e; exact ⟨fun _ => (hc i).mpr (Or.inr rfl), fun _ => g⟩
        · rw [hc i]
          exact ⟨fun q => Or.inl ((k8 i (by omega)).mp q), fun q => q.elim (fun q => (k8 i (by omega)).mpr q) (fun q => absurd q e)⟩
      · exfalso
        obtain ⟨z, z1, z2⟩ := int_ex (S := o1) hs
        have a1 := hk.2 z z1 (fun i g => ((z2 i).mp g).2) (ap_sub q2 (fun i g => ((z2 i).mp g).1))
        have a2 := bc_split (s := s) (c := c) (z := z) (fun i gi => by
          by_cases hi : v + 1 ≤ i
          · exact Or.inl ((k8 i hi).mp gi)
          · have hiv : i ≠ v := fun e => g (e ▸ gi)
            refine Or.inr ((z2 i).mpr ⟨gi, (ho i).mpr ⟨(h5 i).mpr ⟨⟨q1 i gi, by omega⟩, fun j hj hr => ?_⟩, hiv⟩⟩)
            have hj1 := h4 j hj
            exact q2 j i ((k8 j hj1).mpr hj) gi (by omega) hr) 16
        omega
theorem clj_end {R : Nat → Nat → Prop} {S G c o : Int} (h : clJ R S G c o 0) : clA R S c := by
  obtain ⟨h1, h2, h3, h4, h5, h6, h7, h8⟩ := h
  have e := mx_uq (mx_0 (fun i g => by have := ((h5 i).mp g).1.2; omega)) h7
  refine ⟨h1.1, h2, h3, fun s hs q1 q2 => ⟨?_, fun q3 => ?_⟩⟩
  · have := h6.2 s hs q1 q2; omega
  · rcases h8 s hs q1 q2 (by omega) with ⟨j, -, j1, j2, j3⟩ | k
    · have hlt : c.toNat < s.toNat := tb_lt (j := j) (by unfold Me at j2; simpa using j2) j1 (fun i hi => by
        have h9 := j3 i hi
        unfold Me at h9
        cases hx : c.toNat.testBit i <;> cases hy : s.toNat.testBit i <;> simp_all)
      omega
    · have := Me_ext h1.1 hs.1 (fun i => (k i (by omega)).symm)
      omega
/-- the relation matters only among the nodes of the set -/
theorem cl_cg {R Q : Nat → Nat → Prop} {S r : Int} (hS : ∀ i j, Me S i → Me S j → i ≠ j → (R i j ↔ Q i j)) (h : clA R S r) : clA Q S r := by
  obtain ⟨h1, h2, h3, h4⟩ := h
  refine ⟨h1, h2, fun i j gi gj hne => fun g => h3 i j gi gj hne ((hS i j (h2 i gi) (h2 j gj) hne).mpr g), fun s hs q1 q2 => h4 s hs q1 (fun i j gi gj hne g => q2 i j gi gj hne ((hS i j (q1 i gi) (q1 j gj) hne).mp g))⟩
/-- set by set, from one on -/
def clI (R : Nat → Nat → Prop) (k r : Int) : Prop := (0 ≤ r ∧ r < k) ∧ apP R r ∧ ∀ s : Int, (0 ≤ s ∧ s < k) → apP R s → bcI s 16 ≤ bcI r 16 ∧ (bcI s 16 = bcI r 16 → r ≤ s)
theorem cli_0 {R : Nat → Nat → Prop} : clI R 1 0 := ⟨by omega, ap_0, fun s hs _ => by rw [show s = 0 by omega]; exact ⟨Int.le_refl _, fun _ => Int.le_refl _⟩⟩
theorem cli_no {R : Nat → Nat → Prop} {k r : Int} (h : clI R k r) (hn : bcI k 16 ≤ bcI r 16 ∨ ¬ apP R k) : clI R (k + 1) r := by
  obtain ⟨h1, h2, h3⟩ := h
  refine ⟨by omega, h2, fun s hs ha => ?_⟩
  by_cases e : s = k
  · subst e
    rcases hn with g | g
    · exact ⟨g, fun _ => by omega⟩
    · exact absurd ha g
  · exact h3 s (by omega) ha
theorem cli_yes {R : Nat → Nat → Prop} {k r : Int} (h : clI R k r) (hb : bcI r 16 < bcI k 16) (ha : apP R k) : clI R (k + 1) k := by
  obtain ⟨h1, h2, h3⟩ := h
  refine ⟨by omega, ha, fun s hs q => ?_⟩
  by_cases e : s = k
  · subst e; exact ⟨Int.le_refl _, fun _ => Int.le_refl _⟩
  · have g := h3 s (by omega) q
    exact ⟨by omega, fun _ => by omega⟩
theorem cli_end {R : Nat → Nat → Prop} {k r : Int} {n : Nat} (hn : n ≤ 16) (h : clI R k r) (hk : k = ((2 ^ n : Nat) : Int)) : clA R (((2 ^ n : Nat) : Int) - 1) r := by
  obtain ⟨h1, h2, h3⟩ := h
  have hp : 1 ≤ 2 ^ n := Nat.one_le_two_pow
  refine ⟨h1.1, fun i g => Me_all i |>.mpr (Me_bd g (by omega)), h2, fun s hs q1 q2 => h3 s ⟨hs.1, ?_⟩ q2⟩
  have := Me_sub_le hs.1 (show (0 : Int) ≤ ((2 ^ n : Nat) : Int) - 1 by omega) q1
  omega
/-- is a set one: node by node -/
def icP (R : Nat → Nat → Prop) (s : Int) (v : Int) (b : Int) : Prop := (b = 1 ∧ ∀ i j : Nat, (i : Int) < v → Me s i → Me s j → i ≠ j → ¬ R i j) ∨ (b = 0 ∧ ¬ apP R s)
theorem ic_0 {R : Nat → Nat → Prop} {s : Int} : icP R s 0 1 := Or.inl ⟨rfl, fun i _ h => by omega⟩
theorem ic_sk {R : Nat → Nat → Prop} {s v b : Int} (h : icP R s v b) (hv : 0 ≤ v) (hn : ¬ Me s (Int.toNat v)) : icP R s (v + 1) b := by
  rcases h with ⟨e, h⟩ | h
  · refine Or.inl ⟨e, fun i j hi mi => ?_⟩
    by_cases g : i = Int.toNat v
    · exact absurd (g ▸ mi) hn
    · exact h i j (by omega) mi
  · exact Or.inr h
theorem ic_up {R : Nat → Nat → Prop} {s v : Int} (h : icP R s v 1) (hv : 0 ≤ v) (hn : ∀ j, Me s j → j ≠ Int.toNat v → ¬ R (Int.toNat v) j) : icP R s (v + 1) 1 := by
  rcases h with ⟨e, h⟩ | h
  · refine Or.inl ⟨rfl, fun i j hi mi mj hne => ?_⟩
    by_cases g : i = Int.toNat v
    · subst g; exact hn j mj (fun e => hne e.symm)
    · exact h i j (by omega) mi mj hne
  · omega
theorem ic_no {R : Nat → Nat → Prop} {s v : Int} {j : Nat} (hm : Me s (Int.toNat v)) (hj : Me s j) (hne : j ≠ Int.toNat v) (hr : R (Int.toNat v) j) : icP R s (v + 1) 0 := Or.inr ⟨rfl, fun h => h _ _ hm hj (fun e => hne e.symm) hr⟩
theorem ic_end {R : Nat → Nat → Prop} {s v b : Int} {n : Nat} (h : icP R s v b) (hs : ∀ i, Me s i → i < n) (hv : (n : Int) ≤ v ∨ b = 0) : (b = 1 ∧ apP R s) ∨ (b = 0 ∧ ¬ apP R s) := by
  rcases h with ⟨e, h⟩ | h
  · refine Or.inl ⟨e, fun i j mi => h i j (by have := hs i mi; omega) mi⟩
  · exact Or.inr h
/-- joined with none, or with all -/
def clR (be : Nat → Int) (q : Int) (i j : Nat) : Prop := (q = 1 ∧ ¬ Me (be i) j) ∨ (q = 0 ∧ Me (be i) j)
theorem clR_1 {be : Nat → Int} {q : Int} {i j : Nat} (hq : q = 1) (h : clR be q i j) : ¬ Me (be i) j := by
  rcases h with h | h
  · exact h.2
  · omega
theorem clR_0 {be : Nat → Int} {q : Int} {i j : Nat} (hq : q = 0) (h : clR be q i j) : Me (be i) j := by
  rcases h with h | h
  · omega
  · exact h.2
set_option maxHeartbeats 4000000 in
set_option maxRecDepth 100000 in
theorem x_X12_isClique {D : va_G} {cI cJ cZ cT : ClassId} {lo b L : Nat} {xs : Nat → Int32} {hp : MH} {n d : Nat} {Γ : TG} {y : Nat} {rf cn nm : Int} {so sz dr mn fr tt wt co : Nat → Int} {nu : Nat → Int64} {sa : Nat → Int} {wo : Nat → Int64} {ln : Nat → Int} {hw : Nat → Int64} {ro qi qc nf nt nw nc : Nat → Int} {cl nx : Nat → Int64} {ie be sd bl : Nat → Int} {bs wy ra rb : Nat → Int64} {lb bg os js ls : Nat → Int} {sp : Nat → Int64} {jw go : Nat → Int} {de : Nat → Int64} {yb ah im : Nat → Int} {x1 x2 x3 : Int} {Po9 : Option Value → MH → Nat → Prop} (hd0 : 0 ≤ d) (hR_beside : Rfx 16 0 65535 be) (ht : Tw (RX Γ cI cJ cZ y rf cn nm so sz dr mn fr tt wt co nu sa wo ln hw ro qi qc nf nt nw nc cl nx ie be sd bl bs wy ra rb lb bg os js ls sp jw go de yb ah im) hp) (hx1 : 0 ≤ x1 ∧ x1 ≤ 65535) (hx2 : 1 ≤ x2 ∧ x2 ≤ 16) (hx3 : 0 ≤ x3 ∧ x3 ≤ 1) (hx9 : x1.toNat < 2 ^ x2.toNat) (hPo : ∀ r hp1 n1, (n1 = n ∧ ∃ (r9 : Int), Tw (RX Γ cI cJ cZ y rf cn nm so sz dr mn fr tt wt co nu sa wo ln hw ro qi qc nf nt nw nc cl nx ie be sd bl bs wy ra rb lb bg os js ls sp jw go de yb ah im) hp1 ∧ r = some (.int (iv r9)) ∧ (0 ≤ r9 ∧ r9 ≤ 1) ∧ ((r9 = 1 ∧ apP (clR be x3) x1) ∨ (r9 = 0 ∧ ¬ apP (clR be x3) x1))) → Po9 r hp1 n1) : Mt (gG D cI cJ cZ cT lo b L xs) mX12_isClique d 0 0 [.ref y, .int (iv x1), .int (iv x2), .int (iv x3)] hp n Po9 := by
  refine Mt.of rfl (Nat.le_of_ble_eq_true rfl) ?_
  refine Rn.pick (lv' := [(0, .ref y), (1, .int (iv x1)), (2, .int (iv x2)), (3, .int (iv x3))]) [0, 1, 2, 3] rfl ?_
  refine r_iconst (pc := 0) (v := iv 1) dX12_isClique_0 (by decide) ?_
  refine r_istore (pc := 1) (lv' := [(4, .int (iv 1)), (0, .ref y), (1, .int (iv x1)), (2, .int (iv x2)), (3, .int (iv x3))]) dX12_isClique_1 (by decide) rfl ?_
  refine r_iconst (pc := 3) (v := iv 0) dX12_isClique_3 (by decide) ?_
  refine r_istore (pc := 4) (lv' := [(5, .int (iv 0)), (4, .int (iv 1)), (0, .ref y), (1, .int (iv x1)), (2, .int (iv x2)), (3, .int (iv x3))]) dX12_isClique_4 (by decide) rfl ?_
  have B6 : ∀ k : Nat, ∀ hp6 : MH, Tw (RX Γ cI cJ cZ y rf cn nm so sz dr mn fr tt wt co nu sa wo ln hw ro qi qc nf nt nw nc cl nx ie be sd bl bs wy ra rb lb bg os js ls sp jw go de yb ah im) hp6 → ∀  (v6_4 : Int) (v6_5 : Int), 0 ≤ v6_4 ∧ v6_4 ≤ 1 ∧ 0 ≤ v6_5 ∧ v6_5 ≤ 16 ∧ (v6_5 ≤ x2) ∧ (icP (clR be x3) x1 v6_5 v6_4) → 16 - v6_5 ≤ (k : Int) → Rn (gG D cI cJ cZ cT lo b L xs) mX12_isClique d 6 [(0, .ref y), (1, .int (iv x1)), (2, .int (iv x2)), (3, .int (iv x3)), (4, .int (iv v6_4)), (5, .int (iv v6_5))] [] hp6 n 0 0 Po9 := by
    refine lpS _ ?_
    intro k6 ih6 hp6 ht6 v6_4 v6_5 hf6 hm6
    obtain ⟨hf6_0, hf6_1, hf6_2, hf6_3, hf6_4, ha6_5⟩ := hf6
    refine r_iload (pc := 6) dX12_isClique_6 rfl ?_
    refine r_iload_n (pc := 8) dX12_isClique_8 (i := 2) rfl rfl ?_
    refine t_icmp_ge (pc := 9) (tgt := 90) dX12_isClique_9 (by decide) (by omega) (by omega) (fun c9 => ?_) (fun c9 => ?_)
    · refine r_iload (pc := 90) dX12_isClique_90 rfl ?_
      exact r_zret (pc := 92) dX12_isClique_92 rfl (iv_nar (by omega)) (hPo _ _ _ ⟨rfl, v6_4, ht6, rfl, (by omega), (by exact ic_end (n := Int.toNat x2) (by assumption : icP (clR be x3) x1 v6_5 v6_4) (fun i g => Me_bd g hx9) (by omega))⟩)
    · refine r_iload (pc := 12) dX12_isClique_12 rfl ?_
      refine t_if_eq (pc := 14) (tgt := 90) dX12_isClique_14 (by decide) (by omega) (fun c14 => ?_) (fun c14 => ?_)
      · refine r_iload (pc := 90) dX12_isClique_90 rfl ?_
        exact r_zret (pc := 92) dX12_isClique_92 rfl (iv_nar (by omega)) (hPo _ _ _ ⟨rfl, v6_4, ht6, rfl, (by omega), (by exact ic_end (n := Int.toNat x2) (by assumption : icP (clR be x3) x1 v6_5 v6_4) (fun i g => Me_bd g hx9) (by omega))⟩)
      · refine r_iload_n (pc := 17) dX12_isClique_17 (i := 1) rfl rfl ?_
        refine r_iload (pc := 18) dX12_isClique_18 rfl ?_
        have hq20_1 := shr_le (Int.toNat x1) (Int.toNat v6_5)
        refine r_ishr (pc := 20) (v := iv ((Int.toNat x1 >>> Int.toNat v6_5 : Nat) : Int)) dX12_isClique_20 (shr_e (by omega) (by omega)) ?_
        refine r_iconst (pc := 21) (v := iv 1) dX12_isClique_21 (by decide) ?_
        refine r_iand (pc := 22) (v := iv (((Int.toNat x1 >>> Int.toNat v6_5 : Nat) : Int) % 2)) dX12_isClique_22 (and1_e _ (by omega)) ?_
        have mb22 := @Me_bit x1 v6_5
        refine r_iconst (pc := 23) (v := iv 1) dX12_isClique_23 (by decide) ?_
        refine t_icmp_ne (pc := 24) (tgt := 84) dX12_isClique_24 (by decide) (by omega) (by omega) (fun c24 => ?_) (fun c24 => ?_)
        · have nm24 : ¬ Me x1 (Int.toNat v6_5) := fun h9 => absurd (Me_bit.mpr h9) (by omega)
          have hic := ic_sk (by assumption : icP (clR be x3) x1 v6_5 v6_4) (by omega) nm24
          refine r_iinc (pc := 84) (v := iv (v6_5 + 1)) (lv' := [(5, .int (iv (v6_5 + 1))), (0, .ref y), (1, .int (iv x1)), (2, .int (iv x2)), (3, .int (iv x3)), (4, .int (iv v6_4))]) dX12_isClique_84 rfl (iv_add _ _) (by decide) rfl ?_
          refine r_goto (pc := 87) (tgt := 6) dX12_isClique_87 (by decide) ?_
          refine Rn.pick (lv' := [(0, .ref y), (1, .int (iv x1)), (2, .int (iv x2)), (3, .int (iv x3)), (4, .int (iv v6_4)), (5, .int (iv (v6_5 + 1)))]) [1, 2, 3, 4, 5, 0] rfl ?_
          exact ih6 (Int.toNat (16 - (v6_5 + 1))) (by omega) _ ht6 v6_4 (v6_5 + 1) ⟨by omega, by omega, by omega, by omega, by omega, by (first | exact hic | exact ic_0)⟩ (by omega)
        · have pm24 : Me x1 (Int.toNat v6_5) := Me_bit.mp (by omega)
          refine r_iload_n (pc := 27) dX12_isClique_27 (i := 1) rfl rfl ?_
          refine r_iconst (pc := 28) (v := iv 1) dX12_isClique_28 (by decide) ?_
          refine r_iload (pc := 29) dX12_isClique_29 rfl ?_
          refine r_ishl (pc := 31) (v := iv ((2 ^ Int.toNat v6_5 : Nat) : Int)) dX12_isClique_31 (shl_e (by omega)) ?_
          have mp31_2 : 1 ≤ 2 ^ Int.toNat v6_5 := Nat.one_le_two_pow
          have mq31_3 : 2 ^ Int.toNat v6_5 ≤ 2 ^ 15 := Nat.pow_le_pow_right (by omega) (by omega)
          have ms31 := Me_shl (Int.toNat v6_5)
          refine r_iconst (pc := 32) (v := iv (-1)) dX12_isClique_32 (by decide) ?_
          refine r_ixor (pc := 33) (v := iv (-((2 ^ Int.toNat v6_5 : Nat) : Int) - 1)) dX12_isClique_33 (iv_not _) ?_
          obtain ⟨z4, hz4, bz4⟩ := and_l x1 (-((2 ^ Int.toNat v6_5 : Nat) : Int) - 1) (by omega) (by omega)
          refine r_iand (pc := 34) (v := iv z4) dX12_isClique_34 hz4 ?_
          have mez4 := Me_not (y := ((2 ^ Int.toNat v6_5 : Nat) : Int)) hz4 (by omega) (by omega) (by omega)
          have hot : ∀ j, Me z4 j ↔ Me x1 j ∧ j ≠ Int.toNat v6_5 := fun j => by rw [mez4 j, ms31 j]
          refine r_istore (pc := 35) (lv' := [(6, .int (iv z4)), (0, .ref y), (1, .int (iv x1)), (2, .int (iv x2)), (3, .int (iv x3)), (4, .int (iv v6_4)), (5, .int (iv v6_5))]) dX12_isClique_35 (by decide) rfl ?_
          refine r_iload_n (pc := 37) dX12_isClique_37 (i := 3) rfl rfl ?_
          refine t_if_eq (pc := 38) (tgt := 64) dX12_isClique_38 (by decide) (by omega) (fun c38 => ?_) (fun c38 => ?_)
          · refine r_iload (pc := 64) dX12_isClique_64 rfl ?_
            refine r_aload_n (pc := 66) dX12_isClique_66 (i := 0) rfl rfl ?_
            refine t_getE (pc := 67) (.ref (y + 24)) ht6 (rd_of RX_y) fX12_81 dX12_isClique_67 rfl ?_
            refine r_iload (pc := 70) dX12_isClique_70 rfl ?_
            refine t_ialdX (pc := 72) (t0 := 0) ht6 (rd_of RX_beside) dX12_isClique_72 rfl (by decide) (by omega) (fun b5 => ?_)
            have rb5 := (show Rfx 16 0 65535 be by assumption) (Int.toNat v6_5) (by omega)
            obtain ⟨z6, hz6, bz6⟩ := and_2 z4 (be (Int.toNat v6_5)) (by omega) (by omega)
            refine r_iand (pc := 73) (v := iv z6) dX12_isClique_73 hz6 ?_
            have mez6 := Me_and hz6 (by omega) (by omega) (by omega)
            refine t_if_ne (pc := 74) (tgt := 81) dX12_isClique_74 (by decide) (by omega) (fun c74 => ?_) (fun c74 => ?_)
            · have hic : icP (clR be x3) x1 (v6_5 + 1) 0 := by
                obtain ⟨j9, hj9⟩ := Me_ex (show 0 < z6 by omega)
                have h8 := (mez6 j9).mp hj9
                have h7 := (hot j9).mp h8.1
                exact ic_no pm24 h7.1 h7.2 (Or.inr ⟨by omega, h8.2⟩)
              refine r_iconst (pc := 81) (v := iv 0) dX12_isClique_81 (by decide) ?_
              refine r_istore (pc := 82) (lv' := [(4, .int (iv 0)), (6, .int (iv z4)), (0, .ref y), (1, .int (iv x1)), (2, .int (iv x2)), (3, .int (iv x3)), (5, .int (iv v6_5))]) dX12_isClique_82 (by decide) rfl ?_
              refine r_iinc (pc := 84) (v := iv (v6_5 + 1)) (lv' := [(5, .int (iv (v6_5 + 1))), (4, .int (iv 0)), (6, .int (iv z4)), (0, .ref y), (1, .int (iv x1)), (2, .int (iv x2)), (3, .int (iv x3))]) dX12_isClique_84 rfl (iv_add _ _) (by decide) rfl ?_
              refine r_goto (pc := 87) (tgt := 6) dX12_isClique_87 (by decide) ?_
              refine Rn.pick (lv' := [(0, .ref y), (1, .int (iv x1)), (2, .int (iv x2)), (3, .int (iv x3)), (4, .int (iv 0)), (5, .int (iv (v6_5 + 1)))]) [3, 4, 5, 6, 1, 0] rfl ?_
              exact ih6 (Int.toNat (16 - (v6_5 + 1))) (by omega) _ ht6 0 (v6_5 + 1) ⟨by omega, by omega, by omega, by omega, by omega, by (first | exact hic | exact ic_0)⟩ (by omega)
            · have hic : icP (clR be x3) x1 (v6_5 + 1) 1 := by
                have h6 := (by assumption : icP (clR be x3) x1 v6_5 v6_4)
                rw [show v6_4 = 1 by omega] at h6
                refine ic_up h6 (by omega) (fun j hj hne hr => ?_)
                have h8 := (mez6 j).mpr ⟨(hot j).mpr ⟨hj, hne⟩, clR_0 (by omega) hr⟩
                rw [show z6 = 0 by omega] at h8
                exact Me_0 j h8
              refine r_iconst (pc := 77) (v := iv 1) dX12_isClique_77 (by decide) ?_
              refine r_goto (pc := 78) (tgt := 82) dX12_isClique_78 (by decide) ?_
              refine r_istore (pc := 82) (lv' := [(4, .int (iv 1)), (6, .int (iv z4)), (0, .ref y), (1, .int (iv x1)), (2, .int (iv x2)), (3, .int (iv x3)), (5, .int (iv v6_5))]) dX12_isClique_82 (by decide) rfl ?_
              refine r_iinc (pc := 84) (v := iv (v6_5 + 1)) (lv' := [(5, .int (iv (v6_5 + 1))), (4, .int (iv 1)), (6, .int (iv z4)), (0, .ref y), (1, .int (iv x1)), (2, .int (iv x2)), (3, .int (iv x3))]) dX12_isClique_84 rfl (iv_add _ _) (by decide) rfl ?_
              refine r_goto (pc := 87) (tgt := 6) dX12_isClique_87 (by decide) ?_
              refine Rn.pick (lv' := [(0, .ref y), (1, .int (iv x1)), (2, .int (iv x2)), (3, .int (iv x3)), (4, .int (iv 1)), (5, .int (iv (v6_5 + 1)))]) [3, 4, 5, 6, 1, 0] rfl ?_
              exact ih6 (Int.toNat (16 - (v6_5 + 1))) (by omega) _ ht6 1 (v6_5 + 1) ⟨by omega, by omega, by omega, by omega, by omega, by (first | exact hic | exact ic_0)⟩ (by omega)
          · refine r_iload (pc := 41) dX12_isClique_41 rfl ?_
            refine r_aload_n (pc := 43) dX12_isClique_43 (i := 0) rfl rfl ?_
            refine t_getE (pc := 44) (.ref (y + 24)) ht6 (rd_of RX_y) fX12_81 dX12_isClique_44 rfl ?_
            refine r_iload (pc := 47) dX12_isClique_47 rfl ?_
            refine t_ialdX (pc := 49) (t0 := 0) ht6 (rd_of RX_beside) dX12_isClique_49 rfl (by decide) (by omega) (fun b7 => ?_)
            have rb7 := (show Rfx 16 0 65535 be by assumption) (Int.toNat v6_5) (by omega)
            refine r_iconst (pc := 50) (v := iv (-1)) dX12_isClique_50 (by decide) ?_
            refine r_ixor (pc := 51) (v := iv (-(be (Int.toNat v6_5)) - 1)) dX12_isClique_51 (iv_not _) ?_
            obtain ⟨z8, hz8, bz8⟩ := and_l z4 (-(be (Int.toNat v6_5)) - 1) (by omega) (by omega)
            refine r_iand (pc := 52) (v := iv z8) dX12_isClique_52 hz8 ?_
            have mez8 := Me_not (y := (be (Int.toNat v6_5))) hz8 (by omega) (by omega) (by omega)
            refine t_if_ne (pc := 53) (tgt := 60) dX12_isClique_53 (by decide) (by omega) (fun c53 => ?_) (fun c53 => ?_)
            · have hic : icP (clR be x3) x1 (v6_5 + 1) 0 := by
                obtain ⟨j9, hj9⟩ := Me_ex (show 0 < z8 by omega)
                have h8 := (mez8 j9).mp hj9
                have h7 := (hot j9).mp h8.1
                exact ic_no pm24 h7.1 h7.2 (Or.inl ⟨by omega, h8.2⟩)
              refine r_iconst (pc := 60) (v := iv 0) dX12_isClique_60 (by decide) ?_
              refine r_goto (pc := 61) (tgt := 82) dX12_isClique_61 (by decide) ?_
              refine r_istore (pc := 82) (lv' := [(4, .int (iv 0)), (6, .int (iv z4)), (0, .ref y), (1, .int (iv x1)), (2, .int (iv x2)), (3, .int (iv x3)), (5, .int (iv v6_5))]) dX12_isClique_82 (by decide) rfl ?_
              refine r_iinc (pc := 84) (v := iv (v6_5 + 1)) (lv' := [(5, .int (iv (v6_5 + 1))), (4, .int (iv 0)), (6, .int (iv z4)), (0, .ref y), (1, .int (iv x1)), (2, .int (iv x2)), (3, .int (iv x3))]) dX12_isClique_84 rfl (iv_add _ _) (by decide) rfl ?_
              refine r_goto (pc := 87) (tgt := 6) dX12_isClique_87 (by decide) ?_
              refine Rn.pick (lv' := [(0, .ref y), (1, .int (iv x1)), (2, .int (iv x2)), (3, .int (iv x3)), (4, .int (iv 0)), (5, .int (iv (v6_5 + 1)))]) [3, 4, 5, 6, 1, 0] rfl ?_
              exact ih6 (Int.toNat (16 - (v6_5 + 1))) (by omega) _ ht6 0 (v6_5 + 1) ⟨by omega, by omega, by omega, by omega, by omega, by (first | exact hic | exact ic_0)⟩ (by omega)
            · have hic : icP (clR be x3) x1 (v6_5 + 1) 1 := by
                have h6 := (by assumption : icP (clR be x3) x1 v6_5 v6_4)
                rw [show v6_4 = 1 by omega] at h6
                refine ic_up h6 (by omega) (fun j hj hne hr => ?_)
                have h8 := (mez8 j).mpr ⟨(hot j).mpr ⟨hj, hne⟩, clR_1 (by omega) hr⟩
                rw [show z8 = 0 by omega] at h8
                exact Me_0 j h8
              refine r_iconst (pc := 56) (v := iv 1) dX12_isClique_56 (by decide) ?_
              refine r_goto (pc := 57) (tgt := 82) dX12_isClique_57 (by decide) ?_
              refine r_istore (pc := 82) (lv' := [(4, .int (iv 1)), (6, .int (iv z4)), (0, .ref y), (1, .int (iv x1)), (2, .int (iv x2)), (3, .int (iv x3)), (5, .int (iv v6_5))]) dX12_isClique_82 (by decide) rfl ?_
              refine r_iinc (pc := 84) (v := iv (v6_5 + 1)) (lv' := [(5, .int (iv (v6_5 + 1))), (4, .int (iv 1)), (6, .int (iv z4)), (0, .ref y), (1, .int (iv x1)), (2, .int (iv x2)), (3, .int (iv x3))]) dX12_isClique_84 rfl (iv_add _ _) (by decide) rfl ?_
              refine r_goto (pc := 87) (tgt := 6) dX12_isClique_87 (by decide) ?_
              refine Rn.pick (lv' := [(0, .ref y), (1, .int (iv x1)), (2, .int (iv x2)), (3, .int (iv x3)), (4, .int (iv 1)), (5, .int (iv (v6_5 + 1)))]) [3, 4, 5, 6, 1, 0] rfl ?_
              exact ih6 (Int.toNat (16 - (v6_5 + 1))) (by omega) _ ht6 1 (v6_5 + 1) ⟨by omega, by omega, by omega, by omega, by omega, by (first | exact hic | exact ic_0)⟩ (by omega)
  refine Rn.pick (lv' := [(0, .ref y), (1, .int (iv x1)), (2, .int (iv x2)), (3, .int (iv x3)), (4, .int (iv 1)), (5, .int (iv 0))]) [2, 3, 4, 5, 1, 0] rfl ?_
  exact B6 (Int.toNat (16 - 0)) _ ht 1 0 ⟨by omega, by omega, by omega, by omega, by omega, by (first | exact hic | exact ic_0)⟩ (by omega)
set_option maxHeartbeats 4000000 in
set_option maxRecDepth 100000 in
theorem x_X12_clique {D : va_G} {cI cJ cZ cT : ClassId} {lo b L : Nat} {xs : Nat → Int32} {hp : MH} {n d : Nat} {Γ : TG} {y : Nat} {rf cn nm : Int} {so sz dr mn fr tt wt co : Nat → Int} {nu : Nat → Int64} {sa : Nat → Int} {wo : Nat → Int64} {ln : Nat → Int} {hw : Nat → Int64} {ro qi qc nf nt nw nc : Nat → Int} {cl nx : Nat → Int64} {ie be sd bl : Nat → Int} {bs wy ra rb : Nat → Int64} {lb bg os js ls : Nat → Int} {sp : Nat → Int64} {jw go : Nat → Int} {de : Nat → Int64} {yb ah im : Nat → Int} {x1 x2 : Int} {Po9 : Option Value → MH → Nat → Prop} (hd0 : 1 ≤ d) (hR_beside : Rfx 16 0 65535 be) (ht : Tw (RX Γ cI cJ cZ y rf cn nm so sz dr mn fr tt wt co nu sa wo ln hw ro qi qc nf nt nw nc cl nx ie be sd bl bs wy ra rb lb bg os js ls sp jw go de yb ah im) hp) (hx1 : 1 ≤ x1 ∧ x1 ≤ 16) (hx2 : 0 ≤ x2 ∧ x2 ≤ 1) (hPo : ∀ r hp1 n1, (n1 = n ∧ ∃ (q9 : Int64), Tw (RX Γ cI cJ cZ y rf cn nm so sz dr mn fr tt wt co nu sa wo ln hw ro qi qc nf nt nw nc cl nx ie be sd bl bs wy ra rb lb bg os js ls sp jw go de yb ah im) hp1 ∧ r = some (.long q9) ∧ (clA (clR be x2) (((2 ^ x1.toNat : Nat) : Int) - 1) q9.toInt)) → Po9 r hp1 n1) : Mt (gG D cI cJ cZ cT lo b L xs) mX12_clique d 0 0 [.ref y, .int (iv x1), .int (iv x2)] hp n Po9 := by
  refine Mt.of rfl (Nat.le_of_ble_eq_true rfl) ?_
  refine Rn.pick (lv' := [(0, .ref y), (1, .int (iv x1)), (2, .int (iv x2))]) [0, 1, 2] rfl ?_
  have mp5 : 1 ≤ 2 ^ x1.toNat := Nat.one_le_two_pow
  have mq5 : 2 ^ x1.toNat ≤ 2 ^ 16 := Nat.pow_le_pow_right (by omega) (by omega)
  refine r_iconst (pc := 0) (v := iv 0) dX12_clique_0 (by decide) ?_
  refine r_istore_n (pc := 1) (lv' := [(3, .int (iv 0)), (0, .ref y), (1, .int (iv x1)), (2, .int (iv x2))]) dX12_clique_1 (i := 3) rfl (by decide) rfl ?_
  refine r_iconst (pc := 2) (v := iv 1) dX12_clique_2 (by decide) ?_
  refine r_istore (pc := 3) (lv' := [(4, .int (iv 1)), (3, .int (iv 0)), (0, .ref y), (1, .int (iv x1)), (2, .int (iv x2))]) dX12_clique_3 (by decide) rfl ?_
  have B5 : ∀ k : Nat, ∀ hp5 : MH, Tw (RX Γ cI cJ cZ y rf cn nm so sz dr mn fr tt wt co nu sa wo ln hw ro qi qc nf nt nw nc cl nx ie be sd bl bs wy ra rb lb bg os js ls sp jw go de yb ah im) hp5 → ∀  (v5_3 : Int) (v5_4 : Int), 0 ≤ v5_3 ∧ v5_3 ≤ 65535 ∧ 1 ≤ v5_4 ∧ v5_4 ≤ 65536 ∧ (v5_4 ≤ ((2 ^ x1.toNat : Nat) : Int)) ∧ (v5_3 < v5_4) ∧ (clI (clR be x2) v5_4 v5_3) → 65536 - v5_4 ≤ (k : Int) → Rn (gG D cI cJ cZ cT lo b L xs) mX12_clique d 5 [(0, .ref y), (1, .int (iv x1)), (2, .int (iv x2)), (3, .int (iv v5_3)), (4, .int (iv v5_4))] [] hp5 n 0 0 Po9 := by
    refine lpS _ ?_
    intro k5 ih5 hp5 ht5 v5_3 v5_4 hf5 hm5
    obtain ⟨hf5_0, hf5_1, hf5_2, hf5_3, hf5_4, hf5_5, ha5_6⟩ := hf5
    refine r_iload (pc := 5) dX12_clique_5 rfl ?_
    refine r_iconst (pc := 7) (v := iv 1) dX12_clique_7 (by decide) ?_
    refine r_iload_n (pc := 8) dX12_clique_8 (i := 1) rfl rfl ?_
    refine r_ishl (pc := 9) (v := iv ((2 ^ Int.toNat x1 : Nat) : Int)) dX12_clique_9 (shl_e (by omega)) ?_
    have mp9_1 : 1 ≤ 2 ^ Int.toNat x1 := Nat.one_le_two_pow
    have mq9_2 : 2 ^ Int.toNat x1 ≤ 2 ^ 16 := Nat.pow_le_pow_right (by omega) (by omega)
    have ms9 := Me_shl (Int.toNat x1)
    refine t_icmp_ge (pc := 10) (tgt := 45) dX12_clique_10 (by decide) (by omega) (by omega) (fun c10 => ?_) (fun c10 => ?_)
    · refine r_iload_n (pc := 45) dX12_clique_45 (i := 3) rfl rfl ?_
      refine r_i2l (pc := 46) (v := (iv v5_3).toInt64) dX12_clique_46 rfl ?_
      exact r_lret (pc := 47) dX12_clique_47 rfl (hPo _ _ _ ⟨rfl, ((iv v5_3).toInt64), ht5, rfl, (by (rw [iv_long (x := v5_3) (by omega)]; exact cli_end (by omega) (by assumption : clI (clR be x2) v5_4 v5_3) (by omega)))⟩)
    · refine r_iload (pc := 13) dX12_clique_13 rfl ?_
      refine t_callSI (pc := 15) (as := [.int (iv v5_4)]) (st := []) kX12_201 dX12_clique_15 (t_X12_bitsx (d := d - 1) (x1 := v5_4) (by omega)  ht5 (by omega)) rfl (by omega) (Nat.le_of_ble_eq_true rfl) rfl (fun hp3 y5 ht4 by5 => ?_)
      have ey5 : y5 = bcI v5_4 16 := by5
      subst ey5
      have ry5 := bc_le v5_4 16
      refine r_iload_n (pc := 18) dX12_clique_18 (i := 3) rfl rfl ?_
      refine t_callSI (pc := 19) (as := [.int (iv v5_3)]) (st := [.int (iv (bcI v5_4 16))]) kX12_201 dX12_clique_19 (t_X12_bitsx (d := d - 1) (x1 := v5_3) (by omega)  ht4 (by omega)) rfl (by omega) (Nat.le_of_ble_eq_true rfl) rfl (fun hp6 y8 ht7 by8 => ?_)
      have ey8 : y8 = bcI v5_3 16 := by8
      subst ey8
      have ry8 := bc_le v5_3 16
      refine t_icmp_le (pc := 22) (tgt := 39) dX12_clique_22 (by decide) (by omega) (by omega) (fun c22 => ?_) (fun c22 => ?_)
      · have hcl := cli_no (by assumption : clI (clR be x2) v5_4 v5_3) (Or.inl (by omega))
        refine r_iinc (pc := 39) (v := iv (v5_4 + 1)) (lv' := [(4, .int (iv (v5_4 + 1))), (0, .ref y), (1, .int (iv x1)), (2, .int (iv x2)), (3, .int (iv v5_3))]) dX12_clique_39 rfl (iv_add _ _) (by decide) rfl ?_
        refine r_goto (pc := 42) (tgt := 5) dX12_clique_42 (by decide) ?_
        refine Rn.pick (lv' := [(0, .ref y), (1, .int (iv x1)), (2, .int (iv x2)), (3, .int (iv v5_3)), (4, .int (iv (v5_4 + 1)))]) [1, 2, 3, 4, 0] rfl ?_
        exact ih5 (Int.toNat (65536 - (v5_4 + 1))) (by omega) _ ht7 v5_3 (v5_4 + 1) ⟨by omega, by omega, by omega, by omega, by omega, by omega, by (first | exact hcl | exact cli_0)⟩ (by omega)
      · refine r_aload_n (pc := 25) dX12_clique_25 (i := 0) rfl rfl ?_
        refine r_iload (pc := 26) dX12_clique_26 rfl ?_
        refine r_iload_n (pc := 28) dX12_clique_28 (i := 1) rfl rfl ?_
        refine r_iload_n (pc := 29) dX12_clique_29 (i := 2) rfl rfl ?_
        obtain ⟨fs13, hfs13⟩ := t_obj ht7 (rd_of RX_y)
        refine r_callV (pc := 30) (as := [.int (iv v5_4), .int (iv x1), .int (iv x2)]) (st := []) kX12_362 rfl dX12_clique_30 hfs13 (x_X12_isClique (d := d - 1) (x1 := v5_4) (x2 := x1) (x3 := x2) (by omega) (by assumption) ht7 (by omega) (by omega) (by omega) (by omega) (fun _ _ _ h => h)) rfl (by omega) (Nat.le_of_ble_eq_true rfl) (Nat.zero_le _) (Nat.zero_le _) rfl (fun r10 hp9 n11 hq12 => ?_)
        obtain ⟨hnn11, r9_15, ht14, hrr10, hhq120, hhq121⟩ := hq12
        subst n11 r10
        have hhq120 : 0 ≤ r9_15 ∧ r9_15 ≤ 1 := hhq120
        have hhq121 : (r9_15 = 1 ∧ apP (clR be x2) v5_4) ∨ (r9_15 = 0 ∧ ¬ apP (clR be x2) v5_4) := hhq121
        change Rn _ _ _ 33 _ [.int (iv r9_15)] _ _ _ _ _
        refine t_if_eq (pc := 33) (tgt := 39) dX12_clique_33 (by decide) (by omega) (fun c33 => ?_) (fun c33 => ?_)
        · have hcl := cli_no (by assumption : clI (clR be x2) v5_4 v5_3) (Or.inr (Or.resolve_left hhq121 (by omega)).2)
          clear hhq121
          refine r_iinc (pc := 39) (v := iv (v5_4 + 1)) (lv' := [(4, .int (iv (v5_4 + 1))), (0, .ref y), (1, .int (iv x1)), (2, .int (iv x2)), (3, .int (iv v5_3))]) dX12_clique_39 rfl (iv_add _ _) (by decide) rfl ?_
          refine r_goto (pc := 42) (tgt := 5) dX12_clique_42 (by decide) ?_
          refine Rn.pick (lv' := [(0, .ref y), (1, .int (iv x1)), (2, .int (iv x2)), (3, .int (iv v5_3)), (4, .int (iv (v5_4 + 1)))]) [1, 2, 3, 4, 0] rfl ?_
          exact ih5 (Int.toNat (65536 - (v5_4 + 1))) (by omega) _ ht14 v5_3 (v5_4 + 1) ⟨by omega, by omega, by omega, by omega, by omega, by omega, by (first | exact hcl | exact cli_0)⟩ (by omega)
        · have hcl := cli_yes (by assumption : clI (clR be x2) v5_4 v5_3) (by omega) (Or.resolve_right hhq121 (by omega)).2
          clear hhq121
          refine r_iload (pc := 36) dX12_clique_36 rfl ?_
          refine r_istore_n (pc := 38) (lv' := [(3, .int (iv v5_4)), (0, .ref y), (1, .int (iv x1)), (2, .int (iv x2)), (4, .int (iv v5_4))]) dX12_clique_38 (i := 3) rfl (by decide) rfl ?_
          refine r_iinc (pc := 39) (v := iv (v5_4 + 1)) (lv' := [(4, .int (iv (v5_4 + 1))), (3, .int (iv v5_4)), (0, .ref y), (1, .int (iv x1)), (2, .int (iv x2))]) dX12_clique_39 rfl (iv_add _ _) (by decide) rfl ?_
          refine r_goto (pc := 42) (tgt := 5) dX12_clique_42 (by decide) ?_
          refine Rn.pick (lv' := [(0, .ref y), (1, .int (iv x1)), (2, .int (iv x2)), (3, .int (iv v5_4)), (4, .int (iv (v5_4 + 1)))]) [2, 3, 4, 1, 0] rfl ?_
          exact ih5 (Int.toNat (65536 - (v5_4 + 1))) (by omega) _ ht14 v5_4 (v5_4 + 1) ⟨by omega, by omega, by omega, by omega, by omega, by omega, by (first | exact hcl | exact cli_0)⟩ (by omega)
  refine Rn.pick (lv' := [(0, .ref y), (1, .int (iv x1)), (2, .int (iv x2)), (3, .int (iv 0)), (4, .int (iv 1))]) [2, 3, 4, 1, 0] rfl ?_
  exact B5 (Int.toNat (65536 - 1)) _ ht 0 1 ⟨by omega, by omega, by omega, by omega, by omega, by omega, by (first | exact hcl | exact cli_0)⟩ (by omega)
