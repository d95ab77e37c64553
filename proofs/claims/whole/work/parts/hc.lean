/-- k pairs of related nodes, all different, can be taken out of a set -/
def mtkP (R : Nat → Nat → Prop) : Nat → (Nat → Prop) → Prop
  | 0, _ => True
  | k + 1, S => ∃ a b, a ≠ b ∧ S a ∧ S b ∧ R a b ∧ mtkP R k (fun i => S i ∧ i ≠ a ∧ i ≠ b)
theorem mt_mo {R : Nat → Nat → Prop} : ∀ {k : Nat} {S S1 : Nat → Prop}, (∀ i, S i → S1 i) → mtkP R k S → mtkP R k S1
  | 0, _, _, _, _ => trivial
  | k + 1, _, _, h, ⟨a, b, h1, h2, h3, h4, h5⟩ => ⟨a, b, h1, h a h2, h b h3, h4, mt_mo (k := k) (fun i g => ⟨h i g.1, g.2⟩) h5⟩
theorem mt_dn {R : Nat → Nat → Prop} : ∀ {k : Nat} {S : Nat → Prop}, mtkP R (k + 1) S → mtkP R k S
  | 0, _, _ => trivial
  | k + 1, _, ⟨a, b, h1, h2, h3, h4, h5⟩ => ⟨a, b, h1, h2, h3, h4, mt_dn (k := k) h5⟩
theorem mt_le {R : Nat → Nat → Prop} {S : Nat → Prop} {k : Nat} : ∀ {j : Nat}, mtkP R (k + j) S → mtkP R k S
  | 0, h => h
  | j + 1, h => mt_le (j := j) (mt_dn h)
theorem mt_sp {R : Nat → Nat → Prop} {l : Nat} : ∀ {k : Nat} {S : Nat → Prop}, (∀ i j, S i → S j → R i j → R j i) → S l → mtkP R k S → mtkP R k (fun i => S i ∧ i ≠ l) ∨ ∃ u, S u ∧ u ≠ l ∧ R l u ∧ ∃ j, k = j + 1 ∧ mtkP R j (fun i => S i ∧ i ≠ l ∧ i ≠ u)
  | 0, _, _, _, _ => Or.inl trivial
  | k + 1, S, hsy, hl, ⟨a, b, h1, h2, h3, h4, h5⟩ => by
    by_cases ea : a = l
    · subst ea
      exact Or.inr ⟨b, h3, fun e => h1 e.symm, h4, k, rfl, h5⟩
    · by_cases eb : b = l
      · subst eb
        exact Or.inr ⟨a, h2, h1, hsy a b h2 h3 h4, k, rfl, mt_mo (fun i g => ⟨g.1, g.2.2, g.2.1⟩) h5⟩
      · rcases mt_sp (k := k) (S := fun i => S i ∧ i ≠ a ∧ i ≠ b) (fun i j gi gj => hsy i j gi.1 gj.1) ⟨hl, fun e => ea e.symm, fun e => eb e.symm⟩ h5 with g | ⟨u, u1, u2, u3, j, u4, u5⟩
        · exact Or.inl ⟨a, b, h1, ⟨h2, ea⟩, ⟨h3, eb⟩, h4, mt_mo (fun i q => ⟨⟨q.1.1, q.2⟩, q.1.2.1, q.1.2.2⟩) g⟩
        · refine Or.inr ⟨u, u1.1, u2, u3, k, rfl, ?_⟩
          rw [u4]
          exact ⟨a, b, h1, ⟨h2, ea, fun e => u1.2.1 e.symm⟩, ⟨h3, eb, fun e => u1.2.2 e.symm⟩, h4, mt_mo (fun i q => ⟨⟨q.1.1, q.2.1, q.2.2⟩, q.1.2.1, q.1.2.2⟩) u5⟩
theorem mt_b {R : Nat → Nat → Prop} : ∀ {k : Nat} {z : Int}, (0 ≤ z ∧ z ≤ 65535) → mtkP R k (Me z) → 2 * (k : Int) ≤ bcI z 16
  | 0, z, _, _ => by have := bc_le z 16; omega
  | k + 1, z, hz, ⟨a, b, h1, h2, h3, h4, h5⟩ => by
    obtain ⟨y, y1, y2⟩ := mk_ex (fun i => Me z i ∧ i ≠ a) 16 (by omega)
    obtain ⟨x, x1, x2⟩ := mk_ex (fun i => Me y i ∧ i ≠ b) 16 (by omega)
    have g1 := bc_less hz.2 y1 (fun i g => ((y2 i).mp g).2.1) h2 (fun g => ((y2 a).mp g).2.2 rfl)
    have g2 := bc_less y1.2 x1 (fun i g => ((x2 i).mp g).2.1) ((y2 b).mpr ⟨Me_lt h3 hz.2, h3, fun e => h1 e.symm⟩) (fun g => ((x2 b).mp g).2.2 rfl)
    have g3 := mt_b (k := k) x1 (mt_mo (fun i g => (x2 i).mpr ⟨Me_lt g.1 hz.2, (y2 i).mpr ⟨Me_lt g.1 hz.2, g.1, g.2.1⟩, g.2.2⟩) h5)
    omega
/-- the most pairs of a set -/
def maA (R : Nat → Nat → Prop) (S : Nat → Prop) (r : Int) : Prop := 0 ≤ r ∧ mtkP R r.toNat S ∧ ¬ mtkP R (r.toNat + 1) S
theorem ma_le {R : Nat → Nat → Prop} {S : Nat → Prop} {r : Int} (h : maA R S r) {k : Nat} (hk : mtkP R k S) : (k : Int) ≤ r := Classical.byContradiction (fun g => h.2.2 (mt_le (j := k - (r.toNat + 1)) (by rw [show r.toNat + 1 + (k - (r.toNat + 1)) = k by have := h.1; omega]; exact hk)))
theorem ma_uq {R : Nat → Nat → Prop} {S : Nat → Prop} {r q : Int} (h : maA R S r) (h' : maA R S q) : r = q := by
  have h1 := ma_le h h'.2.1
  have h2 := ma_le h' h.2.1
  have := h.1
  have := h'.1
  omega
theorem ma_b {R : Nat → Nat → Prop} {z r : Int} (hz : 0 ≤ z ∧ z ≤ 65535) (h : maA R (Me z) r) : 0 ≤ r ∧ r ≤ 8 := by
  have h1 := mt_b hz h.2.1
  have h2 := bc_le z 16
  have := h.1
  omega
theorem ma_cg {R R1 : Nat → Nat → Prop} {S S1 : Nat → Prop} {r : Int} (hS : ∀ i, S1 i ↔ S i) (hR : ∀ i j, S i → S j → (R1 i j ↔ R i j)) (h : maA R S r) : maA R1 S1 r := by
  have key : ∀ {R R1 : Nat → Nat → Prop} {k : Nat} {S S1 : Nat → Prop}, (∀ i, S1 i ↔ S i) → (∀ i j, S i → S j → R i j → R1 i j) → mtkP R k S → mtkP R1 k S1 := by
    intro R R1 k
    induction k with
    | zero => intros; trivial
    | succ k ih =>
      intro S S1 h1 h2 h3
      obtain ⟨a, b, g1, g2, g3, g4, g5⟩ := h3
      exact ⟨a, b, g1, (h1 a).mpr g2, (h1 b).mpr g3, h2 a b g2 g3 g4, ih (fun i => ⟨fun q => ⟨(h1 i).mp q.1, q.2⟩, fun q => ⟨(h1 i).mpr q.1, q.2⟩⟩) (fun i j gi gj => h2 i j gi.1 gj.1) g5⟩
  exact ⟨h.1, key hS (fun i j gi gj g => (hR i j gi gj).mpr g) h.2.1, fun g => h.2.2 (key (fun i => (hS i).symm) (fun i j gi gj q => (hR i j ((hS i).mp gi) ((hS j).mp gj)).mp q) g)⟩
/-- the table, below X -/
def lsM (R : Nat → Nat → Prop) (ls : Nat → Int) (X : Int) : Prop := ∀ t : Nat, (t : Int) < X → maA R (Me (t : Int)) (ls t)
theorem lsm_0 {R : Nat → Nat → Prop} {ls : Nat → Int} : lsM R ls 0 := fun t h => by omega
theorem lsm_up {R : Nat → Nat → Prop} {ls : Nat → Int} {X x : Int} (h : lsM R ls X) (h0 : 0 ≤ X) : lsM R (fup ls (Int.toNat X) x) X := fun t ht => by
  rw [show fup ls (Int.toNat X) x t = ls t from if_neg (by omega)]
  exact h t ht
theorem lsm_st {R : Nat → Nat → Prop} {ls : Nat → Int} {X : Int} (h : lsM R ls X) (h0 : 0 ≤ X) (hS : maA R (Me X) (ls (Int.toNat X))) : lsM R ls (X + 1) := fun t ht => by
  by_cases e : (t : Int) < X
  · exact h t e
  · have e1 : t = Int.toNat X := by omega
    subst e1
    rw [show ((Int.toNat X : Nat) : Int) = X by omega]
    exact hS
theorem lsm_at {R : Nat → Nat → Prop} {ls : Nat → Int} {X s : Int} (h : lsM R ls X) (h0 : 0 ≤ s) (hs : s < X) : maA R (Me s) (ls (Int.toNat s)) := by
  have := h (Int.toNat s) (by omega)
  rw [show ((Int.toNat s : Nat) : Int) = s by omega] at this
  exact this
theorem su_lt {s S : Int} {i : Nat} (h0 : 0 ≤ s) (hS : 0 ≤ S) (h : suP s S) (hi : Me S i) (hn : ¬ Me s i) : s < S := by
  have h1 := Me_sub_le h0 hS h
  have h2 : s ≠ S := fun e => hn (by rw [e]; exact hi)
  omega
/-- the lowest node, or none below n -/
def lwtP (S v n : Int) : Prop := (v < n ∧ Me S (Int.toNat v) ∧ ∀ j : Nat, (j : Int) < v → ¬ Me S j) ∨ (n ≤ v ∧ ∀ j : Nat, (j : Int) < v → ¬ Me S j)
theorem lw_up {S v : Int} (h : ∀ j : Nat, (j : Int) < v → ¬ Me S j) (hv : 0 ≤ v) (hn : ¬ Me S (Int.toNat v)) : ∀ j : Nat, (j : Int) < v + 1 → ¬ Me S j := fun j hj => by
  by_cases e : (j : Int) < v
  · exact h j e
  · rw [show j = Int.toNat v by omega]; exact hn
/-- the partners of l below v have been tried -/
def mpI (R : Nat → Nat → Prop) (S : Int) (l : Nat) (v b : Int) : Prop := 0 ≤ b ∧ mtkP R b.toNat (Me S) ∧ (∀ k, mtkP R k (fun i => Me S i ∧ i ≠ l) → (k : Int) ≤ b) ∧ ∀ w : Nat, (w : Int) < v → Me S w → w ≠ l → R l w → ∀ k, mtkP R k (fun i => Me S i ∧ i ≠ l ∧ i ≠ w) → (k : Int) + 1 ≤ b
theorem mpi_0 {R : Nat → Nat → Prop} {S z r v : Int} {l : Nat} (hz : ∀ i, Me z i ↔ Me S i ∧ i ≠ l) (h : maA R (Me z) r) (hl : ∀ j : Nat, (j : Int) < v → ¬ (Me S j ∧ j ≠ l)) : mpI R S l v r :=
  ⟨h.1, mt_mo (fun i g => ((hz i).mp g).1) h.2.1, fun k hk => ma_le h (mt_mo (fun i g => (hz i).mpr g) hk), fun w hw h1 h2 => absurd ⟨h1, h2⟩ (hl w hw)⟩
theorem mpi_sk {R : Nat → Nat → Prop} {S v b : Int} {l : Nat} (h : mpI R S l v b) (hv : 0 ≤ v) (hn : Me S (Int.toNat v) → Int.toNat v ≠ l → R l (Int.toNat v) → ∀ k, mtkP R k (fun i => Me S i ∧ i ≠ l ∧ i ≠ Int.toNat v) → (k : Int) + 1 ≤ b) : mpI R S l (v + 1) b :=
  ⟨h.1, h.2.1, h.2.2.1, fun w hw h1 h2 h3 k hk => by
    by_cases e : (w : Int) < v
    · exact h.2.2.2 w e h1 h2 h3 k hk
    · have e1 : w = Int.toNat v := by omega
      subst e1; exact hn h1 h2 h3 k hk⟩
theorem mpi_tk {R : Nat → Nat → Prop} {S v b y r : Int} {l : Nat} (h : mpI R S l v b) (hv : 0 ≤ v) (hl : Me S l) (hu : Me S (Int.toNat v)) (hne : Int.toNat v ≠ l) (hr : R l (Int.toNat v)) (hy : ∀ i, Me y i ↔ (Me S i ∧ i ≠ l) ∧ i ≠ Int.toNat v) (hm : maA R (Me y) r) (hb : b < r + 1) : mpI R S l (v + 1) (r + 1) := by
  have h0 := hm.1
  refine mpi_sk (b := r + 1) ⟨by omega, ?_, fun k hk => by have := h.2.2.1 k hk; omega, fun w hw h1 h2 h3 k hk => by have := h.2.2.2 w hw h1 h2 h3 k hk; omega⟩ hv (fun _ _ _ k hk => by
    have := ma_le hm (mt_mo (fun i g => (hy i).mpr ⟨⟨g.1, g.2.1⟩, g.2.2⟩) hk)
    omega)
  rw [show (r + 1).toNat = r.toNat + 1 by omega]
  exact ⟨l, Int.toNat v, fun e => hne e.symm, hl, hu, hr, mt_mo (fun i g => ⟨((hy i).mp g).1.1, ((hy i).mp g).1.2, ((hy i).mp g).2⟩) hm.2.1⟩
theorem mpi_e {R : Nat → Nat → Prop} {S v b : Int} {l n : Nat} (h : mpI R S l v b) (hsy : ∀ i j, Me S i → Me S j → R i j → R j i) (hl : Me S l) (hn : ∀ i, Me S i → i < n) (hv : (n : Int) ≤ v) : maA R (Me S) b := by
  refine ⟨h.1, h.2.1, fun g => ?_⟩
  rcases mt_sp hsy hl g with q | ⟨u, u1, u2, u3, j, u4, u5⟩
  · have := h.2.2.1 _ q
    have := h.1
    omega
  · have := h.2.2.2 u (by have := hn u u1; omega) u1 u2 u3 j u5
    have := h.1
    omega
theorem ma_nil {R : Nat → Nat → Prop} {S : Nat → Prop} (h : ∀ i, ¬ S i) : maA R S 0 := ⟨by omega, trivial, fun ⟨a, _, _, h2, _⟩ => h a h2⟩
/-- the nodes that some greatest pairing misses, below v -/
def msI (R : Nat → Nat → Prop) (n : Nat) (r v s : Int) : Prop := ∀ i : Nat, Me s i ↔ ((i : Int) < v ∧ maA R (fun j => j < n ∧ j ≠ i) r)
def msA (R : Nat → Nat → Prop) (n : Nat) (s : Int) : Prop := ∃ r, maA R (fun j => j < n) r ∧ ∀ i : Nat, Me s i ↔ (i < n ∧ maA R (fun j => j < n ∧ j ≠ i) r)
theorem ms_uq {R : Nat → Nat → Prop} {n : Nat} {s t : Int} (h0 : 0 ≤ s) (h1 : 0 ≤ t) (h : msA R n s) (h' : msA R n t) : s = t := by
  obtain ⟨r, a1, a2⟩ := h
  obtain ⟨q, b1, b2⟩ := h'
  have e := ma_uq a1 b1
  subst e
  exact Me_eqi h0 h1 (fun i => (a2 i).trans (b2 i).symm)
