/-- from v one gets to i over nodes of G -/
def thP (R : Nat → Nat → Prop) (G : Nat → Prop) (v i : Nat) : Prop := ∀ C : Nat → Prop, C v → (∀ a b, C a → (a = v ∨ G a) → R a b → C b) → C i
theorem th_v {R : Nat → Nat → Prop} {G : Nat → Prop} {v : Nat} : thP R G v v := fun _ h _ => h
theorem th_st {R : Nat → Nat → Prop} {G : Nat → Prop} {v a b : Nat} (h : thP R G v a) (ha : a = v ∨ G a) (hr : R a b) : thP R G v b := fun C h1 h2 => h2 a b (h C h1 h2) ha hr
/-- the nodes of S can go, the last first in the list, each with at most k others beside it -/
def elB (R : Nat → Nat → Prop) (k : Int) : List Nat → (Nat → Prop) → Prop
  | [], S => ∀ v, ¬ S v
  | v :: l, S => S v ∧ (∃ z : Int, (0 ≤ z ∧ z ≤ 65535) ∧ (∀ i, Me z i ↔ ¬ S i ∧ thP R (fun j => S j ∧ j ≠ v) v i) ∧ bcI z 16 ≤ k) ∧ elB R k l (fun j => S j ∧ j ≠ v)
theorem el_mo {R : Nat → Nat → Prop} {k q : Int} (hk : k ≤ q) : ∀ {l : List Nat} {S : Nat → Prop}, elB R k l S → elB R q l S
  | [], _, h => h
  | _ :: _, _, ⟨h1, ⟨z, z1, z2, z3⟩, h3⟩ => ⟨h1, ⟨z, z1, z2, by omega⟩, el_mo hk h3⟩
theorem th_cg {R : Nat → Nat → Prop} {G G1 : Nat → Prop} {v i : Nat} (h : ∀ j, G j → G1 j) (ht : thP R G v i) : thP R G1 v i := fun C h1 h2 => ht C h1 (fun a b ha hg hr => h2 a b ha (hg.elim Or.inl (fun q => Or.inr (h a q))) hr)
theorem el_cg {R : Nat → Nat → Prop} {k : Int} : ∀ {l : List Nat} {S S1 : Nat → Prop}, (∀ i, S1 i ↔ S i) → elB R k l S → elB R k l S1
  | [], _, _, h, hl => fun v g => hl v ((h v).mp g)
  | v :: _, _, _, h, ⟨h1, ⟨z, z1, z2, z3⟩, h3⟩ => ⟨(h v).mpr h1, ⟨z, z1, fun i => (z2 i).trans ⟨fun g => ⟨fun q => g.1 ((h i).mp q), th_cg (fun j q => ⟨(h j).mpr q.1, q.2⟩) g.2⟩, fun g => ⟨fun q => g.1 ((h i).mpr q), th_cg (fun j q => ⟨(h j).mp q.1, q.2⟩) g.2⟩⟩, z3⟩, el_cg (fun i => ⟨fun g => ⟨(h i).mp g.1, g.2⟩, fun g => ⟨(h i).mpr g.1, g.2⟩⟩) h3⟩
/-- the width of a set -/
def wdA (R : Nat → Nat → Prop) (S : Nat → Prop) (r : Int) : Prop := 0 ≤ r ∧ (∃ l, elB R r l S) ∧ ∀ k, 0 ≤ k → (∃ l, elB R k l S) → r ≤ k
theorem wdt_uq {R : Nat → Nat → Prop} {S : Nat → Prop} {r q : Int} (h : wdA R S r) (h' : wdA R S q) : r = q := by
  have h1 := h.2.2 q h'.1 h'.2.1
  have h2 := h'.2.2 r h.1 h.2.1
  omega
theorem wd_cg {R : Nat → Nat → Prop} {S S1 : Nat → Prop} {r : Int} (h : ∀ i, S1 i ↔ S i) (hw : wdA R S r) : wdA R S1 r := by
  obtain ⟨h0, ⟨l, hl⟩, h2⟩ := hw
  exact ⟨h0, ⟨l, el_cg h hl⟩, fun k hk ⟨l1, hl1⟩ => h2 k hk ⟨l1, el_cg (fun i => (h i).symm) hl1⟩⟩
/-- the table of widths, below X -/
def lsW (R : Nat → Nat → Prop) (ls : Nat → Int) (X : Int) : Prop := ∀ t : Nat, (t : Int) < X → wdA R (Me (t : Int)) (ls t) ∧ ls t ≤ 16
theorem lsw_1 {R : Nat → Nat → Prop} {ls : Nat → Int} (h : ls 0 = 0) : lsW R ls 1 := fun t ht => by
  have e : t = 0 := by omega
  subst e
  rw [h]
  exact ⟨⟨by omega, ⟨[], fun v g => Me_0 v g⟩, fun k hk _ => hk⟩, by omega⟩
theorem lsw_up {R : Nat → Nat → Prop} {ls : Nat → Int} {X x : Int} (h : lsW R ls X) (h0 : 0 ≤ X) : lsW R (fup ls (Int.toNat X) x) X := fun t ht => by
  rw [show fup ls (Int.toNat X) x t = ls t from if_neg (by omega)]
  exact h t ht
theorem lsw_st {R : Nat → Nat → Prop} {ls : Nat → Int} {X : Int} (h : lsW R ls X) (h0 : 0 ≤ X) (hS : wdA R (Me X) (ls (Int.toNat X)) ∧ ls (Int.toNat X) ≤ 16) : lsW R ls (X + 1) := fun t ht => by
  by_cases e : (t : Int) < X
  · exact h t e
  · have e1 : t = Int.toNat X := by omega
    subst e1
    rw [show ((Int.toNat X : Nat) : Int) = X by omega]
    exact hS
theorem lsw_at {R : Nat → Nat → Prop} {ls : Nat → Int} {X s : Int} (h : lsW R ls X) (h0 : 0 ≤ s) (hs : s < X) : wdA R (Me s) (ls (Int.toNat s)) ∧ ls (Int.toNat s) ≤ 16 := by
  have := h (Int.toNat s) (by omega)
  rw [show ((Int.toNat s : Nat) : Int) = s by omega] at this
  exact this
/-- the nodes below v have been tried as the last -/
def wdI (R : Nat → Nat → Prop) (S v b : Int) : Prop := (b = 99 ∨ ((∃ l, elB R b l (Me S)) ∧ b ≤ 16)) ∧ 0 ≤ b ∧ ∀ u : Nat, (u : Int) < v → ∀ k l, 0 ≤ k → elB R k (u :: l) (Me S) → b ≤ k
theorem wdi_0 {R : Nat → Nat → Prop} {S b : Int} (hb : b = 99) : wdI R S 0 b := by
  subst hb; exact ⟨Or.inl rfl, by omega, fun u hu => by omega⟩
theorem wdi_sk {R : Nat → Nat → Prop} {S v b : Int} (h : wdI R S v b) (hv : 0 ≤ v) (hn : ¬ Me S (Int.toNat v)) : wdI R S (v + 1) b := ⟨h.1, h.2.1, fun u hu k l hk hl => by
  by_cases e : (u : Int) < v
  · exact h.2.2 u e k l hk hl
  · rw [show u = Int.toNat v by omega] at hl
    exact absurd hl.1 hn⟩
theorem wdi_st {R : Nat → Nat → Prop} {S v b y z r w b1 : Int} (h : wdI R S v b) (hv : 0 ≤ v) (hm : Me S (Int.toNat v)) (hy : ∀ i, Me y i ↔ Me S i ∧ i ≠ Int.toNat v) (hr : wdA R (Me y) r) (hr16 : r ≤ 16) (hz : 0 ≤ z ∧ z ≤ 65535) (hzm : ∀ i, Me z i ↔ ¬ Me S i ∧ thP R (fun j => Me S j ∧ j ≠ Int.toNat v) (Int.toNat v) i) (hw : (w = r ∧ bcI z 16 ≤ r) ∨ (w = bcI z 16 ∧ r ≤ bcI z 16)) (hb1 : (b1 = w ∧ w ≤ b) ∨ (b1 = b ∧ b ≤ w)) : wdI R S (v + 1) b1 := by
  have hbz := bc_le z 16
  have h0 := hr.1
  have hy2 := wd_cg (S1 := fun i => Me S i ∧ i ≠ Int.toNat v) (fun i => (hy i).symm) hr
  have hel : ∃ l, elB R w l (Me S) := by
    obtain ⟨l, hl⟩ := hy2.2.1
    exact ⟨Int.toNat v :: l, hm, ⟨z, hz, hzm, by omega⟩, el_mo (by omega) hl⟩
  refine ⟨?_, ?_, fun u hu k l hk hl => ?_⟩
  · rcases hb1 with ⟨e, _⟩ | ⟨e, _⟩
    · rw [e]; exact Or.inr ⟨hel, by omega⟩
    · rw [e]; exact h.1
  · have := h.2.1
    omega
  · by_cases e : (u : Int) < v
    · have := h.2.2 u e k l hk hl
      omega
    · rw [show u = Int.toNat v by omega] at hl
      obtain ⟨g1, ⟨z1, a1, a2, a3⟩, g3⟩ := hl
      have e1 : z1 = z := Me_eqi a1.1 hz.1 (fun i => (a2 i).trans (hzm i).symm)
      rw [e1] at a3
      have := hy2.2.2 k hk ⟨l, g3⟩
      omega
theorem wdi_e {R : Nat → Nat → Prop} {S v b : Int} {n u : Nat} (h : wdI R S v b) (hv : (n : Int) ≤ v) (hn : ∀ i, Me S i → i < n) (hu : Me S u) (hb : b ≤ 16) : wdA R (Me S) b ∧ b ≤ 16 := by
  refine ⟨⟨h.2.1, ?_, fun k hk ⟨l, hl⟩ => ?_⟩, hb⟩
  · rcases h.1 with g | g
    · omega
    · exact g.1
  · cases l with
    | nil => exact absurd hu (hl u)
    | cons a l => exact h.2.2 a (by have := hn a hl.1; omega) k l hk hl
/-- some node has been tried -/
def wdB (S v b : Int) : Prop := b ≤ 16 ∨ ∀ i : Nat, (i : Int) < v → ¬ Me S i
theorem wdb_e {S v b : Int} {n u : Nat} (h : wdB S v b) (hv : (n : Int) ≤ v) (hn : ∀ i, Me S i → i < n) (hu : Me S u) : b ≤ 16 := h.elim id (fun g => absurd hu (g u (by have := hn u hu; omega)))
theorem wdb_sk {S v b : Int} (h : wdB S v b) (hv : 0 ≤ v) (hn : ¬ Me S (Int.toNat v)) : wdB S (v + 1) b := h.elim Or.inl (fun g => Or.inr (lw_up g hv hn))
/-- what is reached from v over G: part; beside it: seen; looked at: more -/
def wpI (R : Nat → Nat → Prop) (G : Int) (v : Nat) (part more seen : Int) : Prop := Me part v ∧ (∀ i, Me part i → (i = v ∨ Me G i) ∧ thP R (Me G) v i) ∧ (∀ i, Me more i → Me part i) ∧ (∀ i, Me seen i → ∃ u, Me part u ∧ R u i) ∧ ∀ u, Me more u → ∀ i, R u i → Me seen i ∧ (Me G i → Me part i)
theorem wp_0 {R : Nat → Nat → Prop} {G part : Int} {v : Nat} (hp : ∀ i, Me part i ↔ i = v) : wpI R G v part 0 0 :=
  ⟨(hp v).mpr rfl, fun i g => by rw [(hp i).mp g]; exact ⟨Or.inl rfl, th_v⟩, fun i g => absurd g (Me_0 i), fun i g => absurd g (Me_0 i), fun u g => absurd g (Me_0 u)⟩
/-- in a round: those of m0 below w have been looked at -/
def wqI (R : Nat → Nat → Prop) (G : Int) (v : Nat) (m0 part seen w : Int) : Prop := Me part v ∧ (∀ i, Me part i → (i = v ∨ Me G i) ∧ thP R (Me G) v i) ∧ (∀ i, Me m0 i → Me part i) ∧ (∀ i, Me seen i → ∃ u, Me part u ∧ R u i) ∧ ∀ u : Nat, Me m0 u → (u : Int) < w → ∀ i, R u i → Me seen i ∧ (Me G i → Me part i)
theorem wq_0 {R : Nat → Nat → Prop} {G part more seen : Int} {v : Nat} (h : wpI R G v part more seen) : wqI R G v part part seen 0 := ⟨h.1, h.2.1, fun _ g => g, h.2.2.2.1, fun u _ hu => by omega⟩
theorem wq_sk {R : Nat → Nat → Prop} {G m0 part seen w : Int} {v : Nat} (h : wqI R G v m0 part seen w) (hw : 0 ≤ w) (hn : ¬ Me m0 (Int.toNat w)) : wqI R G v m0 part seen (w + 1) := ⟨h.1, h.2.1, h.2.2.1, h.2.2.2.1, fun u g hu => by
  by_cases e : (u : Int) < w
  · exact h.2.2.2.2 u g e
  · rw [show u = Int.toNat w by omega] at g; exact absurd g hn⟩
theorem wq_st {R : Nat → Nat → Prop} {G m0 part seen w p1 s1 : Int} {v : Nat} (h : wqI R G v m0 part seen w) (hw : 0 ≤ w) (hm : Me m0 (Int.toNat w)) (hs : ∀ i, Me s1 i ↔ Me seen i ∨ R (Int.toNat w) i) (hp : ∀ i, Me p1 i ↔ Me part i ∨ (R (Int.toNat w) i ∧ Me G i)) : wqI R G v m0 p1 s1 (w + 1) := by
  obtain ⟨h1, h2, h3, h4, h5⟩ := h
  have hw9 := h2 _ (h3 _ hm)
  refine ⟨(hp v).mpr (Or.inl h1), fun i g => ?_, fun i g => (hp i).mpr (Or.inl (h3 i g)), fun i g => ?_, fun u g hu i hr => ?_⟩
  · rcases (hp i).mp g with q | q
    · exact h2 i q
    · exact ⟨Or.inr q.2, th_st hw9.2 hw9.1 q.1⟩
  · rcases (hs i).mp g with q | q
    · obtain ⟨u, u1, u2⟩ := h4 i q
      exact ⟨u, (hp u).mpr (Or.inl u1), u2⟩
    · exact ⟨Int.toNat w, (hp _).mpr (Or.inl (h3 _ hm)), q⟩
  · by_cases e : (u : Int) < w
    · have := h5 u g e i hr
      exact ⟨(hs i).mpr (Or.inl this.1), fun q => (hp i).mpr (Or.inl (this.2 q))⟩
    · have e1 : u = Int.toNat w := by omega
      rw [e1] at hr
      exact ⟨(hs i).mpr (Or.inr hr), fun q => (hp i).mpr (Or.inr ⟨hr, q⟩)⟩
theorem wq_e {R : Nat → Nat → Prop} {G m0 part seen w : Int} {v n : Nat} (h : wqI R G v m0 part seen w) (hw : (n : Int) ≤ w) (hn : ∀ i, Me m0 i → i < n) : wpI R G v part m0 seen := ⟨h.1, h.2.1, h.2.2.1, h.2.2.2.1, fun u g => h.2.2.2.2 u g (by have := hn u g; omega)⟩
theorem wp_e {R : Nat → Nat → Prop} {G S part more seen z : Int} {v : Nat} (h : wpI R G v part more seen) (he : part = more) (hS : ∀ i, Me S i ↔ Me G i ∨ i = v) (hG : ∀ i, Me G i ↔ Me S i ∧ i ≠ v) (hz : ∀ i, Me z i ↔ Me seen i ∧ ¬ Me S i) : ∀ i, Me z i ↔ ¬ Me S i ∧ thP R (fun j => Me S j ∧ j ≠ v) v i := by
  subst he
  obtain ⟨h1, h2, h3, h4, h5⟩ := h
  intro i
  rw [hz i]
  constructor
  · rintro ⟨g1, g2⟩
    obtain ⟨u, u1, u2⟩ := h4 i g1
    have hu := h2 u u1
    exact ⟨g2, th_cg (fun j q => (hG j).mp q) (th_st hu.2 hu.1 u2)⟩
  · rintro ⟨g1, g2⟩
    refine ⟨?_, g1⟩
    have hc := g2 (fun i => i = v ∨ Me seen i) (Or.inl rfl) (fun a b ha hg hr => by
      have hap : Me part a := by
        rcases ha with ha | ha
        · rw [ha]; exact h1
        · rcases hg with hg | hg
          · rw [hg]; exact h1
          · obtain ⟨u, u1, u2⟩ := h4 a ha
            exact (h5 u u1 a u2).2 ((hG a).mpr hg)
      exact Or.inr (h5 a hap b hr).1)
    rcases hc with hc | hc
    · rw [hc] at g1; exact absurd ((hS v).mpr (Or.inr rfl)) g1
    · exact hc
