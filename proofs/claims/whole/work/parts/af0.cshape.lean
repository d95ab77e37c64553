/-- rows of sets tell a relation -/
def rwP (Nx : Nat → Int) (L : Nat) (R : Nat → Nat → Prop) : Prop := (∀ i, i < L → ∀ j, Me (Nx i) j ↔ R i j) ∧ ∀ i j, R i j → i < L ∧ j < L
/-- as far as one gets, in the midst of it -/
def fwP (R : Nat → Nat → Prop) (v : Nat) (seen edge rounds round : Int) : Prop := (∀ j, Me seen j ↔ blP R v rounds.toNat j) ∧ (∀ q, q < rounds.toNat → ∃ j, blP R v (q + 1) j ∧ ¬ blP R v q j) ∧ (0 < edge → rounds = round ∧ (∀ j, Me edge j → Me seen j) ∧ (∀ i j, Me seen i → ¬ Me edge i → R i j → Me seen j) ∧ round + 1 ≤ (bcn seen 16 : Int)) ∧ (edge = 0 → ∀ i j, Me seen i → R i j → Me seen j)
theorem fw_0 {R : Nat → Nat → Prop} {v : Nat} {z : Int} (hz : ∀ i, Me z i ↔ i = v) (hv : v < 16) (h0 : 0 < z) : fwP R v z z 0 0 := by
  refine ⟨fun j => by rw [hz j]; exact Iff.rfl, fun q hq => absurd hq (Nat.not_lt_zero q), fun _ => ⟨rfl, fun j h => h, fun i j h1 h2 => absurd h1 h2, ?_⟩, fun e => by omega⟩
  have h1 := bcn_lt (s := 0) (t := z) (fun i h => absurd h (Me_0 i)) ((hz v).mpr rfl) (Me_0 v) 16 hv
  omega
theorem fw_st {R : Nat → Nat → Prop} {Nx : Nat → Int} {L v : Nat} {seen edge rounds round f e1 s1 r1 : Int} (h : fwP R v seen edge rounds round) (hr : 0 ≤ rounds) (he0 : 0 < edge) (hb : 0 ≤ e1 ∧ e1 ≤ 65535) (hN : rwP Nx L R) (hs : spQ Nx edge f (L : Int)) (he : ∀ i, Me e1 i ↔ Me f i ∧ ¬ Me seen i) (hs1 : ∀ i, Me s1 i ↔ Me seen i ∨ Me e1 i) (hr1 : (e1 = 0 ∧ r1 = rounds) ∨ (e1 ≠ 0 ∧ r1 = rounds + 1)) : fwP R v s1 e1 r1 (round + 1) := by
  obtain ⟨q1, q2, q3, q4⟩ := h
  obtain ⟨p1, p2, p3, p4⟩ := q3 he0
  have hf : ∀ j, Me f j ↔ ∃ i, Me edge i ∧ R i j := fun j => by
    rw [hs j]
    constructor
    · rintro ⟨w, g1, g2, g3⟩
      exact ⟨w, g2, (hN.1 w (by omega) j).mp g3⟩
    · rintro ⟨w, g2, g3⟩
      have := hN.2 w j g3
      exact ⟨w, by omega, g2, (hN.1 w (by omega) j).mpr g3⟩
  have nx : ∀ j, Me s1 j ↔ blP R v (rounds.toNat + 1) j := fun j => by
    rw [hs1 j]
    show _ ↔ (blP R v rounds.toNat j ∨ ∃ i, blP R v rounds.toNat i ∧ R i j)
    constructor
    · rintro (g | g)
      · exact Or.inl ((q1 j).mp g)
      · obtain ⟨i, g1, g2⟩ := (hf j).mp ((he j).mp g).1
        exact Or.inr ⟨i, (q1 i).mp (p2 i g1), g2⟩
    · rintro (g | ⟨i, g1, g2⟩)
      · exact Or.inl ((q1 j).mpr g)
      · by_cases hj : Me seen j
        · exact Or.inl hj
        · by_cases hi : Me edge i
          · exact Or.inr ((he j).mpr ⟨(hf j).mpr ⟨i, hi, g2⟩, hj⟩)
          · exact absurd (p3 i j ((q1 i).mpr g1) hi g2) hj
  rcases hr1 with ⟨e0, er⟩ | ⟨e0, er⟩
  · have ns : ∀ j, Me s1 j ↔ Me seen j := fun j => by
      rw [hs1 j, e0]
      exact ⟨fun g => g.elim id (fun g => absurd g (Me_0 j)), Or.inl⟩
    refine ⟨fun j => by rw [er, ns j]; exact q1 j, by rw [er]; exact q2, fun g => by omega, fun _ i j g1 g2 => ?_⟩
    exact (nx j).mpr (Or.inr ⟨i, (q1 i).mp ((ns i).mp g1), g2⟩)
  · obtain ⟨j0, hj0⟩ := Me_ex (show 0 < e1 by omega)
    have hj1 := (he j0).mp hj0
    have et : r1.toNat = rounds.toNat + 1 := by omega
    refine ⟨fun j => by rw [et]; exact nx j, ?_, fun _ => ⟨by omega, fun j g => (hs1 j).mpr (Or.inr g), fun i j g1 g2 g3 => ?_, ?_⟩, fun g => absurd g e0⟩
    · intro q hq
      rw [et] at hq
      rcases Nat.lt_or_ge q rounds.toNat with g | g
      · exact q2 q g
      · have e : q = rounds.toNat := by omega
        subst e
        exact ⟨j0, (nx j0).mp ((hs1 j0).mpr (Or.inr hj0)), fun g9 => hj1.2 ((q1 j0).mpr g9)⟩
    · have g4 : Me seen i := ((hs1 i).mp g1).resolve_right g2
      exact (nx j).mpr (Or.inr ⟨i, (q1 i).mp g4, g3⟩)
    · have g5 := bcn_lt (s := seen) (t := s1) (fun i g => (hs1 i).mpr (Or.inl g)) ((hs1 j0).mpr (Or.inr hj0)) hj1.2 16 (Me_lt hj0 hb.2)
      omega
theorem fw_end {R : Nat → Nat → Prop} {v : Nat} {seen edge rounds round : Int} (h : fwP R v seen edge rounds round) (h0 : 0 ≤ edge) (he : edge = 0 ∨ 16 ≤ round) : frP R v rounds.toNat := by
  have z : edge = 0 := by
    rcases he with e | e
    · exact e
    · apply Classical.byContradiction
      intro g
      have p := h.2.2.1 (by omega)
      have := bcn_le seen 16
      omega
  refine ⟨fun j g => ?_, h.2.1⟩
  rcases g with g | ⟨i, g1, g2⟩
  · exact g
  · exact (h.1 j).mp (h.2.2.2 z i j ((h.1 i).mpr g1) g2)
theorem rx_RC {Nx : Nat → Int} {L : Nat} {s w E : Int} {R : Nat → Nat → Prop} (h : rxP Nx L s w E) (hN : rwP Nx L R) (j : Nat) : Me E j ↔ RC (fun i j => R i j ∧ Me w j) (fun x => Me s x ∧ Me w x) j := by
  constructor
  · intro g
    exact h.2.2.2 (fun j => RC (fun i j => R i j ∧ Me w j) (fun x => Me s x ∧ Me w x) j) (fun i g1 g2 => RC_in ⟨g1, g2⟩) (fun i j hi g1 g2 g3 => RC_st g1 ⟨(hN.1 i hi j).mp g2, g3⟩) j g
  · intro g
    exact g (fun j => Me E j) (fun i g1 => h.2.1 i g1.1 g1.2) (fun i j g1 g2 => h.2.2.1 i j (hN.2 i j g2.1).1 g1 ((hN.1 i (hN.2 i j g2.1).1 j).mpr g2.1) g2.2)
/-- within all nodes -/
theorem rx_all {Nx : Nat → Int} {n : Nat} {s E : Int} {v : Nat} {R : Nat → Nat → Prop} (h : rxP Nx n s (((2 ^ n : Nat) : Int) - 1) E) (hN : rwP Nx n R) (hs : ∀ i, Me s i ↔ i = v) (hv : v < n) (j : Nat) : Me E j ↔ RC R (fun x => x = v) j := by
  rw [rx_RC h hN j]
  constructor
  · exact RC_mono (fun i j g => g.1) (fun i g => (hs i).mp g.1)
  · exact RC_mono (fun i j g => ⟨g, (Me_all j).mpr (hN.2 i j g).2⟩) (fun i g => ⟨(hs i).mpr g, (Me_all i).mpr (by omega)⟩)
theorem cnP_z {p : Nat → Prop} : ∀ {k : Nat}, (∀ i, i < k → ¬ p i) → cnP p k = 0 := by
  intro k
  induction k with
  | zero => intro _; rfl
  | succ k ih => intro h; rw [cnP_n (h k (by omega)), ih (fun i hi => h i (by omega))]
/-- pieces that are left -/
def pcM (J : Nat → Nat → Prop) (v u : Nat) : Prop := (RC J (fun x => x = v) u ∧ u ≠ v) ∧ ∀ w, w < u → ¬ RC (av J v) (fun x => x = u) w
def bqP (J : Nat → Nat → Prop) (n v : Nat) (left pieces round : Int) : Prop := (∀ u, Me left u → RC J (fun x => x = v) u ∧ u ≠ v) ∧ (∀ u w, Me left u → av J v u w → Me left w) ∧ pieces = (cnP (fun u => pcM J v u ∧ ¬ Me left u) n : Int) ∧ round + (bcn left 16 : Int) ≤ 16
theorem bq_0 {J : Nat → Nat → Prop} {n v : Nat} {left E b : Int} (hE : ∀ j, Me E j ↔ RC J (fun x => x = v) j) (hb : ∀ i, Me b i ↔ i = v) (hl : ∀ i, Me left i ↔ Me E i ∧ ¬ Me b i) : bqP J n v left 0 0 := by
  have hL : ∀ i, Me left i ↔ RC J (fun x => x = v) i ∧ i ≠ v := fun i => by rw [hl i, hE i, hb i]
  refine ⟨fun u g => (hL u).mp g, fun u w g1 g2 => (hL w).mpr ⟨RC_st ((hL u).mp g1).1 g2.1, g2.2.2⟩, ?_, ?_⟩
  · rw [cnP_z (fun i _ g => g.2 ((hL i).mpr g.1.1))]; rfl
  · have := bcn_le left 16
    omega
theorem bq_st {J : Nat → Nat → Prop} {n v u0 : Nat} {left left1 pieces round z E : Int} (h : bqP J n v left pieces round) (hs : ∀ i j, J i j → J j i) (hn : ∀ i j, J i j → i < n ∧ j < n) (hv : v < n) (hz : ∀ i, Me z i ↔ i = u0) (hm : Me left u0) (hmin : ∀ w, Me left w → u0 ≤ w) (hE : ∀ j, Me E j ↔ RC (fun i j => J i j ∧ Me left j) (fun x => Me z x ∧ Me left x) j) (hl : ∀ i, Me left1 i ↔ Me left i ∧ ¬ Me E i) (hb : left ≤ 65535) : bqP J n v left1 (pieces + 1) (round + 1) := by
  obtain ⟨q1, q2, q3, q4⟩ := h
  have c1 : ∀ j, Me E j → RC (av J v) (fun x => x = u0) j ∧ Me left j := fun j g => (hE j).mp g (fun j => RC (av J v) (fun x => x = u0) j ∧ Me left j) (fun i g1 => ⟨RC_in ((hz i).mp g1.1), g1.2⟩) (fun i j g1 g2 => ⟨RC_st g1.1 ⟨g2.1, (q1 i g1.2).2, (q1 j g2.2).2⟩, g2.2⟩)
  have c2 : ∀ j, RC (av J v) (fun x => x = u0) j → Me E j ∧ Me left j := fun j g => g (fun j => Me E j ∧ Me left j) (fun i e => by subst e; exact ⟨(hE i).mpr (RC_in ⟨(hz i).mpr rfl, hm⟩), hm⟩) (fun i j g1 g2 => by
    have g3 := q2 i j g1.2 g2
    exact ⟨(hE j).mpr (RC_st ((hE i).mp g1.1) ⟨g2.1, g3⟩), g3⟩)
  have e0 : Me E u0 := (c2 u0 (RC_in rfl)).1
  have p0 : pcM J v u0 := ⟨q1 u0 hm, fun w hw g => by have := hmin w (c2 w g).2; omega⟩
  have hu : u0 < n := (q1 u0 hm).1 (fun x => x < n) (fun i e => by rw [e]; exact hv) (fun i j _ g => (hn i j g).2)
  refine ⟨fun u g => q1 u ((hl u).mp g).1, fun u w g1 g2 => ?_, ?_, ?_⟩
  · refine (hl w).mpr ⟨q2 u w ((hl u).mp g1).1 g2, fun g3 => ?_⟩
    exact ((hl u).mp g1).2 (c2 u (RC_st (c1 w g3).1 (av_sym hs u w g2))).1
  · rw [cnP_rm (p := fun u => pcM J v u ∧ ¬ Me left1 u) hu ⟨p0, fun g => ((hl u0).mp g).2 e0⟩, q3]
    rw [cnP_eq (p := fun u => pcM J v u ∧ ¬ Me left u) (q := fun i => (pcM J v i ∧ ¬ Me left1 i) ∧ i ≠ u0) (fun i _ => ?_)]
    · omega
    · constructor
      · rintro ⟨g1, g2⟩
        exact ⟨⟨g1, fun g => g2 ((hl i).mp g).1⟩, fun e => g2 (by rw [e]; exact hm)⟩
      · rintro ⟨⟨g1, g2⟩, g3⟩
        refine ⟨g1, fun g4 => ?_⟩
        have g5 : Me E i := Classical.byContradiction (fun g6 => g2 ((hl i).mpr ⟨g4, g6⟩))
        have g7 := hmin i g4
        exact g1.2 u0 (by omega) (RC_sym (av_sym hs) (c1 i g5).1)
  · have g := bcn_lt (s := left1) (t := left) (fun i g => ((hl i).mp g).1) hm (fun g => ((hl u0).mp g).2 e0) 16 (Me_lt hm hb)
    omega
theorem bq_end {J : Nat → Nat → Prop} {n v : Nat} {left pieces round : Int} (h : bqP J n v left pieces round) (h0 : left = 0 ∨ 16 ≤ round) (hn : n ≤ 16) : pieces = (cnP (pcM J v) n : Int) := by
  obtain ⟨q1, q2, q3, q4⟩ := h
  have nz : ∀ i, i < n → ¬ Me left i := fun i hi => by
    rcases h0 with e | e
    · rw [e]; exact Me_0 i
    · exact bcn_z (k := 16) (by omega) i (by omega)
  rw [q3, cnP_eq (q := pcM J v) (fun i hi => ⟨fun g => g.1, fun g => ⟨g, nz i hi⟩⟩)]
/-- twins: other arcs of the same ends -/
def twP (F T : Nat → Int) (i k : Nat) : Prop := k ≠ i ∧ ((F i = F k ∧ T i = T k) ∨ (F i = T k ∧ T i = F k))
/-- the way back, in the midst of looking for it -/
def dqP (R : Nat → Nat → Prop) (a b : Nat) (seen edge round : Int) : Prop := (∀ j, Me seen j → RC R (fun x => x = a) j) ∧ Me seen a ∧ (∀ j, Me edge j → Me seen j) ∧ (∀ i j, Me seen i → ¬ Me edge i → R i j → Me seen j) ∧ (0 < edge → round + 1 ≤ (bcn seen 16 : Int)) ∧ (∀ j, Me seen j → ¬ Me edge j → j ≠ b)
theorem dq_0 {R : Nat → Nat → Prop} {a b : Nat} {z : Int} (hz : ∀ i, Me z i ↔ i = a) (ha : a < 16) : dqP R a b z z 0 := by
  refine ⟨fun j g => RC_in ((hz j).mp g), (hz a).mpr rfl, fun j g => g, fun i j g1 g2 => absurd g1 g2, fun _ => ?_, fun j g1 g2 => absurd g1 g2⟩
  have h1 := bcn_lt (s := 0) (t := z) (fun i h => absurd h (Me_0 i)) ((hz a).mpr rfl) (Me_0 a) 16 ha
  omega
theorem dq_st {R : Nat → Nat → Prop} {Nx : Nat → Int} {L a b : Nat} {seen edge round f e1 s1 : Int} (h : dqP R a b seen edge round) (hn : ¬ Me seen b) (he0 : 0 < edge) (hb : 0 ≤ e1 ∧ e1 ≤ 65535) (hN : rwP Nx L R) (hs : spQ Nx edge f (L : Int)) (he : ∀ i, Me e1 i ↔ Me f i ∧ ¬ Me seen i) (hs1 : ∀ i, Me s1 i ↔ Me seen i ∨ Me e1 i) : dqP R a b s1 e1 (round + 1) := by
  obtain ⟨q1, q2, q3, q4, q5, q6⟩ := h
  have hf : ∀ j, Me f j ↔ ∃ i, Me edge i ∧ R i j := fun j => by
    rw [hs j]
    constructor
    · rintro ⟨w, g1, g2, g3⟩
      exact ⟨w, g2, (hN.1 w (by omega) j).mp g3⟩
    · rintro ⟨w, g2, g3⟩
      have := hN.2 w j g3
      exact ⟨w, by omega, g2, (hN.1 w (by omega) j).mpr g3⟩
  refine ⟨fun j g => ?_, (hs1 a).mpr (Or.inl q2), fun j g => (hs1 j).mpr (Or.inr g), fun i j g1 g2 g3 => ?_, fun g => ?_, fun j g1 g2 e => ?_⟩
  · rcases (hs1 j).mp g with g | g
    · exact q1 j g
    · obtain ⟨i, g1, g2⟩ := (hf j).mp ((he j).mp g).1
      exact RC_st (q1 i (q3 i g1)) g2
  · have g4 : Me seen i := ((hs1 i).mp g1).resolve_right g2
    by_cases hj : Me seen j
    · exact (hs1 j).mpr (Or.inl hj)
    · by_cases hi : Me edge i
      · exact (hs1 j).mpr (Or.inr ((he j).mpr ⟨(hf j).mpr ⟨i, hi, g3⟩, hj⟩))
      · exact absurd (q4 i j g4 hi g3) hj
  · obtain ⟨j0, hj0⟩ := Me_ex g
    have g5 := bcn_lt (s := seen) (t := s1) (fun i g => (hs1 i).mpr (Or.inl g)) ((hs1 j0).mpr (Or.inr hj0)) ((he j0).mp hj0).2 16 (Me_lt hj0 hb.2)
    have := q5 he0
    omega
  · subst e
    exact hn (((hs1 j).mp g1).resolve_right g2)
theorem dq_no {R : Nat → Nat → Prop} {a b : Nat} {seen edge round : Int} (h : dqP R a b seen edge round) (h0 : 0 ≤ edge) (he : edge = 0 ∨ 16 < round) : ¬ RC R (fun x => x = a) b := by
  obtain ⟨q1, q2, q3, q4, q5, q6⟩ := h
  have z : edge = 0 := by
    rcases he with e | e
    · exact e
    · apply Classical.byContradiction
      intro g
      have := q5 (by omega)
      have := bcn_le seen 16
      omega
  intro g
  have ne : ∀ i, ¬ Me edge i := fun i => by rw [z]; exact Me_0 i
  have := g (Me seen) (fun i e => by rw [e]; exact q2) (fun i j g1 g2 => q4 i j g1 (ne i) g2)
  exact q6 b this (ne b) rfl
theorem jo_iff {m : Nat} {F T : Nat → Int} {X Y : Nat → Prop} (h : ∀ k, k < m → F k ≠ T k → (X k ↔ Y k)) (a b : Nat) : joX m F T X a b ↔ joX m F T Y a b := by
  constructor
  · rintro ⟨k, g1, g2, g3, g4⟩
    exact ⟨k, g1, (h k g1 g3).mp g2, g3, g4⟩
  · rintro ⟨k, g1, g2, g3, g4⟩
    exact ⟨k, g1, (h k g1 g3).mpr g2, g3, g4⟩
theorem rw_iff {Nx : Nat → Int} {L : Nat} {R R' : Nat → Nat → Prop} (h : rwP Nx L R) (hR : ∀ i j, R i j ↔ R' i j) : rwP Nx L R' := ⟨fun i hi j => (h.1 i hi j).trans (hR i j), fun i j g => h.2 i j ((hR i j).mpr g)⟩
/-- an arc without twins goes -/
theorem rw_cut {m n : Nat} {F T : Nat → Int} {X : Nat → Prop} {Nx N1 : Nat → Int} {i a b : Nat} (h : rwP Nx n (joX m F T X)) (hi : i < m) (ha : F i = (a : Int) ∧ T i = (b : Int)) (ht : ∀ k, k < m → ¬ twP F T i k) (h1 : ∀ u, u < n → ∀ j, Me (N1 u) j ↔ Me (Nx u) j ∧ ¬ ((u = a ∧ j = b) ∨ (u = b ∧ j = a))) : rwP N1 n (joX m F T (fun k => X k ∧ k ≠ i)) := by
  refine ⟨fun u hu j => ?_, fun u j g => h.2 u j (joX_mono (fun k hk => hk.1) u j g)⟩
  rw [h1 u hu j, h.1 u hu j]
  constructor
  · rintro ⟨⟨k, g1, g2, g3, g4⟩, g5⟩
    refine ⟨k, g1, ⟨g2, fun e => ?_⟩, g3, g4⟩
    subst e
    apply g5
    rcases g4 with g4 | g4
    · exact Or.inl ⟨by omega, by omega⟩
    · exact Or.inr ⟨by omega, by omega⟩
  · rintro ⟨k, g1, ⟨g2, g6⟩, g3, g4⟩
    refine ⟨⟨k, g1, g2, g3, g4⟩, fun g5 => ht k g1 ⟨g6, ?_⟩⟩
    rcases g4 with g4 | g4 <;> rcases g5 with g5 | g5
    · exact Or.inl ⟨by omega, by omega⟩
    · exact Or.inr ⟨by omega, by omega⟩
    · exact Or.inr ⟨by omega, by omega⟩
    · exact Or.inl ⟨by omega, by omega⟩
/-- what a bridge is, found out -/
theorem br_found {m n : Nat} {F T : Nat → Int} {i a b : Nat} (hF : ∀ k, k < m → ∃ a b : Nat, F k = (a : Int) ∧ T k = (b : Int)) (hi : i < m) (ha : F i = (a : Int) ∧ T i = (b : Int)) (hab : a ≠ b) : RC (joX m F T (fun k => wbX m F T i k ∧ k ≠ i)) (fun x => x = a) b ↔ ¬ brX m F T (fun _ => True) i := by
  constructor
  · intro g hb
    exact hb.2 a b ha.1 ha.2 (RC_mono (joX_mono (fun k hk => ⟨trivial, hk.2⟩)) (fun _ q => q) g)
  · intro g
    refine br_left (n := n) hF hi ha hab i (by omega) ?_
    apply Classical.byContradiction
    intro g1
    apply g
    refine ⟨by omega, fun a' b' e1 e2 => ?_⟩
    have ea : a' = a := by omega
    have eb : b' = b := by omega
    subst ea; subst eb
    exact g1
theorem wb_no {m : Nat} {F T : Nat → Int} {i : Nat} (h : ¬ brX m F T (fun _ => True) i) (k : Nat) : wbX m F T i k ↔ wbX m F T (i + 1) k := by
  constructor
  · intro g g1
    rcases Nat.lt_or_ge k i with g2 | g2
    · exact g ⟨g2, g1.2⟩
    · have e : k = i := by omega
      exact h (e ▸ g1.2)
  · intro g g1
    exact g ⟨by omega, g1.2⟩
theorem wb_yes {m : Nat} {F T : Nat → Int} {i : Nat} (h : brX m F T (fun _ => True) i) (k : Nat) : (wbX m F T i k ∧ k ≠ i) ↔ wbX m F T (i + 1) k := by
  constructor
  · rintro ⟨g, g0⟩ g1
    rcases Nat.lt_or_ge k i with g2 | g2
    · exact g ⟨g2, g1.2⟩
    · exact g0 (by omega)
  · intro g
    exact ⟨fun g1 => g ⟨by omega, g1.2⟩, fun e => g ⟨by omega, by rw [e]; exact h⟩⟩
theorem tw_nb {m : Nat} {F T : Nat → Int} {i k : Nat} (hk : k < m) (hp : 0 ≤ F i ∧ 0 ≤ T i) (h : twP F T i k) : ¬ brX m F T (fun _ => True) i := by
  rintro ⟨g1, g2⟩
  rcases h with ⟨g3, g4⟩
  refine g2 (F i).toNat (T i).toNat (by omega) (by omega) (RC_st (RC_in rfl) ⟨k, hk, ⟨trivial, g3⟩, ?_, ?_⟩)
  · rcases g4 with g4 | g4 <;> omega
  · rcases g4 with g4 | g4
    · exact Or.inl ⟨by omega, by omega⟩
    · exact Or.inr ⟨by omega, by omega⟩
theorem tw_up {F T : Nat → Int} {i : Nat} {v : Int} (h : ∀ k, k < v.toNat → ¬ twP F T i k) (h0 : 0 ≤ v) (hn : ¬ twP F T i v.toNat) : ∀ k, k < (v + 1).toNat → ¬ twP F T i k := by
  intro k hk
  by_cases e : k = v.toNat
  · rw [e]; exact hn
  · exact h k (by omega)
theorem cut_x {e0 : Nat → Int} {a b : Nat} {z1 z2 b1 a1 : Int} (h1 : ∀ j, Me z1 j ↔ Me (e0 a) j ∧ ¬ Me b1 j) (hb : ∀ i, Me b1 i ↔ i = b) (h2 : ∀ j, Me z2 j ↔ Me (fup e0 a z1 b) j ∧ ¬ Me a1 j) (ha : ∀ i, Me a1 i ↔ i = a) (hab : a ≠ b) : ∀ u, ∀ j, Me (fup (fup e0 a z1) b z2 u) j ↔ Me (e0 u) j ∧ ¬ ((u = a ∧ j = b) ∨ (u = b ∧ j = a)) := by
  intro u j
  by_cases eb : u = b
  · subst eb
    rw [fup_s, h2 j, fup_o _ _ (Ne.symm hab), ha j]
    exact ⟨fun g => ⟨g.1, fun q => q.elim (fun q => hab q.1.symm) (fun q => g.2 q.2)⟩, fun g => ⟨g.1, fun q => g.2 (Or.inr ⟨rfl, q⟩)⟩⟩
  · rw [fup_o _ _ eb]
    by_cases ea : u = a
    · subst ea
      rw [fup_s, h1 j, hb j]
      exact ⟨fun g => ⟨g.1, fun q => q.elim (fun q => g.2 q.2) (fun q => eb q.1)⟩, fun g => ⟨g.1, fun q => g.2 (Or.inl ⟨rfl, q⟩)⟩⟩
    · rw [fup_o _ _ ea]
      exact ⟨fun g => ⟨g, fun q => q.elim (fun q => ea q.1) (fun q => eb q.1)⟩, fun g => g.1⟩
theorem put_x {e0 : Nat → Int} {a b : Nat} {z1 z2 b1 a1 : Int} (h1 : ∀ j, Me z1 j ↔ Me (e0 a) j ∨ Me b1 j) (hb : ∀ i, Me b1 i ↔ i = b) (h2 : ∀ j, Me z2 j ↔ Me (fup e0 a z1 b) j ∨ Me a1 j) (ha : ∀ i, Me a1 i ↔ i = a) (hab : a ≠ b) : ∀ u, ∀ j, Me (fup (fup e0 a z1) b z2 u) j ↔ Me (e0 u) j ∨ ((u = a ∧ j = b) ∨ (u = b ∧ j = a)) := by
  intro u j
  by_cases eb : u = b
  · subst eb
    rw [fup_s, h2 j, fup_o _ _ (Ne.symm hab), ha j]
    exact ⟨fun g => g.elim Or.inl (fun q => Or.inr (Or.inr ⟨rfl, q⟩)), fun g => g.elim Or.inl (fun q => q.elim (fun q => absurd q.1.symm hab) (fun q => Or.inr q.2))⟩
  · rw [fup_o _ _ eb]
    by_cases ea : u = a
    · subst ea
      rw [fup_s, h1 j, hb j]
      exact ⟨fun g => g.elim Or.inl (fun q => Or.inr (Or.inl ⟨rfl, q⟩)), fun g => g.elim Or.inl (fun q => q.elim (fun q => Or.inr q.2) (fun q => absurd q.1 eb))⟩
    · rw [fup_o _ _ ea]
      exact ⟨Or.inl, fun g => g.elim id (fun q => q.elim (fun q => absurd q.1 ea) (fun q => absurd q.1 eb))⟩
theorem rw_same {m n : Nat} {F T Nx : Nat → Int} {v : Int} (h0 : 0 ≤ v) (hn : ¬ brX m F T (fun _ => True) v.toNat) (h : rwP Nx n (joX m F T (wbX m F T v.toNat))) : rwP Nx n (joX m F T (wbX m F T (v + 1).toNat)) := by
  rw [tn1 h0]; exact rw_iff h (jo_iff (fun k _ _ => wb_no hn k))
theorem rw_yes {m n : Nat} {F T Nx : Nat → Int} {v : Int} (h0 : 0 ≤ v) (hb : brX m F T (fun _ => True) v.toNat) (h : rwP Nx n (joX m F T (fun k => wbX m F T v.toNat k ∧ k ≠ v.toNat))) : rwP Nx n (joX m F T (wbX m F T (v + 1).toNat)) := by
  rw [tn1 h0]; exact rw_iff h (jo_iff (fun k _ _ => wb_yes hb k))
/-- an arc comes back -/
theorem rw_back {m n : Nat} {F T : Nat → Int} {X : Nat → Prop} {N1 N2 : Nat → Int} {i a b : Nat} (h : rwP N1 n (joX m F T (fun k => X k ∧ k ≠ i))) (hi : i < m) (ha : F i = (a : Int) ∧ T i = (b : Int)) (hab : a ≠ b) (hn : a < n ∧ b < n) (hX : X i) (h1 : ∀ u, ∀ j, Me (N2 u) j ↔ Me (N1 u) j ∨ ((u = a ∧ j = b) ∨ (u = b ∧ j = a))) : rwP N2 n (joX m F T X) := by
  have key : ∀ u j, joX m F T X u j ↔ joX m F T (fun k => X k ∧ k ≠ i) u j ∨ ((u = a ∧ j = b) ∨ (u = b ∧ j = a)) := fun u j => by
    constructor
    · rintro ⟨k, g1, g2, g3, g4⟩
      by_cases e : k = i
      · subst e
        right
        rcases g4 with g4 | g4
        · exact Or.inl ⟨by omega, by omega⟩
        · exact Or.inr ⟨by omega, by omega⟩
      · exact Or.inl ⟨k, g1, ⟨g2, e⟩, g3, g4⟩
    · rintro (g | g)
      · exact joX_mono (fun k hk => hk.1) u j g
      · refine ⟨i, hi, hX, by omega, ?_⟩
        rcases g with g | g
        · exact Or.inl ⟨by omega, by omega⟩
        · exact Or.inr ⟨by omega, by omega⟩
  refine ⟨fun u hu j => ?_, fun u j g => ?_⟩
  · rw [h1 u j, h.1 u hu j, key u j]
  · rcases (key u j).mp g with g | g
    · exact h.2 u j g
    · omega
theorem rw_fin {m n : Nat} {F T Nx : Nat → Int} {v : Int} (h : rwP Nx n (joX m F T (wbX m F T v.toNat))) (hv : v = (m : Int)) : rwP Nx n (joX m F T (fun k => ¬ brX m F T (fun _ => True) k)) := by
  subst hv
  rw [Int.toNat_natCast] at h
  exact rw_iff h (jo_iff (fun k hk _ => ⟨fun g g1 => g ⟨hk, g1⟩, fun g g1 => g g1.2⟩))
theorem Ext.ovn {Γ Γ1 : TG} {n : Nat} {T : va_E → Prop} (hE : Ext Γ Γ1) (hn : ∀ a T', Γ a = some T' → a ≠ n) : Ext Γ (ov Γ1 n T) := fun a T' h => by
  rw [ov_o _ _ (hn a T' h)]; exact hE a T' h
def pWB (Γ : TG) (cI : ClassId) (gn n : Nat) (Q : (Nat → Int) → Prop) : Option Value → MH → Nat → Prop := fun r hp1 n1 => n1 = n + 1 ∧ r = some (.ref n) ∧ ∃ (f : Nat → Int) (Γ1 : TG), Ext Γ Γ1 ∧ Γ1 n = some (xI cI gn f) ∧ Tw Γ1 hp1 ∧ Rfx gn 0 65535 f ∧ Q f
section TY
variable {G : MG} {M : MM} {d pc : Nat} {lv : List (Nat × Value)} {st : List Value} {hp : MH} {n kr wr : Nat} {Po : Option Value → MH → Nat → Prop}
theorem t_cloneX {Γ : TG} {ix t0 a L : Nat} {cA : ClassId} {f : Nat → Int} (ht : Tw Γ hp) (hΓ : rd Γ a (xI cA L f)) (F : lkC G M.1.cls ix "[I") (hd : decode M.2.1 pc = .ok (.invokevirtual ix, 3)) (hty : (g_ty G)[t0]? = some (cA, .int)) (hst : (st.map fun v => v.category).sum ≤ 8) (hkr : 1 ≤ kr) (hwr : L ≤ wr) (kk : ∀ (hp1 : MH) (Γ1 : TG), Ext Γ Γ1 → Γ1 n = some (xI cA L f) → Tw Γ1 hp1 → Rn G M d (pc + 3) lv (.ref n :: st) hp1 (n + 1) (kr - 1) (wr - L) Po) : Rn G M d pc lv (.ref a :: st) hp n kr wr Po := by
  refine Rn.bd (fun bd => ?_)
  obtain ⟨e, h1, g, rfl, h2⟩ := rd_at ht hΓ
  exact w_clone F hd hty h1 hst hkr hwr (fun hp1 h3 _ h5 => kk hp1 (va_up Γ n (some (xI cA L f))) (ext_new ht bd) (by simp [va_up]) (ht.up h3 ⟨_, rfl, h2⟩ h5))
theorem t_castX {Γ : TG} {ix t0 a L : Nat} {cA : ClassId} {f : Nat → Int} (ht : Tw Γ hp) (hΓ : rd Γ a (xI cA L f)) (hd : decode M.2.1 pc = .ok (.checkcast ix, 3)) (hlk : Cond.classLink M.1.cls ix "[I" ∈ g_ws G) (hty : (g_ty G)[t0]? = some (cA, .int)) (kk : Rn G M d (pc + 3) lv (.ref a :: st) hp n kr wr Po) : Rn G M d pc lv (.ref a :: st) hp n kr wr Po := by
  obtain ⟨e, h1, g, rfl, h2⟩ := rd_at ht hΓ
  exact r_castA hd hlk hty h1 kk
end TY

