/-- two sides -/
def twC (m : Nat) (F T : Nat → Int) (c : Nat → Prop) : Prop := ∀ k, k < m → (c (F k).toNat ↔ ¬ c (T k).toNat)
def joA (m : Nat) (F T : Nat → Int) : Nat → Nat → Prop := joX m F T (fun _ => True)
def caC (m : Nat) (F T : Nat → Int) (n : Nat) (c : Nat → Prop) : Prop := ∀ v, v < n → (∀ u, u < v → ¬ RC (joA m F T) (fun x => x = v) u) → ¬ c v
def sdA (m : Nat) (F T : Nat → Int) (n x : Nat) (r : Int) : Prop := (r = -1 ∧ ¬ ∃ c : Nat → Prop, twC m F T c) ∨ (∃ c : Nat → Prop, twC m F T c ∧ caC m F T n c ∧ ((r = 1 ∧ c x) ∨ (r = 0 ∧ ¬ c x)))
section SD
variable {m n x : Nat} {F T : Nat → Int} {c c' : Nat → Prop}
theorem jo_sy : ∀ i j, joA m F T i j → joA m F T j i := by
  rintro i j ⟨k, k1, k2, k3, k4⟩
  refine ⟨k, k1, k2, k3, ?_⟩
  rcases k4 with ⟨a, b⟩ | ⟨a, b⟩
  · exact Or.inr ⟨b, a⟩
  · exact Or.inl ⟨b, a⟩
theorem tw_fl (h : twC m F T c) {i j : Nat} (hj : joA m F T i j) : c i ↔ ¬ c j := by
  obtain ⟨k, k1, k2, k3, k4⟩ := hj
  have h9 := h k k1
  rcases k4 with ⟨a, b⟩ | ⟨a, b⟩
  · have e1 : (F k).toNat = i := by omega
    have e2 : (T k).toNat = j := by omega
    rw [e1, e2] at h9; exact h9
  · have e1 : (F k).toNat = j := by omega
    have e2 : (T k).toNat = i := by omega
    rw [e1, e2] at h9
    constructor
    · intro g1 g2; exact (h9.mp g2) g1
    · intro g; exact Classical.byContradiction (fun g2 => g (h9.mpr g2))
theorem least_of (P : Nat → Prop) : ∀ v, P v → ∃ u, P u ∧ ∀ w, w < u → ¬ P w := by
  intro v
  induction v using Nat.strongRecOn with
  | _ v ih =>
    intro hv
    by_cases h : ∃ w, w < v ∧ P w
    · obtain ⟨w, w1, w2⟩ := h
      exact ih w w1 w2
    · exact ⟨v, hv, fun w hw hp => h ⟨w, hw, hp⟩⟩
theorem sd_eq (hF : ∀ k, k < m → (0 ≤ F k ∧ F k < (n : Int)) ∧ (0 ≤ T k ∧ T k < (n : Int))) (h : twC m F T c) (hc : caC m F T n c) (h' : twC m F T c') (hc' : caC m F T n c') (v : Nat) (hv : v < n) : c v ↔ c' v := by
  obtain ⟨u, u1, u2⟩ := least_of (fun u => RC (joA m F T) (fun x => x = v) u) v (RC_in rfl)
  have hun : u < n := by
    have : u < n := u1 (fun x => x < n) (fun i hi => by rw [hi]; exact hv) (fun i j _ ⟨k, k1, _, _, k4⟩ => by have := hF k k1; rcases k4 with ⟨a, b⟩ | ⟨a, b⟩ <;> omega)
    exact this
  have hle : ∀ w, w < u → ¬ RC (joA m F T) (fun x => x = u) w := fun w hw hr => u2 w hw (RC_tr u1 hr)
  have a1 := hc u hun hle
  have a2 := hc' u hun hle
  have back : RC (joA m F T) (fun x => x = u) v := RC_sym jo_sy u1
  refine back (fun y => c y ↔ c' y) (fun i hi => by rw [hi]; exact ⟨fun g => absurd g a1, fun g => absurd g a2⟩) (fun i j hi hij => ?_)
  have b1 := tw_fl h (jo_sy i j hij)
  have b2 := tw_fl h' (jo_sy i j hij)
  have hi' : c i ↔ c' i := hi
  rw [b1, b2, hi']
theorem sd_uq {r r' : Int} (hF : ∀ k, k < m → (0 ≤ F k ∧ F k < (n : Int)) ∧ (0 ≤ T k ∧ T k < (n : Int))) (hx : x < n) (h : sdA m F T n x r) (h' : sdA m F T n x r') : r = r' := by
  rcases h with ⟨a, b⟩ | ⟨c, c1, c2, c3⟩ <;> rcases h' with ⟨a', b'⟩ | ⟨c', c1', c2', c3'⟩
  · omega
  · exact absurd ⟨c', c1'⟩ b
  · exact absurd ⟨c, c1⟩ b'
  · have e := sd_eq hF c1 c2 c1' c2' x hx
    rcases c3 with ⟨g, g2⟩ | ⟨g, g2⟩ <;> rcases c3' with ⟨q, q2⟩ | ⟨q, q2⟩
    · omega
    · exact absurd (e.mp g2) q2
    · exact absurd (e.mpr q2) g2
    · omega
/-- the reference: pieces that are done -/
def sdR (m : Nat) (F T : Nat → Int) (n : Nat) (left ones : Int) : Prop := (∀ j, Me left j → j < n) ∧ (∀ i j, joA m F T i j → Me left i → Me left j) ∧ (∀ j, Me ones j → ¬ Me left j) ∧ (∀ k, k < m → ¬ Me left (F k).toNat → (Me ones (F k).toNat ↔ ¬ Me ones (T k).toNat)) ∧ ∀ v, v < n → ¬ Me left v → (∀ u, u < v → ¬ RC (joA m F T) (fun x => x = v) u) → ¬ Me ones v
/-- one piece: what is forced -/
def sdZ (m : Nat) (F T : Nat → Int) (part : Int) (low : Nat) (zero one : Int) : Prop := Me zero low ∧ (∀ j, Me zero j → Me part j) ∧ (∀ j, Me one j → Me part j) ∧ ∀ c : Nat → Prop, twC m F T c → (∀ j, Me zero j → (c j ↔ c low)) ∧ ∀ j, Me one j → (c j ↔ ¬ c low)
theorem sdz_0 {part z : Int} {low : Nat} (hz : ∀ i, Me z i ↔ i = low) (hp : Me part low) : sdZ m F T part low z 0 := ⟨(hz low).mpr rfl, fun j hj => by rw [(hz j).mp hj]; exact hp, fun j hj => absurd hj (Me_0 j), fun c _ => ⟨fun j hj => by rw [(hz j).mp hj], fun j hj => absurd hj (Me_0 j)⟩⟩
/-- nodes beside those of a set are put in -/
def sdPt (be : Nat → Int) (one0 zero one : Int) (v : Int) : Prop := ∀ j, Me one j ↔ Me one0 j ∨ ∃ i : Nat, (i : Int) < v ∧ Me zero i ∧ Me (be i) j
theorem sdp_0 {be : Nat → Int} {one0 zero : Int} : sdPt be one0 zero one0 0 := fun j => ⟨Or.inl, fun h => h.elim id (fun ⟨i, hi, _⟩ => by omega)⟩
theorem sdp_y {be : Nat → Int} {one0 zero one z v : Int} (h : sdPt be one0 zero one v) (h0 : 0 ≤ v) (hm : Me zero v.toNat) (hz : ∀ j, Me z j ↔ Me one j ∨ Me (be v.toNat) j) : sdPt be one0 zero z (v + 1) := by
  intro j
  rw [hz j, h j]
  constructor
  · rintro ((g | ⟨i, i1, i2⟩) | g)
    · exact Or.inl g
    · exact Or.inr ⟨i, by omega, i2⟩
    · exact Or.inr ⟨v.toNat, by omega, hm, g⟩
  · rintro (g | ⟨i, i1, i2, i3⟩)
    · exact Or.inl (Or.inl g)
    · by_cases e : i = v.toNat
      · rw [e] at i3; exact Or.inr i3
      · exact Or.inl (Or.inr ⟨i, by omega, i2, i3⟩)
theorem sdp_n {be : Nat → Int} {one0 zero one z v : Int} (h : sdPt be one0 zero one v) (h0 : 0 ≤ v) (hm : ¬ Me zero v.toNat) (hz : ∀ j, Me z j ↔ Me one j ∨ Me 0 j) : sdPt be one0 zero z (v + 1) := by
  intro j
  rw [hz j, h j]
  constructor
  · rintro ((g | ⟨i, i1, i2⟩) | g)
    · exact Or.inl g
    · exact Or.inr ⟨i, by omega, i2⟩
    · exact absurd g (Me_0 j)
  · rintro (g | ⟨i, i1, i2, i3⟩)
    · exact Or.inl (Or.inl g)
    · by_cases e : i = v.toNat
      · rw [e] at i2; exact absurd i2 hm
      · exact Or.inl (Or.inr ⟨i, by omega, i2, i3⟩)
theorem sdp_end {be : Nat → Int} {one0 zero one v : Int} (hbe : ∀ i, i < 16 → ∀ j, Me (be i) j ↔ joA m F T i j) (hn : n ≤ 16) (hz : ∀ j, Me zero j → j < n) (h : sdPt be one0 zero one v) (hv : v = (n : Int)) (j : Nat) : Me one j ↔ Me one0 j ∨ ∃ i, Me zero i ∧ joA m F T i j := by
  rw [h j]
  constructor
  · rintro (g | ⟨i, i1, i2, i3⟩)
    · exact Or.inl g
    · exact Or.inr ⟨i, i2, (hbe i (by omega) j).mp i3⟩
  · rintro (g | ⟨i, i2, i3⟩)
    · exact Or.inl g
    · have hi := hz i i2
      exact Or.inr ⟨i, by omega, i2, (hbe i (by omega) j).mpr i3⟩
theorem sdz_st {part zero one zero1 one1 : Int} {low : Nat} (hcl : ∀ i j, joA m F T i j → Me part i → Me part j) (h : sdZ m F T part low zero one) (h1 : ∀ j, Me one1 j ↔ Me one j ∨ ∃ i, Me zero i ∧ joA m F T i j) (h2 : ∀ j, Me zero1 j ↔ Me zero j ∨ ∃ i, Me one1 i ∧ joA m F T i j) : sdZ m F T part low zero1 one1 := by
  obtain ⟨q1, q2, q3, q4⟩ := h
  have p1 : ∀ j, Me one1 j → Me part j := fun j hj => by
    rcases (h1 j).mp hj with g | ⟨i, g1, g2⟩
    · exact q3 j g
    · exact hcl i j g2 (q2 i g1)
  refine ⟨(h2 low).mpr (Or.inl q1), fun j hj => ?_, p1, fun c hc => ?_⟩
  · rcases (h2 j).mp hj with g | ⟨i, g1, g2⟩
    · exact q2 j g
    · exact hcl i j g2 (p1 i g1)
  · obtain ⟨c1, c2⟩ := q4 c hc
    have o1 : ∀ j, Me one1 j → (c j ↔ ¬ c low) := fun j hj => by
      rcases (h1 j).mp hj with g | ⟨i, g1, g2⟩
      · exact c2 j g
      · rw [tw_fl hc (jo_sy i j g2), c1 i g1]
    refine ⟨fun j hj => ?_, o1⟩
    rcases (h2 j).mp hj with g | ⟨i, g1, g2⟩
    · exact c1 j g
    · rw [tw_fl hc (jo_sy i j g2), o1 i g1]
      exact ⟨fun g => Classical.byContradiction g, fun g h9 => h9 g⟩
theorem sdz_no {part zero one : Int} {low j : Nat} (h : sdZ m F T part low zero one) (hj : Me zero j ∧ Me one j) : ¬ ∃ c : Nat → Prop, twC m F T c := by
  rintro ⟨c, hc⟩
  obtain ⟨c1, c2⟩ := h.2.2.2 c hc
  have a := c1 j hj.1
  have b := c2 j hj.2
  rw [a] at b
  by_cases g : c low
  · exact (b.mp g) g
  · exact g (b.mpr g)
theorem sdr_0 {left : Int} (hl : ∀ j, Me left j ↔ j < n) (hF : ∀ k, k < m → (0 ≤ F k ∧ F k < (n : Int)) ∧ (0 ≤ T k ∧ T k < (n : Int))) : sdR m F T n left 0 := by
  refine ⟨fun j hj => (hl j).mp hj, fun i j ⟨k, k1, _, _, k4⟩ _ => (hl j).mpr (by have := hF k k1; rcases k4 with ⟨a, b⟩ | ⟨a, b⟩ <;> omega), fun j hj => absurd hj (Me_0 j), fun k hk hn => absurd ((hl _).mpr (by have := hF k hk; omega)) hn, fun v hv hn _ => absurd ((hl v).mpr hv) hn⟩
/-- a piece, as it was found -/
theorem pc_cl {be : Nat → Int} {left part ones : Int} {low : Nat} (hbe : ∀ i, i < 16 → ∀ j, Me (be i) j ↔ joA m F T i j) (hn : n ≤ 16) (h : sdR m F T n left ones) (hlow : Me left low) (hp : ∀ j, Me part j ↔ RC (tgR be left) (fun x => x = low) j) : (∀ j, Me part j → Me left j) ∧ Me part low ∧ ∀ i j, joA m F T i j → Me part i → Me part j := by
  obtain ⟨q1, q2, q3, q4, q5⟩ := h
  have hsub : ∀ j, Me part j → Me left j := fun j hj => (hp j).mp hj (fun x => Me left x) (fun i hi => by rw [hi]; exact hlow) (fun i j _ hij => hij.2)
  refine ⟨hsub, (hp low).mpr (RC_in rfl), fun i j hij hi => ?_⟩
  have hil := hsub i hi
  exact (hp j).mpr (RC_st ((hp i).mp hi) ⟨⟨by have := q1 i hil; omega, (hbe i (by have := q1 i hil; omega) j).mpr hij⟩, q2 i j hij hil⟩)
theorem sdr_st {be : Nat → Int} {left part ones zero one zero0 one0 left1 ones1 : Int} {low : Nat} (hbe : ∀ i, i < 16 → ∀ j, Me (be i) j ↔ joA m F T i j) (hn : n ≤ 16) (hlp : ∀ k, k < m → F k ≠ T k) (hF : ∀ k, k < m → (0 ≤ F k ∧ F k < (n : Int)) ∧ (0 ≤ T k ∧ T k < (n : Int))) (h : sdR m F T n left ones) (hlow : Me left low ∧ ∀ j, j < low → ¬ Me left j) (hp : ∀ j, Me part j ↔ RC (tgR be left) (fun x => x = low) j) (hz : sdZ m F T part low zero one) (h1 : ∀ j, Me one j ↔ Me one0 j ∨ ∃ i, Me zero0 i ∧ joA m F T i j) (h2 : ∀ j, Me zero j ↔ Me zero0 j ∨ ∃ i, Me one i ∧ joA m F T i j) (hu : ∀ j, (Me zero j ∨ Me one j) ↔ (Me zero0 j ∨ Me one0 j)) (hdj : ∀ j, ¬ (Me zero j ∧ Me one j)) (hl1 : ∀ j, Me left1 j ↔ Me left j ∧ ¬ Me part j) (ho1 : ∀ j, Me ones1 j ↔ Me ones j ∨ Me one j) : sdR m F T n left1 ones1 := by
  obtain ⟨p1, p2, p3⟩ := pc_cl hbe hn h hlow.1 hp
  obtain ⟨z1, z2, z3, z4⟩ := hz
  obtain ⟨q1, q2, q3, q4, q5⟩ := h
  have hz0 : ∀ j, Me zero j → Me zero0 j := fun j hj => by
    rcases (hu j).mp (Or.inl hj) with g | g
    · exact g
    · exact absurd ⟨hj, (h1 j).mpr (Or.inl g)⟩ (hdj j)
  have n1 : ∀ i j, Me zero i → joA m F T i j → Me one j := fun i j hi hij => (h1 j).mpr (Or.inr ⟨i, hz0 i hi, hij⟩)
  have n2 : ∀ i j, Me one i → joA m F T i j → Me zero j := fun i j hi hij => (h2 j).mpr (Or.inr ⟨i, hi, hij⟩)
  have all : ∀ j, Me part j → Me zero j ∨ Me one j := fun j hj => (hp j).mp hj (fun x => Me zero x ∨ Me one x) (fun i hi => by rw [hi]; exact Or.inl z1) (fun i j hi hij => by
    have hil : i < 16 := by
      rcases hi with g | g
      · have := q1 i (p1 i (z2 i g)); omega
      · have := q1 i (p1 i (z3 i g)); omega
    have hj := (hbe i hil j).mp hij.1.2
    rcases hi with g | g
    · exact Or.inr (n1 i j g hj)
    · exact Or.inl (n2 i j g hj))
  have jk : ∀ k, k < m → joA m F T (F k).toNat (T k).toNat := fun k hk => by
    have := hF k hk
    exact ⟨k, hk, trivial, hlp k hk, Or.inl ⟨by omega, by omega⟩⟩
  refine ⟨fun j hj => q1 j ((hl1 j).mp hj).1, fun i j hij hi => ?_, fun j hj hl => ?_, fun k hk hnl => ?_, fun v hv hnl hle => ?_⟩
  · obtain ⟨a, b⟩ := (hl1 i).mp hi
    exact (hl1 j).mpr ⟨q2 i j hij a, fun hpj => b (p3 j i (jo_sy i j hij) hpj)⟩
  · obtain ⟨a, b⟩ := (hl1 j).mp hl
    rcases (ho1 j).mp hj with g | g
    · exact q3 j g a
    · exact b (z3 j g)
  · rw [ho1, ho1]
    by_cases hf : Me left (F k).toNat
    · have hpf : Me part (F k).toNat := Classical.byContradiction (fun g => hnl ((hl1 _).mpr ⟨hf, g⟩))
      have hpt := p3 _ _ (jk k hk) hpf
      have no1 : ¬ Me ones (F k).toNat := fun g => q3 _ g hf
      have no2 : ¬ Me ones (T k).toNat := fun g => q3 _ g (p1 _ hpt)
      rcases all _ hpf with g | g
      · have g2 := n1 _ _ g (jk k hk)
        have g3 : ¬ Me one (F k).toNat := fun g4 => hdj _ ⟨g, g4⟩
        exact ⟨fun g4 => absurd g4 (fun g5 => g5.elim no1 g3), fun g4 => absurd (Or.inr g2) g4⟩
      · have g2 := n2 _ _ g (jk k hk)
        have g3 : ¬ Me one (T k).toNat := fun g4 => hdj _ ⟨g2, g4⟩
        exact ⟨fun _ g5 => g5.elim no2 g3, fun _ => Or.inr g⟩
    · have ht : ¬ Me left (T k).toNat := fun g => hf (q2 _ _ (jo_sy _ _ (jk k hk)) g)
      have a := q4 k hk hf
      have b1 : ¬ Me one (F k).toNat := fun g => hf (p1 _ (z3 _ g))
      have b2 : ¬ Me one (T k).toNat := fun g => ht (p1 _ (z3 _ g))
      constructor
      · rintro (g | g)
        · rintro (g2 | g2)
          · exact (a.mp g) g2
          · exact b2 g2
        · exact absurd g b1
      · intro g
        exact Or.inl (a.mpr (fun g2 => g (Or.inl g2)))
  · intro hov
    by_cases hf : Me left v
    · have hpv : Me part v := Classical.byContradiction (fun g => hnl ((hl1 _).mpr ⟨hf, g⟩))
      have hr : RC (joA m F T) (fun x => x = low) v := (hp v).mp hpv (fun x => RC (joA m F T) (fun x => x = low) x ∧ Me left x) (fun i hi => ⟨RC_in hi, by rw [hi]; exact hlow.1⟩) (fun i j hi hij => ⟨RC_st hi.1 ((hbe i (by have := q1 i hi.2; omega) j).mp hij.1.2), hij.2⟩) |>.1
      have hvl : v = low := by
        rcases Nat.lt_trichotomy v low with g | g | g
        · exact absurd hf (hlow.2 v g)
        · exact g
        · exact absurd (RC_sym jo_sy hr) (hle low g)
      rw [hvl] at hov hf
      rcases (ho1 low).mp hov with g | g
      · exact q3 low g hf
      · exact hdj low ⟨z1, g⟩
    · rcases (ho1 v).mp hov with g | g
      · exact q5 v hv hf hle g
      · exact hf (p1 v (z3 v g))
theorem sdr_end {left ones r : Int} (h : sdR m F T n left ones) (hl : left = 0) (hr : (r = 1 ∧ Me ones x) ∨ (r = 0 ∧ ¬ Me ones x)) : sdA m F T n x r := by
  obtain ⟨q1, q2, q3, q4, q5⟩ := h
  have no : ∀ j, ¬ Me left j := fun j hj => by rw [hl] at hj; exact Me_0 j hj
  exact Or.inr ⟨fun j => Me ones j, fun k hk => q4 k hk (no _), fun v hv hle => q5 v hv (no v) hle, hr⟩
theorem sd_loop {k : Nat} (hk : k < m) (h : F k = T k) : ¬ ∃ c : Nat → Prop, twC m F T c := by
  rintro ⟨c, hc⟩
  have h9 := hc k hk
  rw [h] at h9
  by_cases g : c (T k).toNat
  · exact (h9.mp g) g
  · exact g (h9.mpr g)
end SD
/-- the class: nodes that have their side -/
def sdW (m : Nat) (F T : Nat → Int) (n : Nat) (zero one : Int) : Prop := (∀ j, ¬ (Me zero j ∧ Me one j)) ∧ (∀ j, (Me zero j ∨ Me one j) → j < n) ∧ (∀ i j, joA m F T i j → (Me zero i ∨ Me one i) → (Me zero j ∨ Me one j)) ∧ (∀ c : Nat → Prop, twC m F T c → ∀ i j, RC (joA m F T) (fun x => x = i) j → (Me zero i ∨ Me one i) → ((c i ↔ c j) ↔ (Me zero i ↔ Me zero j))) ∧ ∀ v, (Me zero v ∨ Me one v) → (∀ u, u < v → ¬ RC (joA m F T) (fun x => x = v) u) → Me zero v
def sdO (m : Nat) (F T : Nat → Int) (n : Nat) (zero one v : Int) : Prop := sdW m F T n zero one ∧ ∀ u : Nat, (u : Int) < v → Me zero u ∨ Me one u
/-- a search from p -/
def sdB (m : Nat) (F T : Nat → Int) (n : Nat) (zero0 one0 : Int) (p : Nat) (zero one edge t : Int) : Prop := (∀ j, Me zero0 j → Me zero j) ∧ (∀ j, Me one0 j → Me one j) ∧ (∀ j, ¬ (Me zero j ∧ Me one j)) ∧ (∀ j, Me edge j → ¬ Me zero j ∧ ¬ Me one j) ∧ (∀ j, (Me zero j ∨ Me one j ∨ Me edge j) → j < n) ∧ (∀ j, ((Me zero j ∧ ¬ Me zero0 j) ∨ (Me one j ∧ ¬ Me one0 j) ∨ Me edge j) → RC (joA m F T) (fun x => x = p) j) ∧ (∀ c : Nat → Prop, twC m F T c → (∀ j, Me zero j → ¬ Me zero0 j → (c j ↔ c p)) ∧ (∀ j, Me one j → ¬ Me one0 j → (c j ↔ ¬ c p)) ∧ ∀ j, Me edge j → ((t % 2 = 0 → (c j ↔ c p)) ∧ (t % 2 ≠ 0 → (c j ↔ ¬ c p)))) ∧ (∀ i j, joA m F T i j → ((Me zero i ∧ ¬ Me zero0 i) ∨ (Me one i ∧ ¬ Me one0 i)) → Me zero j ∨ Me one j ∨ Me edge j) ∧ ((t = 0 ∧ ∀ j, Me edge j ↔ j = p) ∨ (1 ≤ t ∧ Me zero p ∧ ¬ Me zero0 p)) ∧ t ≤ ((bcn zero 16 : Nat) : Int) + ((bcn one 16 : Nat) : Int)
section SDC
variable {m n x : Nat} {F T : Nat → Int}
theorem bc_dj : ∀ (k : Nat) {a b c : Int}, (∀ j, ¬ (Me a j ∧ Me b j)) → (∀ j, Me c j → ¬ Me a j ∧ ¬ Me b j) → bcn a k + bcn b k + bcn c k ≤ k := by
  intro k
  induction k with
  | zero => intro a b c _ _; exact Nat.le_refl 0
  | succ k ih =>
    intro a b c h1 h2
    have h3 := ih h1 h2
    show (bcn a k + (if a.toNat.testBit k = true then 1 else 0)) + (bcn b k + (if b.toNat.testBit k = true then 1 else 0)) + (bcn c k + (if c.toNat.testBit k = true then 1 else 0)) ≤ k + 1
    by_cases ha : a.toNat.testBit k = true
    · have hb : ¬ b.toNat.testBit k = true := fun h => h1 k ⟨ha, h⟩
      have hc : ¬ c.toNat.testBit k = true := fun h => (h2 k h).1 ha
      rw [if_pos ha, if_neg hb, if_neg hc]; omega
    · by_cases hb : b.toNat.testBit k = true
      · have hc : ¬ c.toNat.testBit k = true := fun h => (h2 k h).2 hb
        rw [if_neg ha, if_pos hb, if_neg hc]; omega
      · rw [if_neg ha, if_neg hb]
        split <;> omega
theorem sdw_0 : sdO m F T n 0 0 0 := ⟨⟨fun j h => Me_0 j h.1, fun j h => h.elim (fun g => absurd g (Me_0 j)) (fun g => absurd g (Me_0 j)), fun i j _ h => h.elim (fun g => absurd g (Me_0 i)) (fun g => absurd g (Me_0 i)), fun c _ i j _ h => h.elim (fun g => absurd g (Me_0 i)) (fun g => absurd g (Me_0 i)), fun v h => h.elim (fun g => absurd g (Me_0 v)) (fun g => absurd g (Me_0 v))⟩, fun u hu => by omega⟩
theorem sdb_0 {zero one z : Int} {p : Nat} (h : sdW m F T n zero one) (hp : p < n) (hn : ¬ (Me zero p ∨ Me one p)) (hz : ∀ i, Me z i ↔ i = p) : sdB m F T n zero one p zero one z 0 := by
  obtain ⟨d1, d2, d3, d4, d5⟩ := h
  refine ⟨fun _ g => g, fun _ g => g, d1, fun j hj => ?_, fun j hj => ?_, fun j hj => ?_, fun c hc => ⟨fun j a b => absurd a b, fun j a b => absurd a b, fun j hj => ?_⟩, fun i j _ hi => ?_, Or.inl ⟨rfl, hz⟩, by omega⟩
  · rw [(hz j).mp hj]; exact ⟨fun g => hn (Or.inl g), fun g => hn (Or.inr g)⟩
  · rcases hj with g | g | g
    · exact d2 j (Or.inl g)
    · exact d2 j (Or.inr g)
    · rw [(hz j).mp g]; exact hp
  · rcases hj with ⟨a, b⟩ | ⟨a, b⟩ | g
    · exact absurd a b
    · exact absurd a b
    · exact RC_in ((hz j).mp g)
  · rw [(hz j).mp hj]
    exact ⟨fun _ => Iff.rfl, fun h9 => absurd rfl h9⟩
  · rcases hi with ⟨a, b⟩ | ⟨a, b⟩ <;> exact absurd a b
/-- one round -/
theorem sdb_st {zero0 one0 zero one edge t zero1 one1 f edge1 : Int} {p : Nat} (hw : sdW m F T n zero0 one0) (hpn : ¬ (Me zero0 p ∨ Me one0 p)) (h : sdB m F T n zero0 one0 p zero one edge t) (h0 : 0 ≤ t) (he0 : 0 < edge) (hb : edge ≤ 65535) (hz : ∀ j, Me zero1 j ↔ Me zero j ∨ (t % 2 = 0 ∧ Me edge j)) (ho : ∀ j, Me one1 j ↔ Me one j ∨ (t % 2 ≠ 0 ∧ Me edge j)) (hf : ∀ j, Me f j ↔ ∃ i, Me edge i ∧ joA m F T i j) (hfn : ∀ j, Me f j → j < n) (he : ∀ j, Me edge1 j ↔ Me f j ∧ ¬ Me zero1 j ∧ ¬ Me one1 j) : sdB m F T n zero0 one0 p zero1 one1 edge1 (t + 1) := by
  obtain ⟨b1, b2, b3, b4, b5, b6, b7, b8, b9, b10⟩ := h
  obtain ⟨d1, d2, d3, d4, d5⟩ := hw
  have eo : ∀ j, Me edge j → ¬ Me zero0 j ∧ ¬ Me one0 j := fun j hj => ⟨fun g => (b4 j hj).1 (b1 j g), fun g => (b4 j hj).2 (b2 j g)⟩
  have vis : ∀ j, (Me zero1 j ∨ Me one1 j) ↔ (Me zero j ∨ Me one j ∨ Me edge j) := fun j => by
    rw [hz j, ho j]
    by_cases ht : t % 2 = 0
    · constructor
      · rintro ((g | g) | (g | g))
        · exact Or.inl g
        · exact Or.inr (Or.inr g.2)
        · exact Or.inr (Or.inl g)
        · exact absurd ht g.1
      · rintro (g | g | g)
        · exact Or.inl (Or.inl g)
        · exact Or.inr (Or.inl g)
        · exact Or.inl (Or.inr ⟨ht, g⟩)
    · constructor
      · rintro ((g | g) | (g | g))
        · exact Or.inl g
        · exact absurd g.1 ht
        · exact Or.inr (Or.inl g)
        · exact Or.inr (Or.inr g.2)
      · rintro (g | g | g)
        · exact Or.inl (Or.inl g)
        · exact Or.inr (Or.inl g)
        · exact Or.inr (Or.inr ⟨ht, g⟩)
  have ef : ∀ j, Me edge1 j → ∃ i, Me edge i ∧ joA m F T i j := fun j hj => (hf j).mp ((he j).mp hj).1
  refine ⟨fun j g => (hz j).mpr (Or.inl (b1 j g)), fun j g => (ho j).mpr (Or.inl (b2 j g)), fun j g => ?_, fun j g => ((he j).mp g).2, fun j g => ?_, fun j g => ?_, fun c hc => ?_, fun i j hij hi => ?_, Or.inr ⟨by omega, ?_, fun g => hpn (Or.inl g)⟩, ?_⟩
  · obtain ⟨g1, g2⟩ := g
    rcases (hz j).mp g1 with a | ⟨a1, a2⟩ <;> rcases (ho j).mp g2 with c | ⟨c1, c2⟩
    · exact b3 j ⟨a, c⟩
    · exact (b4 j c2).1 a
    · exact (b4 j a2).2 c
    · exact c1 a1
  · have : Me zero j ∨ Me one j ∨ Me edge j ∨ Me edge1 j := by
      rcases g with g | g | g
      · rcases (vis j).mp (Or.inl g) with q | q | q
        · exact Or.inl q
        · exact Or.inr (Or.inl q)
        · exact Or.inr (Or.inr (Or.inl q))
      · rcases (vis j).mp (Or.inr g) with q | q | q
        · exact Or.inl q
        · exact Or.inr (Or.inl q)
        · exact Or.inr (Or.inr (Or.inl q))
      · exact Or.inr (Or.inr (Or.inr g))
    rcases this with q | q | q | q
    · exact b5 j (Or.inl q)
    · exact b5 j (Or.inr (Or.inl q))
    · exact b5 j (Or.inr (Or.inr q))
    · exact hfn j ((he j).mp q).1
  · rcases g with ⟨g1, g2⟩ | ⟨g1, g2⟩ | g
    · rcases (hz j).mp g1 with a | ⟨-, a⟩
      · exact b6 j (Or.inl ⟨a, g2⟩)
      · exact b6 j (Or.inr (Or.inr a))
    · rcases (ho j).mp g1 with a | ⟨-, a⟩
      · exact b6 j (Or.inr (Or.inl ⟨a, g2⟩))
      · exact b6 j (Or.inr (Or.inr a))
    · obtain ⟨i, i1, i2⟩ := ef j g
      exact RC_st (b6 i (Or.inr (Or.inr i1))) i2
  · obtain ⟨c1, c2, c3⟩ := b7 c hc
    refine ⟨fun j g1 g2 => ?_, fun j g1 g2 => ?_, fun j g => ?_⟩
    · rcases (hz j).mp g1 with a | ⟨a1, a2⟩
      · exact c1 j a g2
      · exact (c3 j a2).1 a1
    · rcases (ho j).mp g1 with a | ⟨a1, a2⟩
      · exact c2 j a g2
      · exact (c3 j a2).2 a1
    · obtain ⟨i, i1, i2⟩ := ef j g
      have fl := tw_fl hc (jo_sy i j i2)
      obtain ⟨e1, e2⟩ := c3 i i1
      refine ⟨fun ht => ?_, fun ht => ?_⟩
      · rw [fl, e2 (by omega)]
        exact ⟨fun q => Classical.byContradiction q, fun q q2 => q2 q⟩
      · rw [fl, e1 (by omega)]
  · have key : Me zero j ∨ Me one j ∨ Me edge j ∨ Me f j := by
      have hi2 : ((Me zero i ∧ ¬ Me zero0 i) ∨ (Me one i ∧ ¬ Me one0 i)) ∨ Me edge i := by
        rcases hi with ⟨g1, g2⟩ | ⟨g1, g2⟩
        · rcases (hz i).mp g1 with a | ⟨-, a⟩
          · exact Or.inl (Or.inl ⟨a, g2⟩)
          · exact Or.inr a
        · rcases (ho i).mp g1 with a | ⟨-, a⟩
          · exact Or.inl (Or.inr ⟨a, g2⟩)
          · exact Or.inr a
      rcases hi2 with g | g
      · rcases b8 i j hij g with q | q | q
        · exact Or.inl q
        · exact Or.inr (Or.inl q)
        · exact Or.inr (Or.inr (Or.inl q))
      · exact Or.inr (Or.inr (Or.inr ((hf j).mpr ⟨i, g, hij⟩)))
    by_cases hv : Me zero1 j ∨ Me one1 j
    · rcases hv with q | q
      · exact Or.inl q
      · exact Or.inr (Or.inl q)
    · have hf9 : Me f j := by
        rcases key with q | q | q | q
        · exact absurd ((vis j).mpr (Or.inl q)) hv
        · exact absurd ((vis j).mpr (Or.inr (Or.inl q))) hv
        · exact absurd ((vis j).mpr (Or.inr (Or.inr q))) hv
        · exact q
      exact Or.inr (Or.inr ((he j).mpr ⟨hf9, fun q => hv (Or.inl q), fun q => hv (Or.inr q)⟩))
  · rcases b9 with ⟨a, a2⟩ | ⟨-, a, -⟩
    · exact (hz p).mpr (Or.inr ⟨by rw [a]; decide, (a2 p).mpr rfl⟩)
    · exact (hz p).mpr (Or.inl a)
  · obtain ⟨j, hj⟩ := Me_ex he0
    have hj16 := Me_lt hj hb
    by_cases ht : t % 2 = 0
    · have g1 := bcn_lt (s := zero) (t := zero1) (fun i g => (hz i).mpr (Or.inl g)) ((hz j).mpr (Or.inr ⟨ht, hj⟩)) (b4 j hj).1 16 hj16
      have g2 := bcn_mono (s := one) (t := one1) (fun i g => (ho i).mpr (Or.inl g)) 16
      omega
    · have g1 := bcn_lt (s := one) (t := one1) (fun i g => (ho i).mpr (Or.inl g)) ((ho j).mpr (Or.inr ⟨ht, hj⟩)) (b4 j hj).2 16 hj16
      have g2 := bcn_mono (s := zero) (t := zero1) (fun i g => (hz i).mpr (Or.inl g)) 16
      omega
/-- the end of a search -/
theorem sdb_end {zero0 one0 zero one edge t v : Int} (h0 : sdO m F T n zero0 one0 v) (hv0 : 0 ≤ v) (hpn : ¬ (Me zero0 v.toNat ∨ Me one0 v.toNat)) (h : sdB m F T n zero0 one0 v.toNat zero one edge t) (he : 0 ≤ edge ∧ edge ≤ 65535) (hx : edge = 0 ∨ 16 ≤ t) (ht : 1 ≤ t) : sdO m F T n zero one (v + 1) := by
  obtain ⟨⟨d1, d2, d3, d4, d5⟩, d6⟩ := h0
  obtain ⟨b1, b2, b3, b4, b5, b6, b7, b8, b9, b10⟩ := h
  have ez : ∀ j, ¬ Me edge j := by
    rcases hx with g | g
    · intro j hj; rw [g] at hj; exact Me_0 j hj
    · intro j hj
      have q := bc_dj 16 b3 b4
      have q2 := bcn_lt (s := 0) (t := edge) (fun i g => absurd g (Me_0 i)) hj (Me_0 j) 16 (Me_lt hj he.2)
      omega
  have hzp : Me zero v.toNat := by
    rcases b9 with ⟨a, -⟩ | ⟨-, a, -⟩
    · omega
    · exact a
  have oz : ∀ j, (Me zero0 j ∨ Me one0 j) → (Me zero j ↔ Me zero0 j) := fun j hj => ⟨fun g => by
    rcases hj with q | q
    · exact q
    · exact absurd ⟨g, b2 j q⟩ (b3 j), b1 j⟩
  have spl : ∀ j, (Me zero j ∨ Me one j) → (Me zero0 j ∨ Me one0 j) ∨ ((Me zero j ∧ ¬ Me zero0 j) ∨ (Me one j ∧ ¬ Me one0 j)) := fun j hj => by
    by_cases q : Me zero0 j ∨ Me one0 j
    · exact Or.inl q
    · rcases hj with g | g
      · exact Or.inr (Or.inl ⟨g, fun g2 => q (Or.inl g2)⟩)
      · exact Or.inr (Or.inr ⟨g, fun g2 => q (Or.inr g2)⟩)
  have oldc : ∀ i j, RC (joA m F T) (fun x => x = i) j → (Me zero0 i ∨ Me one0 i) → (Me zero0 j ∨ Me one0 j) := fun i j hr hi => hr (fun x => Me zero0 x ∨ Me one0 x) (fun y hy => by rw [hy]; exact hi) (fun a b ha hab => d3 a b hab ha)
  have newc : ∀ i j, joA m F T i j → ((Me zero i ∧ ¬ Me zero0 i) ∨ (Me one i ∧ ¬ Me one0 i)) → Me zero j ∨ Me one j := fun i j hij hi => by
    rcases b8 i j hij hi with g | g | g
    · exact Or.inl g
    · exact Or.inr g
    · exact absurd g (ez j)
  have cl : ∀ i j, joA m F T i j → (Me zero i ∨ Me one i) → (Me zero j ∨ Me one j) := fun i j hij hi => by
    rcases spl i hi with g | g
    · rcases d3 i j hij g with q | q
      · exact Or.inl (b1 j q)
      · exact Or.inr (b2 j q)
    · exact newc i j hij g
  refine ⟨⟨b3, fun j hj => b5 j (hj.elim Or.inl (fun g => Or.inr (Or.inl g))), cl, fun c hc i j hr hi => ?_, fun w hw hle => ?_⟩, fun u hu => ?_⟩
  · rcases spl i hi with g | g
    · have hj := oldc i j hr g
      rw [oz i g, oz j hj]
      exact d4 c hc i j hr g
    · have hno : ¬ (Me zero0 i ∨ Me one0 i) := fun q => by
        rcases g with ⟨a, b⟩ | ⟨a, b⟩
        · rcases q with q | q
          · exact b q
          · exact b3 i ⟨a, b2 i q⟩
        · rcases q with q | q
          · exact b3 i ⟨b1 i q, a⟩
          · exact b q
      have hjn : ¬ (Me zero0 j ∨ Me one0 j) := fun q => hno (oldc j i (RC_sym jo_sy hr) q)
      have hjv : Me zero j ∨ Me one j := hr (fun x => Me zero x ∨ Me one x) (fun y hy => by rw [hy]; exact hi) (fun a b ha hab => cl a b hab ha)
      obtain ⟨c1, c2, -⟩ := b7 c hc
      have key : ∀ y, (Me zero y ∨ Me one y) → ¬ (Me zero0 y ∨ Me one0 y) → (c y ↔ (c v.toNat ↔ Me zero y)) := fun y hy hny => by
        rcases hy with a | a
        · rw [c1 y a (fun q => hny (Or.inl q))]
          exact ⟨fun q => ⟨fun _ => a, fun _ => q⟩, fun q => q.mpr a⟩
        · rw [c2 y a (fun q => hny (Or.inr q))]
          have nz : ¬ Me zero y := fun q => b3 y ⟨q, a⟩
          exact ⟨fun q => ⟨fun q2 => absurd q2 q, fun q2 => absurd q2 nz⟩, fun q q2 => nz (q.mp q2)⟩
      rw [key i hi hno, key j hjv hjn]
      by_cases q1 : c v.toNat <;> by_cases q2 : Me zero i <;> by_cases q3 : Me zero j <;> simp [q1, q2, q3]
  · rcases spl w hw with g | g
    · have := d5 w g hle
      exact b1 w this
    · have hr := b6 w (g.elim Or.inl (fun q => Or.inr (Or.inl q)))
      have hwv : w = v.toNat := by
        rcases Nat.lt_trichotomy w v.toNat with q | q | q
        · exfalso
          have hold := d6 w (by omega)
          rcases g with ⟨a, b⟩ | ⟨a, b⟩
          · rcases hold with e | e
            · exact b e
            · exact b3 w ⟨a, b2 w e⟩
          · rcases hold with e | e
            · exact b3 w ⟨b1 w e, a⟩
            · exact b e
        · exact q
        · exact absurd (RC_sym jo_sy hr) (hle _ q)
      rw [hwv]; exact hzp
  · by_cases e : u = v.toNat
    · rw [e]; exact Or.inl hzp
    · rcases d6 u (by omega) with g | g
      · exact Or.inl (b1 u g)
      · exact Or.inr (b2 u g)
theorem sdo_sk {zero one v : Int} (h : sdO m F T n zero one v) (h0 : 0 ≤ v) (hv : Me zero v.toNat ∨ Me one v.toNat) : sdO m F T n zero one (v + 1) := ⟨h.1, fun u hu => by
  by_cases e : u = v.toNat
  · rw [e]; exact hv
  · exact h.2 u (by omega)⟩
theorem sdo_no {zero one v : Int} {k : Nat} (hF : ∀ k, k < m → (0 ≤ F k ∧ F k < (n : Int)) ∧ (0 ≤ T k ∧ T k < (n : Int))) (h : sdO m F T n zero one v) (hv : v = (n : Int)) (hk : k < m) (he : Me zero (F k).toNat ↔ Me zero (T k).toNat) : ¬ ∃ c : Nat → Prop, twC m F T c := by
  rintro ⟨c, hc⟩
  have hb := hF k hk
  have hr : RC (joA m F T) (fun x => x = (F k).toNat) (T k).toNat := by
    by_cases e : F k = T k
    · rw [e]; exact RC_in rfl
    · exact RC_st (RC_in rfl) ⟨k, hk, trivial, e, Or.inl ⟨by omega, by omega⟩⟩
  have h9 := (h.1.2.2.2.1 c hc _ _ hr (h.2 _ (by omega))).mpr he
  have h8 := hc k hk
  rw [h9] at h8
  by_cases g : c (T k).toNat
  · exact (h8.mp g) g
  · exact g (h8.mpr g)
theorem sdo_end {zero one v r : Int} (hF : ∀ k, k < m → (0 ≤ F k ∧ F k < (n : Int)) ∧ (0 ≤ T k ∧ T k < (n : Int))) (h : sdO m F T n zero one v) (hv : v = (n : Int)) (hk : ∀ k, k < m → ¬ (Me zero (F k).toNat ↔ Me zero (T k).toNat)) (hr : (r = 1 ∧ Me one x) ∨ (r = 0 ∧ ¬ Me one x)) : sdA m F T n x r := by
  obtain ⟨⟨d1, d2, d3, d4, d5⟩, d6⟩ := h
  have vz : ∀ j, j < n → (Me one j ↔ ¬ Me zero j) := fun j hj => ⟨fun g q => d1 j ⟨q, g⟩, fun g => by
    rcases d6 j (by omega) with q | q
    · exact absurd q g
    · exact q⟩
  refine Or.inr ⟨fun j => Me one j, fun k hk9 => ?_, fun v hv hle g => ?_, hr⟩
  · have hb := hF k hk9
    show Me one (F k).toNat ↔ ¬ Me one (T k).toNat
    rw [vz _ (by omega), vz _ (by omega)]
    have := hk k hk9
    by_cases q1 : Me zero (F k).toNat <;> by_cases q2 : Me zero (T k).toNat <;> simp [q1, q2] at this ⊢
  · exact d1 v ⟨d5 v (d6 v (by omega)) hle, g⟩
end SDC
def sdQ (m : Nat) (F T : Nat → Int) (n : Nat) (zero0 one0 : Int) (p : Nat) (zero one edge t : Int) : Prop := ((Me zero0 p ∨ Me one0 p) ∧ zero = zero0 ∧ one = one0 ∧ edge = 0) ∨ (¬ (Me zero0 p ∨ Me one0 p) ∧ sdB m F T n zero0 one0 p zero one edge t)
theorem sdq_st {m n : Nat} {F T : Nat → Int} {zero0 one0 zero one edge t zero1 one1 f edge1 v : Int} {p : Nat} (hw : sdO m F T n zero0 one0 v) (h : sdQ m F T n zero0 one0 p zero one edge t) (h0 : 0 ≤ t) (he0 : 0 < edge) (hb : edge ≤ 65535) (hz : ∀ j, Me zero1 j ↔ Me zero j ∨ (t % 2 = 0 ∧ Me edge j)) (ho : ∀ j, Me one1 j ↔ Me one j ∨ (t % 2 ≠ 0 ∧ Me edge j)) (hf : (∀ j, Me f j ↔ ∃ i, Me edge i ∧ joA m F T i j) ∧ ∀ j, Me f j → j < n) (he : ∀ j, Me edge1 j ↔ Me f j ∧ ¬ Me zero1 j ∧ ¬ Me one1 j) : sdQ m F T n zero0 one0 p zero1 one1 edge1 (t + 1) := by
  rcases h with ⟨-, -, -, a⟩ | ⟨a, b⟩
  · omega
  · exact Or.inr ⟨a, sdb_st hw.1 a b h0 he0 hb hz ho hf.1 hf.2 he⟩
theorem sdq_end {m n : Nat} {F T : Nat → Int} {zero0 one0 zero one edge t v : Int} (h0 : sdO m F T n zero0 one0 v) (hv : 0 ≤ v) (h : sdQ m F T n zero0 one0 v.toNat zero one edge t) (he : 0 ≤ edge ∧ edge ≤ 65535) (ht : 0 ≤ t) (hx : edge = 0 ∨ 16 ≤ t) : sdO m F T n zero one (v + 1) := by
  rcases h with ⟨a, b, c, d⟩ | ⟨a, b⟩
  · rw [b, c]; exact sdo_sk h0 hv a
  · refine sdb_end h0 hv a b he hx ?_
    obtain ⟨-, -, -, -, -, -, -, -, b9, -⟩ := b
    rcases b9 with ⟨g1, g2⟩ | ⟨g1, -⟩
    · rcases hx with g | g
      · have := (g2 v.toNat).mpr rfl
        rw [g] at this
        exact absurd this (Me_0 _)
      · omega
    · exact g1
theorem sp_jo {m n : Nat} {F T : Nat → Int} {Jo : Nat → Int} {edge f : Int} (hs : spQ Jo edge f (n : Int)) (hj : rwP Jo n (joX m F T (fun _ => True))) : (∀ j, Me f j ↔ ∃ i, Me edge i ∧ joA m F T i j) ∧ ∀ j, Me f j → j < n := by
  have key : ∀ j, Me f j ↔ ∃ i, Me edge i ∧ joA m F T i j := fun j => by
    rw [hs j]
    constructor
    · rintro ⟨w, g1, g2, g3⟩
      exact ⟨w, g2, (hj.1 w (by omega) j).mp g3⟩
    · rintro ⟨w, g2, g3⟩
      have := hj.2 w j g3
      exact ⟨w, by omega, g2, (hj.1 w (by omega) j).mpr g3⟩
  refine ⟨key, fun j hm => ?_⟩
  obtain ⟨i, -, h2⟩ := (key j).mp hm
  exact (hj.2 i j h2).2
def sdK (F T : Nat → Int) (zero k : Int) : Prop := ∀ i : Nat, (i : Int) < k → ¬ (Me zero (F i).toNat ↔ Me zero (T i).toNat)
theorem sdk_0 {F T : Nat → Int} {zero : Int} : sdK F T zero 0 := fun i hi => by omega
theorem sdk_up {F T : Nat → Int} {zero k : Int} (h : sdK F T zero k) (h0 : 0 ≤ k) (hn : ¬ (Me zero (F k.toNat).toNat ↔ Me zero (T k.toNat).toNat)) : sdK F T zero (k + 1) := by
  intro i hi
  by_cases e : i = k.toNat
  · rw [e]; exact hn
  · exact h i (by omega)
theorem bit_eq {a b : Int} {P Q : Prop} (ha : a ≠ 0 ↔ P) (hb : b ≠ 0 ↔ Q) (e : a = b) : P ↔ Q := by rw [← ha, ← hb, e]
theorem bit_ne {a b : Int} {P Q : Prop} (ha : a ≠ 0 ↔ P) (hb : b ≠ 0 ↔ Q) (e : a ≠ b) (h1 : 0 ≤ a ∧ a ≤ 1) (h2 : 0 ≤ b ∧ b ≤ 1) : ¬ (P ↔ Q) := by
  rw [← ha, ← hb]
  intro h
  by_cases g : a = 0
  · exact (h.mpr (by omega)) g
  · exact (h.mp g) (by omega)
theorem bit_v {a : Int} {P : Prop} (ha : a ≠ 0 ↔ P) (h1 : 0 ≤ a ∧ a ≤ 1) : (a = 1 ∧ P) ∨ (a = 0 ∧ ¬ P) := by
  by_cases g : a = 0
  · exact Or.inr ⟨g, fun h => (ha.mpr h) g⟩
  · exact Or.inl ⟨by omega, ha.mp g⟩
theorem irem2_e {x : Int} (h : 0 ≤ x ∧ x ≤ 16) : iv x - iv x / iv 2 * iv 2 = iv (x % 2) := by
  rcases (show x = 0 ∨ x = 1 ∨ x = 2 ∨ x = 3 ∨ x = 4 ∨ x = 5 ∨ x = 6 ∨ x = 7 ∨ x = 8 ∨ x = 9 ∨ x = 10 ∨ x = 11 ∨ x = 12 ∨ x = 13 ∨ x = 14 ∨ x = 15 ∨ x = 16 by omega) with h | h | h | h | h | h | h | h | h | h | h | h | h | h | h | h | h <;> subst h <;> decide
set_option maxHeartbeats 4000000 in
set_option maxRecDepth 100000 in
theorem c_X8_sidex {D : va_G} {cI cJ cZ cT : ClassId} {lo b L : Nat} {xs : Nat → Int32} {hp : MH} {n d : Nat} {Γ : TG} {ga : Nat} {gF : Nat} {gT : Nat} {gW : Nat} {gC : Nat} {gTl : Nat} {gHd : Nat} {gBy : Nat} {gOu : Nat} {gIn : Nat} {gJo : Nat} {gn : Nat} {gm : Nat} {gq : Nat} {gdr : Int} {F T W C Tl Hd By Ou In Jo : Nat → Int} {x1 : Int} (hd0 : 1 ≤ d) (hg : TyG Γ cI cJ cZ ga gF gT gW gC gTl gHd gBy gOu gIn gJo gn gm gq gdr) (hxg : XG Γ cI gF gT gW gC gTl gHd gBy gOu gIn gJo gn gm gq F T W C Tl Hd By Ou In Jo) (ht : Tw Γ hp) (hx1 : 0 ≤ x1 ∧ x1 ≤ 15) (hxn : x1 < (gn : Int)) (hjo : rwP Jo gn (joX gm F T (fun _ => True))) : Mt (gG D cI cJ cZ cT lo b L xs) mX8_side d 0 0 [.ref ga, .int (iv x1)] hp n (pI Γ n (fun r => ((-1 ≤ r ∧ r ≤ 1) ∧ sdA gm F T gn (Int.toNat x1) r))) := by
  refine Mt.of rfl (Nat.le_of_ble_eq_true rfl) ?_
  refine Rn.pick (lv' := [(0, .ref ga), (1, .int (iv x1))]) [0, 1] rfl ?_
  obtain ⟨hg_O, hg_from, hg_to, hg_weight, hg_cost, hg_tail, hg_head, hg_by, hg_out, hg_in, hg_joined, hg_b⟩ := id hg
  obtain ⟨⟨hxg_F, hxg_T, hxg_W, hxg_C, hxg_Tl, hxg_Hd, hxg_By, hxg_Ou, hxg_In, hxg_Jo⟩, ⟨hrg_F, hrg_T, hrg_W, hrg_C, hrg_Tl, hrg_Hd, hrg_By, hrg_Ou, hrg_In, hrg_Jo⟩, houg⟩ := id hxg
  have hgb := hg_b
  have hFT : ∀ k, k < gm → (0 ≤ F k ∧ F k < (gn : Int)) ∧ (0 ≤ T k ∧ T k < (gn : Int)) := fun k hk => by have h1 := hrg_F k hk; have h2 := hrg_T k hk; omega
  refine r_iconst (pc := 0) (v := iv 0) dX8_side_0 (by decide) ?_
  refine r_istore_n (pc := 1) (lv' := [(2, .int (iv 0)), (0, .ref ga), (1, .int (iv x1))]) dX8_side_1 (i := 2) rfl (by decide) rfl ?_
  refine r_iconst (pc := 2) (v := iv 0) dX8_side_2 (by decide) ?_
  refine r_istore_n (pc := 3) (lv' := [(3, .int (iv 0)), (2, .int (iv 0)), (0, .ref ga), (1, .int (iv x1))]) dX8_side_3 (i := 3) rfl (by decide) rfl ?_
  refine r_iconst (pc := 4) (v := iv 0) dX8_side_4 (by decide) ?_
  refine r_istore (pc := 5) (lv' := [(4, .int (iv 0)), (3, .int (iv 0)), (2, .int (iv 0)), (0, .ref ga), (1, .int (iv x1))]) dX8_side_5 (by decide) rfl ?_
  have B7 : ∀ k : Nat, ∀ hp7 : MH, Tw Γ hp7 → ∀  (v7_2 : Int) (v7_3 : Int) (v7_4 : Int), 0 ≤ v7_2 ∧ v7_2 ≤ 65535 ∧ 0 ≤ v7_3 ∧ v7_3 ≤ 65535 ∧ 0 ≤ v7_4 ∧ v7_4 ≤ 16 ∧ (v7_4 ≤ (gn : Int)) ∧ (sdO gm F T gn v7_2 v7_3 v7_4) → 16 - v7_4 ≤ (k : Int) → Rn (gG D cI cJ cZ cT lo b L xs) mX8_side d 7 [(0, .ref ga), (1, .int (iv x1)), (2, .int (iv v7_2)), (3, .int (iv v7_3)), (4, .int (iv v7_4))] [] hp7 n 0 0 (pI Γ n (fun r => ((-1 ≤ r ∧ r ≤ 1) ∧ sdA gm F T gn (Int.toNat x1) r))) := by
    refine lpS _ ?_
    intro k7 ih7 hp7 ht7 v7_2 v7_3 v7_4 hf7 hm7
    obtain ⟨hf7_0, hf7_1, hf7_2, hf7_3, hf7_4, hf7_5, hf7_6, ha7_7⟩ := hf7
    refine r_iload (pc := 7) dX8_side_7 rfl ?_
    refine r_aload_n (pc := 9) dX8_side_9 (i := 0) rfl rfl ?_
    refine t_getE (pc := 10) (.int (iv (gn : Int))) ht7 hg_O fX8_35 dX8_side_10 rfl ?_
    refine t_icmp_ge (pc := 13) (tgt := 115) dX8_side_13 (by decide) (by omega) (by omega) (fun c13 => ?_) (fun c13 => ?_)
    · refine r_iconst (pc := 115) (v := iv 0) dX8_side_115 (by decide) ?_
      refine r_istore (pc := 116) (lv' := [(4, .int (iv 0)), (0, .ref ga), (1, .int (iv x1)), (2, .int (iv v7_2)), (3, .int (iv v7_3))]) dX8_side_116 (by decide) rfl ?_
      have B118 : ∀ k : Nat, ∀ hp118 : MH, Tw Γ hp118 → ∀  (v118_4 : Int), 0 ≤ v118_4 ∧ v118_4 ≤ 60 ∧ (v118_4 ≤ (gm : Int)) ∧ (sdK F T v7_2 v118_4) → 60 - v118_4 ≤ (k : Int) → Rn (gG D cI cJ cZ cT lo b L xs) mX8_side d 118 [(0, .ref ga), (1, .int (iv x1)), (2, .int (iv v7_2)), (3, .int (iv v7_3)), (4, .int (iv v118_4))] [] hp118 n 0 0 (pI Γ n (fun r => ((-1 ≤ r ∧ r ≤ 1) ∧ sdA gm F T gn (Int.toNat x1) r))) := by
        refine lpS _ ?_
        intro k118 ih118 hp118 ht118 v118_4 hf118 hm118
        obtain ⟨hf118_0, hf118_1, hf118_2, ha118_3⟩ := hf118
        refine r_iload (pc := 118) dX8_side_118 rfl ?_
        refine r_aload_n (pc := 120) dX8_side_120 (i := 0) rfl rfl ?_
        refine t_getE (pc := 121) (.int (iv (gm : Int))) ht118 hg_O fX8_31 dX8_side_121 rfl ?_
        refine t_icmp_ge (pc := 124) (tgt := 160) dX8_side_124 (by decide) (by omega) (by omega) (fun c124 => ?_) (fun c124 => ?_)
        · refine r_iload_n (pc := 160) dX8_side_160 (i := 3) rfl rfl ?_
          refine r_iload_n (pc := 161) dX8_side_161 (i := 1) rfl rfl ?_
          have hq162_1 := shr_le (Int.toNat v7_3) (Int.toNat x1)
          refine r_ishr (pc := 162) (v := iv ((Int.toNat v7_3 >>> Int.toNat x1 : Nat) : Int)) dX8_side_162 (shr_e (by omega) (by omega)) ?_
          refine r_iconst (pc := 163) (v := iv 1) dX8_side_163 (by decide) ?_
          refine r_iand (pc := 164) (v := iv (((Int.toNat v7_3 >>> Int.toNat x1 : Nat) : Int) % 2)) dX8_side_164 (and1_e _ (by omega)) ?_
          have mb164 := @Me_bit v7_3 x1
          exact r_iret (pc := 165) dX8_side_165 rfl ⟨rfl, ht118, _, rfl, by exact ⟨by omega, sdo_end hFT (by assumption : sdO gm F T gn v7_2 v7_3 v7_4) (by omega) (fun k hk => (by assumption : sdK F T v7_2 v118_4) k (by omega)) (bit_v mb164 (by omega))⟩⟩
        · refine r_iload_n (pc := 127) dX8_side_127 (i := 2) rfl rfl ?_
          refine r_aload_n (pc := 128) dX8_side_128 (i := 0) rfl rfl ?_
          refine t_getE (pc := 129) (.ref gF) ht118 hg_O fX8_72 dX8_side_129 rfl ?_
          refine r_iload (pc := 132) dX8_side_132 rfl ?_
          refine t_ialdX (pc := 134) (t0 := 0) ht118 hxg_F dX8_side_134 rfl (by omega) (by omega) (fun b2 => ?_)
          have rb2 := (show Rfx gm 0 ((gn : Int) - 1) F by assumption) (Int.toNat v118_4) (by omega)
          have hq135_3 := shr_le (Int.toNat v7_2) (Int.toNat (F (Int.toNat v118_4)))
          refine r_ishr (pc := 135) (v := iv ((Int.toNat v7_2 >>> Int.toNat (F (Int.toNat v118_4)) : Nat) : Int)) dX8_side_135 (shr_e (by omega) (by omega)) ?_
          refine r_iconst (pc := 136) (v := iv 1) dX8_side_136 (by decide) ?_
          refine r_iand (pc := 137) (v := iv (((Int.toNat v7_2 >>> Int.toNat (F (Int.toNat v118_4)) : Nat) : Int) % 2)) dX8_side_137 (and1_e _ (by omega)) ?_
          have mb137 := @Me_bit v7_2 (F (Int.toNat v118_4))
          refine r_iload_n (pc := 138) dX8_side_138 (i := 2) rfl rfl ?_
          refine r_aload_n (pc := 139) dX8_side_139 (i := 0) rfl rfl ?_
          refine t_getE (pc := 140) (.ref gT) ht118 hg_O fX8_75 dX8_side_140 rfl ?_
          refine r_iload (pc := 143) dX8_side_143 rfl ?_
          refine t_ialdX (pc := 145) (t0 := 0) ht118 hxg_T dX8_side_145 rfl (by omega) (by omega) (fun b4 => ?_)
          have rb4 := (show Rfx gm 0 ((gn : Int) - 1) T by assumption) (Int.toNat v118_4) (by omega)
          have hq146_5 := shr_le (Int.toNat v7_2) (Int.toNat (T (Int.toNat v118_4)))
          refine r_ishr (pc := 146) (v := iv ((Int.toNat v7_2 >>> Int.toNat (T (Int.toNat v118_4)) : Nat) : Int)) dX8_side_146 (shr_e (by omega) (by omega)) ?_
          refine r_iconst (pc := 147) (v := iv 1) dX8_side_147 (by decide) ?_
          refine r_iand (pc := 148) (v := iv (((Int.toNat v7_2 >>> Int.toNat (T (Int.toNat v118_4)) : Nat) : Int) % 2)) dX8_side_148 (and1_e _ (by omega)) ?_
          have mb148 := @Me_bit v7_2 (T (Int.toNat v118_4))
          refine t_icmp_ne (pc := 149) (tgt := 154) dX8_side_149 (by decide) (by omega) (by omega) (fun c149 => ?_) (fun c149 => ?_)
          · have hsk := sdk_up (by assumption : sdK F T v7_2 v118_4) (by omega) (bit_ne mb137 mb148 (by omega) (by omega) (by omega))
            refine r_iinc (pc := 154) (v := iv (v118_4 + 1)) (lv' := [(4, .int (iv (v118_4 + 1))), (0, .ref ga), (1, .int (iv x1)), (2, .int (iv v7_2)), (3, .int (iv v7_3))]) dX8_side_154 rfl (iv_add _ _) (by decide) rfl ?_
            refine r_goto (pc := 157) (tgt := 118) dX8_side_157 (by decide) ?_
            refine Rn.pick (lv' := [(0, .ref ga), (1, .int (iv x1)), (2, .int (iv v7_2)), (3, .int (iv v7_3)), (4, .int (iv (v118_4 + 1)))]) [1, 2, 3, 4, 0] rfl ?_
            exact ih118 (Int.toNat (60 - (v118_4 + 1))) (by omega) _ ht118 (v118_4 + 1) ⟨by omega, by omega, by omega, by (first | exact hsk | exact sdk_0)⟩ (by omega)
          · have heq := bit_eq mb137 mb148 (by omega)
            refine r_iconst (pc := 152) (v := iv (-1)) dX8_side_152 (by decide) ?_
            exact r_iret (pc := 153) dX8_side_153 rfl ⟨rfl, ht118, _, rfl, by exact ⟨by omega, Or.inl ⟨rfl, sdo_no (k := Int.toNat v118_4) hFT (by assumption : sdO gm F T gn v7_2 v7_3 v7_4) (by omega) (by omega) heq⟩⟩⟩
      refine Rn.pick (lv' := [(0, .ref ga), (1, .int (iv x1)), (2, .int (iv v7_2)), (3, .int (iv v7_3)), (4, .int (iv 0))]) [1, 2, 3, 4, 0] rfl ?_
      exact B118 (Int.toNat (60 - 0)) _ ht7 0 ⟨by omega, by omega, by omega, by (first | exact hsk | exact sdk_0)⟩ (by omega)
    · refine r_iload_n (pc := 16) dX8_side_16 (i := 2) rfl rfl ?_
      refine r_iload_n (pc := 17) dX8_side_17 (i := 3) rfl rfl ?_
      obtain ⟨z6, hz6, bz6⟩ := or_2 16 v7_2 v7_3 (by omega) (by omega) (by decide)
      refine r_ior (pc := 18) (v := iv z6) dX8_side_18 hz6 ?_
      have mez6 := Me_or hz6 (by omega) (by omega) (by omega)
      have hvis := mez6
      refine r_iload (pc := 19) dX8_side_19 rfl ?_
      have hq21_7 := shr_le (Int.toNat z6) (Int.toNat v7_4)
      refine r_ishr (pc := 21) (v := iv ((Int.toNat z6 >>> Int.toNat v7_4 : Nat) : Int)) dX8_side_21 (shr_e (by omega) (by omega)) ?_
      refine r_iconst (pc := 22) (v := iv 1) dX8_side_22 (by decide) ?_
      refine r_iand (pc := 23) (v := iv (((Int.toNat z6 >>> Int.toNat v7_4 : Nat) : Int) % 2)) dX8_side_23 (and1_e _ (by omega)) ?_
      have mb23 := @Me_bit z6 v7_4
      refine t_if_ne (pc := 24) (tgt := 34) dX8_side_24 (by decide) (by omega) (fun c24 => ?_) (fun c24 => ?_)
      · have pm24 : Me z6 (Int.toNat v7_4) := Me_bit.mp (by omega)
        have hq0 : sdQ gm F T gn v7_2 v7_3 (Int.toNat v7_4) v7_2 v7_3 0 0 := Or.inl ⟨(hvis _).mp pm24, rfl, rfl, rfl⟩
        refine r_iconst (pc := 34) (v := iv 0) dX8_side_34 (by decide) ?_
        refine r_istore (pc := 35) (lv' := [(5, .int (iv 0)), (0, .ref ga), (1, .int (iv x1)), (2, .int (iv v7_2)), (3, .int (iv v7_3)), (4, .int (iv v7_4))]) dX8_side_35 (by decide) rfl ?_
        refine r_iconst (pc := 37) (v := iv 0) dX8_side_37 (by decide) ?_
        refine r_istore (pc := 38) (lv' := [(6, .int (iv 0)), (5, .int (iv 0)), (0, .ref ga), (1, .int (iv x1)), (2, .int (iv v7_2)), (3, .int (iv v7_3)), (4, .int (iv v7_4))]) dX8_side_38 (by decide) rfl ?_
        have B40 : ∀ k : Nat, ∀ hp40 : MH, Tw Γ hp40 → ∀  (v40_2 : Int) (v40_3 : Int) (v40_5 : Int) (v40_6 : Int), 0 ≤ v40_2 ∧ v40_2 ≤ 65535 ∧ v7_2 ≤ v40_2 ∧ 0 ≤ v40_3 ∧ v40_3 ≤ 65535 ∧ v7_3 ≤ v40_3 ∧ 0 ≤ v40_5 ∧ v40_5 ≤ 65535 ∧ 0 ≤ v40_6 ∧ v40_6 ≤ 16 ∧ (sdQ gm F T gn v7_2 v7_3 (Int.toNat v7_4) v40_2 v40_3 v40_5 v40_6) → 16 - v40_6 ≤ (k : Int) → Rn (gG D cI cJ cZ cT lo b L xs) mX8_side d 40 [(0, .ref ga), (1, .int (iv x1)), (2, .int (iv v40_2)), (3, .int (iv v40_3)), (4, .int (iv v7_4)), (5, .int (iv v40_5)), (6, .int (iv v40_6))] [] hp40 n 0 0 (pI Γ n (fun r => ((-1 ≤ r ∧ r ≤ 1) ∧ sdA gm F T gn (Int.toNat x1) r))) := by
          refine lpS _ ?_
          intro k40 ih40 hp40 ht40 v40_2 v40_3 v40_5 v40_6 hf40 hm40
          obtain ⟨hf40_0, hf40_1, hf40_2, hf40_3, hf40_4, hf40_5, hf40_6, hf40_7, hf40_8, hf40_9, ha40_10⟩ := hf40
          refine r_iload (pc := 40) dX8_side_40 rfl ?_
          refine r_bipush (pc := 42) (v := iv 16) dX8_side_42 (by decide) ?_
          refine t_icmp_ge (pc := 44) (tgt := 109) dX8_side_44 (by decide) (by omega) (by omega) (fun c44 => ?_) (fun c44 => ?_)
          · refine r_iinc (pc := 109) (v := iv (v7_4 + 1)) (lv' := [(4, .int (iv (v7_4 + 1))), (0, .ref ga), (1, .int (iv x1)), (2, .int (iv v40_2)), (3, .int (iv v40_3)), (5, .int (iv v40_5)), (6, .int (iv v40_6))]) dX8_side_109 rfl (iv_add _ _) (by decide) rfl ?_
            refine r_goto (pc := 112) (tgt := 7) dX8_side_112 (by decide) ?_
            refine Rn.pick (lv' := [(0, .ref ga), (1, .int (iv x1)), (2, .int (iv v40_2)), (3, .int (iv v40_3)), (4, .int (iv (v7_4 + 1)))]) [1, 2, 3, 4, 0] rfl ?_
            exact ih7 (Int.toNat (16 - (v7_4 + 1))) (by omega) _ ht40 v40_2 v40_3 (v7_4 + 1) ⟨by omega, by omega, by omega, by omega, by omega, by omega, by omega, by (first | exact sdw_0 | exact sdq_end (by assumption : sdO gm F T gn v7_2 v7_3 v7_4) (by omega) (by assumption : sdQ gm F T gn v7_2 v7_3 (Int.toNat v7_4) v40_2 v40_3 v40_5 v40_6) (by omega) (by omega) (by omega))⟩ (by omega)
          · refine r_iload (pc := 47) dX8_side_47 rfl ?_
            refine t_if_eq (pc := 49) (tgt := 109) dX8_side_49 (by decide) (by omega) (fun c49 => ?_) (fun c49 => ?_)
            · refine r_iinc (pc := 109) (v := iv (v7_4 + 1)) (lv' := [(4, .int (iv (v7_4 + 1))), (0, .ref ga), (1, .int (iv x1)), (2, .int (iv v40_2)), (3, .int (iv v40_3)), (5, .int (iv v40_5)), (6, .int (iv v40_6))]) dX8_side_109 rfl (iv_add _ _) (by decide) rfl ?_
              refine r_goto (pc := 112) (tgt := 7) dX8_side_112 (by decide) ?_
              refine Rn.pick (lv' := [(0, .ref ga), (1, .int (iv x1)), (2, .int (iv v40_2)), (3, .int (iv v40_3)), (4, .int (iv (v7_4 + 1)))]) [1, 2, 3, 4, 0] rfl ?_
              exact ih7 (Int.toNat (16 - (v7_4 + 1))) (by omega) _ ht40 v40_2 v40_3 (v7_4 + 1) ⟨by omega, by omega, by omega, by omega, by omega, by omega, by omega, by (first | exact sdw_0 | exact sdq_end (by assumption : sdO gm F T gn v7_2 v7_3 v7_4) (by omega) (by assumption : sdQ gm F T gn v7_2 v7_3 (Int.toNat v7_4) v40_2 v40_3 v40_5 v40_6) (by omega) (by omega) (by omega))⟩ (by omega)
            · refine r_iload_n (pc := 52) dX8_side_52 (i := 2) rfl rfl ?_
              refine r_iload (pc := 53) dX8_side_53 rfl ?_
              refine r_iconst (pc := 55) (v := iv 2) dX8_side_55 (by decide) ?_
              refine r_irem (pc := 56) (v := iv (v40_6 % 2)) dX8_side_56 (by decide) (irem2_e (by omega)) ?_
              refine t_if_ne (pc := 57) (tgt := 65) dX8_side_57 (by decide) (by omega) (fun c57 => ?_) (fun c57 => ?_)
              · refine r_iconst (pc := 65) (v := iv 0) dX8_side_65 (by decide) ?_
                obtain ⟨z8, hz8, bz8⟩ := or_2 16 v40_2 0 (by omega) (by omega) (by decide)
                refine r_ior (pc := 66) (v := iv z8) dX8_side_66 hz8 ?_
                have mez8 := Me_or hz8 (by omega) (by omega) (by omega)
                have hzz9 : ∀ j, Me z8 j ↔ Me v40_2 j ∨ (v40_6 % 2 = 0 ∧ Me v40_5 j) := fun j => by
                  rw [mez8 j]
                  exact ⟨fun g => g.elim Or.inl (fun g => absurd g (Me_0 j)), fun g => g.elim Or.inl (fun g => absurd g.1 (by omega))⟩
                refine r_istore_n (pc := 67) (lv' := [(2, .int (iv z8)), (0, .ref ga), (1, .int (iv x1)), (3, .int (iv v40_3)), (4, .int (iv v7_4)), (5, .int (iv v40_5)), (6, .int (iv v40_6))]) dX8_side_67 (i := 2) rfl (by decide) rfl ?_
                refine r_iload_n (pc := 68) dX8_side_68 (i := 3) rfl rfl ?_
                refine r_iload (pc := 69) dX8_side_69 rfl ?_
                refine r_iconst (pc := 71) (v := iv 2) dX8_side_71 (by decide) ?_
                refine r_irem (pc := 72) (v := iv (v40_6 % 2)) dX8_side_72 (by decide) (irem2_e (by omega)) ?_
                refine t_if_ne (pc := 73) (tgt := 80) dX8_side_73 (by decide) (by omega) (fun c73 => ?_) (fun c73 => ?_)
                · refine r_iload (pc := 80) dX8_side_80 rfl ?_
                  obtain ⟨z9, hz9, bz9⟩ := or_2 16 v40_3 v40_5 (by omega) (by omega) (by decide)
                  refine r_ior (pc := 82) (v := iv z9) dX8_side_82 hz9 ?_
                  have mez9 := Me_or hz9 (by omega) (by omega) (by omega)
                  have hoo9 : ∀ j, Me z9 j ↔ Me v40_3 j ∨ (v40_6 % 2 ≠ 0 ∧ Me v40_5 j) := fun j => by
                    rw [mez9 j]
                    exact ⟨fun g => g.elim Or.inl (fun g => Or.inr ⟨by omega, g⟩), fun g => g.elim Or.inl (fun g => Or.inr g.2)⟩
                  refine r_istore_n (pc := 83) (lv' := [(3, .int (iv z9)), (2, .int (iv z8)), (0, .ref ga), (1, .int (iv x1)), (4, .int (iv v7_4)), (5, .int (iv v40_5)), (6, .int (iv v40_6))]) dX8_side_83 (i := 3) rfl (by decide) rfl ?_
                  refine r_aload_n (pc := 84) dX8_side_84 (i := 0) rfl rfl ?_
                  refine t_getE (pc := 85) (.ref gJo) ht40 hg_O fX8_60 dX8_side_85 rfl ?_
                  refine r_iload (pc := 88) dX8_side_88 rfl ?_
                  refine t_callSI (pc := 90) (as := [.ref gJo, .int (iv v40_5)]) (st := []) kX8_21 dX8_side_90 (t_X8_spreadx (d := d - 1) (Nx := Jo) (rL := gn) (x1 := v40_5) (by omega) hxg_Jo hrg_Jo (by omega) ht40 (by omega)) rfl (by omega) (Nat.le_of_ble_eq_true rfl) rfl (fun hp11 y10 ht12 by10 => ?_)
                  obtain ⟨by101, hsp9⟩ := by10
                  have hfj := sp_jo hsp9 hjo
                  refine r_iload_n (pc := 93) dX8_side_93 (i := 2) rfl rfl ?_
                  refine r_iconst (pc := 94) (v := iv (-1)) dX8_side_94 (by decide) ?_
                  refine r_ixor (pc := 95) (v := iv (-z8 - 1)) dX8_side_95 (iv_not _) ?_
                  obtain ⟨z13, hz13, bz13⟩ := and_l y10 (-z8 - 1) (by omega) (by omega)
                  refine r_iand (pc := 96) (v := iv z13) dX8_side_96 hz13 ?_
                  have mez13 := Me_not (y := z8) hz13 (by omega) (by omega) (by omega)
                  have hm96 := mez13
                  refine r_iload_n (pc := 97) dX8_side_97 (i := 3) rfl rfl ?_
                  refine r_iconst (pc := 98) (v := iv (-1)) dX8_side_98 (by decide) ?_
                  refine r_ixor (pc := 99) (v := iv (-z9 - 1)) dX8_side_99 (iv_not _) ?_
                  obtain ⟨z14, hz14, bz14⟩ := and_l z13 (-z9 - 1) (by omega) (by omega)
                  refine r_iand (pc := 100) (v := iv z14) dX8_side_100 hz14 ?_
                  have mez14 := Me_not (y := z9) hz14 (by omega) (by omega) (by omega)
                  have he9 := fun j => (mez14 j).trans (and_congr_left (fun _ => hm96 j) |>.trans and_assoc)
                  have hqs := sdq_st (by assumption : sdO gm F T gn v7_2 v7_3 v7_4) (by assumption : sdQ gm F T gn v7_2 v7_3 (Int.toNat v7_4) v40_2 v40_3 v40_5 v40_6) (by omega) (by omega) (by omega) hzz9 hoo9 hfj he9
                  refine r_istore (pc := 101) (lv' := [(5, .int (iv z14)), (3, .int (iv z9)), (2, .int (iv z8)), (0, .ref ga), (1, .int (iv x1)), (4, .int (iv v7_4)), (6, .int (iv v40_6))]) dX8_side_101 (by decide) rfl ?_
                  refine r_iinc (pc := 103) (v := iv (v40_6 + 1)) (lv' := [(6, .int (iv (v40_6 + 1))), (5, .int (iv z14)), (3, .int (iv z9)), (2, .int (iv z8)), (0, .ref ga), (1, .int (iv x1)), (4, .int (iv v7_4))]) dX8_side_103 rfl (iv_add _ _) (by decide) rfl ?_
                  refine r_goto (pc := 106) (tgt := 40) dX8_side_106 (by decide) ?_
                  refine Rn.pick (lv' := [(0, .ref ga), (1, .int (iv x1)), (2, .int (iv z8)), (3, .int (iv z9)), (4, .int (iv v7_4)), (5, .int (iv z14)), (6, .int (iv (v40_6 + 1)))]) [4, 5, 3, 2, 6, 1, 0] rfl ?_
                  exact ih40 (Int.toNat (16 - (v40_6 + 1))) (by omega) _ ht12 z8 z9 z14 (v40_6 + 1) ⟨by omega, by omega, by omega, by omega, by omega, by omega, by omega, by omega, by omega, by omega, by (first | exact hqs | exact hq0)⟩ (by omega)
                · refine r_iconst (pc := 76) (v := iv 0) dX8_side_76 (by decide) ?_
                  refine r_goto (pc := 77) (tgt := 82) dX8_side_77 (by decide) ?_
                  obtain ⟨z15, hz15, bz15⟩ := or_2 16 v40_3 0 (by omega) (by omega) (by decide)
                  refine r_ior (pc := 82) (v := iv z15) dX8_side_82 hz15 ?_
                  have mez15 := Me_or hz15 (by omega) (by omega) (by omega)
                  have hoo9 : ∀ j, Me z15 j ↔ Me v40_3 j ∨ (v40_6 % 2 ≠ 0 ∧ Me v40_5 j) := fun j => by
                    rw [mez15 j]
                    exact ⟨fun g => g.elim Or.inl (fun g => absurd g (Me_0 j)), fun g => g.elim Or.inl (fun g => absurd (by omega) g.1)⟩
                  refine r_istore_n (pc := 83) (lv' := [(3, .int (iv z15)), (2, .int (iv z8)), (0, .ref ga), (1, .int (iv x1)), (4, .int (iv v7_4)), (5, .int (iv v40_5)), (6, .int (iv v40_6))]) dX8_side_83 (i := 3) rfl (by decide) rfl ?_
                  refine r_aload_n (pc := 84) dX8_side_84 (i := 0) rfl rfl ?_
                  refine t_getE (pc := 85) (.ref gJo) ht40 hg_O fX8_60 dX8_side_85 rfl ?_
                  refine r_iload (pc := 88) dX8_side_88 rfl ?_
                  refine t_callSI (pc := 90) (as := [.ref gJo, .int (iv v40_5)]) (st := []) kX8_21 dX8_side_90 (t_X8_spreadx (d := d - 1) (Nx := Jo) (rL := gn) (x1 := v40_5) (by omega) hxg_Jo hrg_Jo (by omega) ht40 (by omega)) rfl (by omega) (Nat.le_of_ble_eq_true rfl) rfl (fun hp17 y16 ht18 by16 => ?_)
                  obtain ⟨by161, hsp9⟩ := by16
                  have hfj := sp_jo hsp9 hjo
                  refine r_iload_n (pc := 93) dX8_side_93 (i := 2) rfl rfl ?_
                  refine r_iconst (pc := 94) (v := iv (-1)) dX8_side_94 (by decide) ?_
                  refine r_ixor (pc := 95) (v := iv (-z8 - 1)) dX8_side_95 (iv_not _) ?_
                  obtain ⟨z19, hz19, bz19⟩ := and_l y16 (-z8 - 1) (by omega) (by omega)
                  refine r_iand (pc := 96) (v := iv z19) dX8_side_96 hz19 ?_
                  have mez19 := Me_not (y := z8) hz19 (by omega) (by omega) (by omega)
                  have hm96 := mez19
                  refine r_iload_n (pc := 97) dX8_side_97 (i := 3) rfl rfl ?_
                  refine r_iconst (pc := 98) (v := iv (-1)) dX8_side_98 (by decide) ?_
                  refine r_ixor (pc := 99) (v := iv (-z15 - 1)) dX8_side_99 (iv_not _) ?_
                  obtain ⟨z20, hz20, bz20⟩ := and_l z19 (-z15 - 1) (by omega) (by omega)
                  refine r_iand (pc := 100) (v := iv z20) dX8_side_100 hz20 ?_
                  have mez20 := Me_not (y := z15) hz20 (by omega) (by omega) (by omega)
                  have he9 := fun j => (mez20 j).trans (and_congr_left (fun _ => hm96 j) |>.trans and_assoc)
                  have hqs := sdq_st (by assumption : sdO gm F T gn v7_2 v7_3 v7_4) (by assumption : sdQ gm F T gn v7_2 v7_3 (Int.toNat v7_4) v40_2 v40_3 v40_5 v40_6) (by omega) (by omega) (by omega) hzz9 hoo9 hfj he9
                  refine r_istore (pc := 101) (lv' := [(5, .int (iv z20)), (3, .int (iv z15)), (2, .int (iv z8)), (0, .ref ga), (1, .int (iv x1)), (4, .int (iv v7_4)), (6, .int (iv v40_6))]) dX8_side_101 (by decide) rfl ?_
                  refine r_iinc (pc := 103) (v := iv (v40_6 + 1)) (lv' := [(6, .int (iv (v40_6 + 1))), (5, .int (iv z20)), (3, .int (iv z15)), (2, .int (iv z8)), (0, .ref ga), (1, .int (iv x1)), (4, .int (iv v7_4))]) dX8_side_103 rfl (iv_add _ _) (by decide) rfl ?_
                  refine r_goto (pc := 106) (tgt := 40) dX8_side_106 (by decide) ?_
                  refine Rn.pick (lv' := [(0, .ref ga), (1, .int (iv x1)), (2, .int (iv z8)), (3, .int (iv z15)), (4, .int (iv v7_4)), (5, .int (iv z20)), (6, .int (iv (v40_6 + 1)))]) [4, 5, 3, 2, 6, 1, 0] rfl ?_
                  exact ih40 (Int.toNat (16 - (v40_6 + 1))) (by omega) _ ht18 z8 z15 z20 (v40_6 + 1) ⟨by omega, by omega, by omega, by omega, by omega, by omega, by omega, by omega, by omega, by omega, by (first | exact hqs | exact hq0)⟩ (by omega)
              · refine r_iload (pc := 60) dX8_side_60 rfl ?_
                refine r_goto (pc := 62) (tgt := 66) dX8_side_62 (by decide) ?_
                obtain ⟨z21, hz21, bz21⟩ := or_2 16 v40_2 v40_5 (by omega) (by omega) (by decide)
                refine r_ior (pc := 66) (v := iv z21) dX8_side_66 hz21 ?_
                have mez21 := Me_or hz21 (by omega) (by omega) (by omega)
                have hzz9 : ∀ j, Me z21 j ↔ Me v40_2 j ∨ (v40_6 % 2 = 0 ∧ Me v40_5 j) := fun j => by
                  rw [mez21 j]
                  exact ⟨fun g => g.elim Or.inl (fun g => Or.inr ⟨by omega, g⟩), fun g => g.elim Or.inl (fun g => Or.inr g.2)⟩
                refine r_istore_n (pc := 67) (lv' := [(2, .int (iv z21)), (0, .ref ga), (1, .int (iv x1)), (3, .int (iv v40_3)), (4, .int (iv v7_4)), (5, .int (iv v40_5)), (6, .int (iv v40_6))]) dX8_side_67 (i := 2) rfl (by decide) rfl ?_
                refine r_iload_n (pc := 68) dX8_side_68 (i := 3) rfl rfl ?_
                refine r_iload (pc := 69) dX8_side_69 rfl ?_
                refine r_iconst (pc := 71) (v := iv 2) dX8_side_71 (by decide) ?_
                refine r_irem (pc := 72) (v := iv (v40_6 % 2)) dX8_side_72 (by decide) (irem2_e (by omega)) ?_
                refine t_if_ne (pc := 73) (tgt := 80) dX8_side_73 (by decide) (by omega) (fun c73 => ?_) (fun c73 => ?_)
                · refine r_iload (pc := 80) dX8_side_80 rfl ?_
                  obtain ⟨z22, hz22, bz22⟩ := or_2 16 v40_3 v40_5 (by omega) (by omega) (by decide)
                  refine r_ior (pc := 82) (v := iv z22) dX8_side_82 hz22 ?_
                  have mez22 := Me_or hz22 (by omega) (by omega) (by omega)
                  have hoo9 : ∀ j, Me z22 j ↔ Me v40_3 j ∨ (v40_6 % 2 ≠ 0 ∧ Me v40_5 j) := fun j => by
                    rw [mez22 j]
                    exact ⟨fun g => g.elim Or.inl (fun g => Or.inr ⟨by omega, g⟩), fun g => g.elim Or.inl (fun g => Or.inr g.2)⟩
                  refine r_istore_n (pc := 83) (lv' := [(3, .int (iv z22)), (2, .int (iv z21)), (0, .ref ga), (1, .int (iv x1)), (4, .int (iv v7_4)), (5, .int (iv v40_5)), (6, .int (iv v40_6))]) dX8_side_83 (i := 3) rfl (by decide) rfl ?_
                  refine r_aload_n (pc := 84) dX8_side_84 (i := 0) rfl rfl ?_
                  refine t_getE (pc := 85) (.ref gJo) ht40 hg_O fX8_60 dX8_side_85 rfl ?_
                  refine r_iload (pc := 88) dX8_side_88 rfl ?_
                  refine t_callSI (pc := 90) (as := [.ref gJo, .int (iv v40_5)]) (st := []) kX8_21 dX8_side_90 (t_X8_spreadx (d := d - 1) (Nx := Jo) (rL := gn) (x1 := v40_5) (by omega) hxg_Jo hrg_Jo (by omega) ht40 (by omega)) rfl (by omega) (Nat.le_of_ble_eq_true rfl) rfl (fun hp24 y23 ht25 by23 => ?_)
                  obtain ⟨by231, hsp9⟩ := by23
                  have hfj := sp_jo hsp9 hjo
                  refine r_iload_n (pc := 93) dX8_side_93 (i := 2) rfl rfl ?_
                  refine r_iconst (pc := 94) (v := iv (-1)) dX8_side_94 (by decide) ?_
                  refine r_ixor (pc := 95) (v := iv (-z21 - 1)) dX8_side_95 (iv_not _) ?_
                  obtain ⟨z26, hz26, bz26⟩ := and_l y23 (-z21 - 1) (by omega) (by omega)
                  refine r_iand (pc := 96) (v := iv z26) dX8_side_96 hz26 ?_
                  have mez26 := Me_not (y := z21) hz26 (by omega) (by omega) (by omega)
                  have hm96 := mez26
                  refine r_iload_n (pc := 97) dX8_side_97 (i := 3) rfl rfl ?_
                  refine r_iconst (pc := 98) (v := iv (-1)) dX8_side_98 (by decide) ?_
                  refine r_ixor (pc := 99) (v := iv (-z22 - 1)) dX8_side_99 (iv_not _) ?_
                  obtain ⟨z27, hz27, bz27⟩ := and_l z26 (-z22 - 1) (by omega) (by omega)
                  refine r_iand (pc := 100) (v := iv z27) dX8_side_100 hz27 ?_
                  have mez27 := Me_not (y := z22) hz27 (by omega) (by omega) (by omega)
                  have he9 := fun j => (mez27 j).trans (and_congr_left (fun _ => hm96 j) |>.trans and_assoc)
                  have hqs := sdq_st (by assumption : sdO gm F T gn v7_2 v7_3 v7_4) (by assumption : sdQ gm F T gn v7_2 v7_3 (Int.toNat v7_4) v40_2 v40_3 v40_5 v40_6) (by omega) (by omega) (by omega) hzz9 hoo9 hfj he9
                  refine r_istore (pc := 101) (lv' := [(5, .int (iv z27)), (3, .int (iv z22)), (2, .int (iv z21)), (0, .ref ga), (1, .int (iv x1)), (4, .int (iv v7_4)), (6, .int (iv v40_6))]) dX8_side_101 (by decide) rfl ?_
                  refine r_iinc (pc := 103) (v := iv (v40_6 + 1)) (lv' := [(6, .int (iv (v40_6 + 1))), (5, .int (iv z27)), (3, .int (iv z22)), (2, .int (iv z21)), (0, .ref ga), (1, .int (iv x1)), (4, .int (iv v7_4))]) dX8_side_103 rfl (iv_add _ _) (by decide) rfl ?_
                  refine r_goto (pc := 106) (tgt := 40) dX8_side_106 (by decide) ?_
                  refine Rn.pick (lv' := [(0, .ref ga), (1, .int (iv x1)), (2, .int (iv z21)), (3, .int (iv z22)), (4, .int (iv v7_4)), (5, .int (iv z27)), (6, .int (iv (v40_6 + 1)))]) [4, 5, 3, 2, 6, 1, 0] rfl ?_
                  exact ih40 (Int.toNat (16 - (v40_6 + 1))) (by omega) _ ht25 z21 z22 z27 (v40_6 + 1) ⟨by omega, by omega, by omega, by omega, by omega, by omega, by omega, by omega, by omega, by omega, by (first | exact hqs | exact hq0)⟩ (by omega)
                · refine r_iconst (pc := 76) (v := iv 0) dX8_side_76 (by decide) ?_
                  refine r_goto (pc := 77) (tgt := 82) dX8_side_77 (by decide) ?_
                  obtain ⟨z28, hz28, bz28⟩ := or_2 16 v40_3 0 (by omega) (by omega) (by decide)
                  refine r_ior (pc := 82) (v := iv z28) dX8_side_82 hz28 ?_
                  have mez28 := Me_or hz28 (by omega) (by omega) (by omega)
                  have hoo9 : ∀ j, Me z28 j ↔ Me v40_3 j ∨ (v40_6 % 2 ≠ 0 ∧ Me v40_5 j) := fun j => by
                    rw [mez28 j]
                    exact ⟨fun g => g.elim Or.inl (fun g => absurd g (Me_0 j)), fun g => g.elim Or.inl (fun g => absurd (by omega) g.1)⟩
                  refine r_istore_n (pc := 83) (lv' := [(3, .int (iv z28)), (2, .int (iv z21)), (0, .ref ga), (1, .int (iv x1)), (4, .int (iv v7_4)), (5, .int (iv v40_5)), (6, .int (iv v40_6))]) dX8_side_83 (i := 3) rfl (by decide) rfl ?_
                  refine r_aload_n (pc := 84) dX8_side_84 (i := 0) rfl rfl ?_
                  refine t_getE (pc := 85) (.ref gJo) ht40 hg_O fX8_60 dX8_side_85 rfl ?_
                  refine r_iload (pc := 88) dX8_side_88 rfl ?_
                  refine t_callSI (pc := 90) (as := [.ref gJo, .int (iv v40_5)]) (st := []) kX8_21 dX8_side_90 (t_X8_spreadx (d := d - 1) (Nx := Jo) (rL := gn) (x1 := v40_5) (by omega) hxg_Jo hrg_Jo (by omega) ht40 (by omega)) rfl (by omega) (Nat.le_of_ble_eq_true rfl) rfl (fun hp30 y29 ht31 by29 => ?_)
                  obtain ⟨by291, hsp9⟩ := by29
                  have hfj := sp_jo hsp9 hjo
                  refine r_iload_n (pc := 93) dX8_side_93 (i := 2) rfl rfl ?_
                  refine r_iconst (pc := 94) (v := iv (-1)) dX8_side_94 (by decide) ?_
                  refine r_ixor (pc := 95) (v := iv (-z21 - 1)) dX8_side_95 (iv_not _) ?_
                  obtain ⟨z32, hz32, bz32⟩ := and_l y29 (-z21 - 1) (by omega) (by omega)
                  refine r_iand (pc := 96) (v := iv z32) dX8_side_96 hz32 ?_
                  have mez32 := Me_not (y := z21) hz32 (by omega) (by omega) (by omega)
                  have hm96 := mez32
                  refine r_iload_n (pc := 97) dX8_side_97 (i := 3) rfl rfl ?_
                  refine r_iconst (pc := 98) (v := iv (-1)) dX8_side_98 (by decide) ?_
                  refine r_ixor (pc := 99) (v := iv (-z28 - 1)) dX8_side_99 (iv_not _) ?_
                  obtain ⟨z33, hz33, bz33⟩ := and_l z32 (-z28 - 1) (by omega) (by omega)
                  refine r_iand (pc := 100) (v := iv z33) dX8_side_100 hz33 ?_
                  have mez33 := Me_not (y := z28) hz33 (by omega) (by omega) (by omega)
                  have he9 := fun j => (mez33 j).trans (and_congr_left (fun _ => hm96 j) |>.trans and_assoc)
                  have hqs := sdq_st (by assumption : sdO gm F T gn v7_2 v7_3 v7_4) (by assumption : sdQ gm F T gn v7_2 v7_3 (Int.toNat v7_4) v40_2 v40_3 v40_5 v40_6) (by omega) (by omega) (by omega) hzz9 hoo9 hfj he9
                  refine r_istore (pc := 101) (lv' := [(5, .int (iv z33)), (3, .int (iv z28)), (2, .int (iv z21)), (0, .ref ga), (1, .int (iv x1)), (4, .int (iv v7_4)), (6, .int (iv v40_6))]) dX8_side_101 (by decide) rfl ?_
                  refine r_iinc (pc := 103) (v := iv (v40_6 + 1)) (lv' := [(6, .int (iv (v40_6 + 1))), (5, .int (iv z33)), (3, .int (iv z28)), (2, .int (iv z21)), (0, .ref ga), (1, .int (iv x1)), (4, .int (iv v7_4))]) dX8_side_103 rfl (iv_add _ _) (by decide) rfl ?_
                  refine r_goto (pc := 106) (tgt := 40) dX8_side_106 (by decide) ?_
                  refine Rn.pick (lv' := [(0, .ref ga), (1, .int (iv x1)), (2, .int (iv z21)), (3, .int (iv z28)), (4, .int (iv v7_4)), (5, .int (iv z33)), (6, .int (iv (v40_6 + 1)))]) [4, 5, 3, 2, 6, 1, 0] rfl ?_
                  exact ih40 (Int.toNat (16 - (v40_6 + 1))) (by omega) _ ht31 z21 z28 z33 (v40_6 + 1) ⟨by omega, by omega, by omega, by omega, by omega, by omega, by omega, by omega, by omega, by omega, by (first | exact hqs | exact hq0)⟩ (by omega)
        refine Rn.pick (lv' := [(0, .ref ga), (1, .int (iv x1)), (2, .int (iv v7_2)), (3, .int (iv v7_3)), (4, .int (iv v7_4)), (5, .int (iv 0)), (6, .int (iv 0))]) [2, 3, 4, 5, 6, 1, 0] rfl ?_
        exact B40 (Int.toNat (16 - 0)) _ ht7 v7_2 v7_3 0 0 ⟨by omega, by omega, by omega, by omega, by omega, by omega, by omega, by omega, by omega, by omega, by (first | exact hqs | exact hq0)⟩ (by omega)
      · have nm24 : ¬ Me z6 (Int.toNat v7_4) := fun h9 => absurd (Me_bit.mpr h9) (by omega)
        have hnv : ¬ (Me v7_2 (Int.toNat v7_4) ∨ Me v7_3 (Int.toNat v7_4)) := fun h9 => nm24 ((hvis _).mpr h9)
        refine r_iconst (pc := 27) (v := iv 1) dX8_side_27 (by decide) ?_
        refine r_iload (pc := 28) dX8_side_28 rfl ?_
        refine r_ishl (pc := 30) (v := iv ((2 ^ Int.toNat v7_4 : Nat) : Int)) dX8_side_30 (shl_e (by omega)) ?_
        have mp30_34 : 1 ≤ 2 ^ Int.toNat v7_4 := Nat.one_le_two_pow
        have mq30_35 : 2 ^ Int.toNat v7_4 ≤ 2 ^ 15 := Nat.pow_le_pow_right (by omega) (by omega)
        have ms30 := Me_shl (Int.toNat v7_4)
        have hq0 : sdQ gm F T gn v7_2 v7_3 (Int.toNat v7_4) v7_2 v7_3 ((2 ^ Int.toNat v7_4 : Nat) : Int) 0 := Or.inr ⟨hnv, sdb_0 (by assumption : sdO gm F T gn v7_2 v7_3 v7_4).1 (by omega) hnv ms30⟩
        refine r_goto (pc := 31) (tgt := 35) dX8_side_31 (by decide) ?_
        refine r_istore (pc := 35) (lv' := [(5, .int (iv ((2 ^ Int.toNat v7_4 : Nat) : Int))), (0, .ref ga), (1, .int (iv x1)), (2, .int (iv v7_2)), (3, .int (iv v7_3)), (4, .int (iv v7_4))]) dX8_side_35 (by decide) rfl ?_
        refine r_iconst (pc := 37) (v := iv 0) dX8_side_37 (by decide) ?_
        refine r_istore (pc := 38) (lv' := [(6, .int (iv 0)), (5, .int (iv ((2 ^ Int.toNat v7_4 : Nat) : Int))), (0, .ref ga), (1, .int (iv x1)), (2, .int (iv v7_2)), (3, .int (iv v7_3)), (4, .int (iv v7_4))]) dX8_side_38 (by decide) rfl ?_
        have B40 : ∀ k : Nat, ∀ hp40 : MH, Tw Γ hp40 → ∀  (v40_2 : Int) (v40_3 : Int) (v40_5 : Int) (v40_6 : Int), 0 ≤ v40_2 ∧ v40_2 ≤ 65535 ∧ v7_2 ≤ v40_2 ∧ 0 ≤ v40_3 ∧ v40_3 ≤ 65535 ∧ v7_3 ≤ v40_3 ∧ 0 ≤ v40_5 ∧ v40_5 ≤ 65535 ∧ 0 ≤ v40_6 ∧ v40_6 ≤ 16 ∧ (sdQ gm F T gn v7_2 v7_3 (Int.toNat v7_4) v40_2 v40_3 v40_5 v40_6) → 16 - v40_6 ≤ (k : Int) → Rn (gG D cI cJ cZ cT lo b L xs) mX8_side d 40 [(0, .ref ga), (1, .int (iv x1)), (2, .int (iv v40_2)), (3, .int (iv v40_3)), (4, .int (iv v7_4)), (5, .int (iv v40_5)), (6, .int (iv v40_6))] [] hp40 n 0 0 (pI Γ n (fun r => ((-1 ≤ r ∧ r ≤ 1) ∧ sdA gm F T gn (Int.toNat x1) r))) := by
          refine lpS _ ?_
          intro k40 ih40 hp40 ht40 v40_2 v40_3 v40_5 v40_6 hf40 hm40
          obtain ⟨hf40_0, hf40_1, hf40_2, hf40_3, hf40_4, hf40_5, hf40_6, hf40_7, hf40_8, hf40_9, ha40_10⟩ := hf40
          refine r_iload (pc := 40) dX8_side_40 rfl ?_
          refine r_bipush (pc := 42) (v := iv 16) dX8_side_42 (by decide) ?_
          refine t_icmp_ge (pc := 44) (tgt := 109) dX8_side_44 (by decide) (by omega) (by omega) (fun c44 => ?_) (fun c44 => ?_)
          · refine r_iinc (pc := 109) (v := iv (v7_4 + 1)) (lv' := [(4, .int (iv (v7_4 + 1))), (0, .ref ga), (1, .int (iv x1)), (2, .int (iv v40_2)), (3, .int (iv v40_3)), (5, .int (iv v40_5)), (6, .int (iv v40_6))]) dX8_side_109 rfl (iv_add _ _) (by decide) rfl ?_
            refine r_goto (pc := 112) (tgt := 7) dX8_side_112 (by decide) ?_
            refine Rn.pick (lv' := [(0, .ref ga), (1, .int (iv x1)), (2, .int (iv v40_2)), (3, .int (iv v40_3)), (4, .int (iv (v7_4 + 1)))]) [1, 2, 3, 4, 0] rfl ?_
            exact ih7 (Int.toNat (16 - (v7_4 + 1))) (by omega) _ ht40 v40_2 v40_3 (v7_4 + 1) ⟨by omega, by omega, by omega, by omega, by omega, by omega, by omega, by (first | exact sdw_0 | exact sdq_end (by assumption : sdO gm F T gn v7_2 v7_3 v7_4) (by omega) (by assumption : sdQ gm F T gn v7_2 v7_3 (Int.toNat v7_4) v40_2 v40_3 v40_5 v40_6) (by omega) (by omega) (by omega))⟩ (by omega)
          · refine r_iload (pc := 47) dX8_side_47 rfl ?_
            refine t_if_eq (pc := 49) (tgt := 109) dX8_side_49 (by decide) (by omega) (fun c49 => ?_) (fun c49 => ?_)
            · refine r_iinc (pc := 109) (v := iv (v7_4 + 1)) (lv' := [(4, .int (iv (v7_4 + 1))), (0, .ref ga), (1, .int (iv x1)), (2, .int (iv v40_2)), (3, .int (iv v40_3)), (5, .int (iv v40_5)), (6, .int (iv v40_6))]) dX8_side_109 rfl (iv_add _ _) (by decide) rfl ?_
              refine r_goto (pc := 112) (tgt := 7) dX8_side_112 (by decide) ?_
              refine Rn.pick (lv' := [(0, .ref ga), (1, .int (iv x1)), (2, .int (iv v40_2)), (3, .int (iv v40_3)), (4, .int (iv (v7_4 + 1)))]) [1, 2, 3, 4, 0] rfl ?_
              exact ih7 (Int.toNat (16 - (v7_4 + 1))) (by omega) _ ht40 v40_2 v40_3 (v7_4 + 1) ⟨by omega, by omega, by omega, by omega, by omega, by omega, by omega, by (first | exact sdw_0 | exact sdq_end (by assumption : sdO gm F T gn v7_2 v7_3 v7_4) (by omega) (by assumption : sdQ gm F T gn v7_2 v7_3 (Int.toNat v7_4) v40_2 v40_3 v40_5 v40_6) (by omega) (by omega) (by omega))⟩ (by omega)
            · refine r_iload_n (pc := 52) dX8_side_52 (i := 2) rfl rfl ?_
              refine r_iload (pc := 53) dX8_side_53 rfl ?_
              refine r_iconst (pc := 55) (v := iv 2) dX8_side_55 (by decide) ?_
              refine r_irem (pc := 56) (v := iv (v40_6 % 2)) dX8_side_56 (by decide) (irem2_e (by omega)) ?_
              refine t_if_ne (pc := 57) (tgt := 65) dX8_side_57 (by decide) (by omega) (fun c57 => ?_) (fun c57 => ?_)
              · refine r_iconst (pc := 65) (v := iv 0) dX8_side_65 (by decide) ?_
                obtain ⟨z36, hz36, bz36⟩ := or_2 16 v40_2 0 (by omega) (by omega) (by decide)
                refine r_ior (pc := 66) (v := iv z36) dX8_side_66 hz36 ?_
                have mez36 := Me_or hz36 (by omega) (by omega) (by omega)
                have hzz9 : ∀ j, Me z36 j ↔ Me v40_2 j ∨ (v40_6 % 2 = 0 ∧ Me v40_5 j) := fun j => by
                  rw [mez36 j]
                  exact ⟨fun g => g.elim Or.inl (fun g => absurd g (Me_0 j)), fun g => g.elim Or.inl (fun g => absurd g.1 (by omega))⟩
                refine r_istore_n (pc := 67) (lv' := [(2, .int (iv z36)), (0, .ref ga), (1, .int (iv x1)), (3, .int (iv v40_3)), (4, .int (iv v7_4)), (5, .int (iv v40_5)), (6, .int (iv v40_6))]) dX8_side_67 (i := 2) rfl (by decide) rfl ?_
                refine r_iload_n (pc := 68) dX8_side_68 (i := 3) rfl rfl ?_
                refine r_iload (pc := 69) dX8_side_69 rfl ?_
                refine r_iconst (pc := 71) (v := iv 2) dX8_side_71 (by decide) ?_
                refine r_irem (pc := 72) (v := iv (v40_6 % 2)) dX8_side_72 (by decide) (irem2_e (by omega)) ?_
                refine t_if_ne (pc := 73) (tgt := 80) dX8_side_73 (by decide) (by omega) (fun c73 => ?_) (fun c73 => ?_)
                · refine r_iload (pc := 80) dX8_side_80 rfl ?_
                  obtain ⟨z37, hz37, bz37⟩ := or_2 16 v40_3 v40_5 (by omega) (by omega) (by decide)
                  refine r_ior (pc := 82) (v := iv z37) dX8_side_82 hz37 ?_
                  have mez37 := Me_or hz37 (by omega) (by omega) (by omega)
                  have hoo9 : ∀ j, Me z37 j ↔ Me v40_3 j ∨ (v40_6 % 2 ≠ 0 ∧ Me v40_5 j) := fun j => by
                    rw [mez37 j]
                    exact ⟨fun g => g.elim Or.inl (fun g => Or.inr ⟨by omega, g⟩), fun g => g.elim Or.inl (fun g => Or.inr g.2)⟩
                  refine r_istore_n (pc := 83) (lv' := [(3, .int (iv z37)), (2, .int (iv z36)), (0, .ref ga), (1, .int (iv x1)), (4, .int (iv v7_4)), (5, .int (iv v40_5)), (6, .int (iv v40_6))]) dX8_side_83 (i := 3) rfl (by decide) rfl ?_
                  refine r_aload_n (pc := 84) dX8_side_84 (i := 0) rfl rfl ?_
                  refine t_getE (pc := 85) (.ref gJo) ht40 hg_O fX8_60 dX8_side_85 rfl ?_
                  refine r_iload (pc := 88) dX8_side_88 rfl ?_
                  refine t_callSI (pc := 90) (as := [.ref gJo, .int (iv v40_5)]) (st := []) kX8_21 dX8_side_90 (t_X8_spreadx (d := d - 1) (Nx := Jo) (rL := gn) (x1 := v40_5) (by omega) hxg_Jo hrg_Jo (by omega) ht40 (by omega)) rfl (by omega) (Nat.le_of_ble_eq_true rfl) rfl (fun hp39 y38 ht40 by38 => ?_)
                  obtain ⟨by381, hsp9⟩ := by38
                  have hfj := sp_jo hsp9 hjo
                  refine r_iload_n (pc := 93) dX8_side_93 (i := 2) rfl rfl ?_
                  refine r_iconst (pc := 94) (v := iv (-1)) dX8_side_94 (by decide) ?_
                  refine r_ixor (pc := 95) (v := iv (-z36 - 1)) dX8_side_95 (iv_not _) ?_
                  obtain ⟨z41, hz41, bz41⟩ := and_l y38 (-z36 - 1) (by omega) (by omega)
                  refine r_iand (pc := 96) (v := iv z41) dX8_side_96 hz41 ?_
                  have mez41 := Me_not (y := z36) hz41 (by omega) (by omega) (by omega)
                  have hm96 := mez41
                  refine r_iload_n (pc := 97) dX8_side_97 (i := 3) rfl rfl ?_
                  refine r_iconst (pc := 98) (v := iv (-1)) dX8_side_98 (by decide) ?_
                  refine r_ixor (pc := 99) (v := iv (-z37 - 1)) dX8_side_99 (iv_not _) ?_
                  obtain ⟨z42, hz42, bz42⟩ := and_l z41 (-z37 - 1) (by omega) (by omega)
                  refine r_iand (pc := 100) (v := iv z42) dX8_side_100 hz42 ?_
                  have mez42 := Me_not (y := z37) hz42 (by omega) (by omega) (by omega)
                  have he9 := fun j => (mez42 j).trans (and_congr_left (fun _ => hm96 j) |>.trans and_assoc)
                  have hqs := sdq_st (by assumption : sdO gm F T gn v7_2 v7_3 v7_4) (by assumption : sdQ gm F T gn v7_2 v7_3 (Int.toNat v7_4) v40_2 v40_3 v40_5 v40_6) (by omega) (by omega) (by omega) hzz9 hoo9 hfj he9
                  refine r_istore (pc := 101) (lv' := [(5, .int (iv z42)), (3, .int (iv z37)), (2, .int (iv z36)), (0, .ref ga), (1, .int (iv x1)), (4, .int (iv v7_4)), (6, .int (iv v40_6))]) dX8_side_101 (by decide) rfl ?_
                  refine r_iinc (pc := 103) (v := iv (v40_6 + 1)) (lv' := [(6, .int (iv (v40_6 + 1))), (5, .int (iv z42)), (3, .int (iv z37)), (2, .int (iv z36)), (0, .ref ga), (1, .int (iv x1)), (4, .int (iv v7_4))]) dX8_side_103 rfl (iv_add _ _) (by decide) rfl ?_
                  refine r_goto (pc := 106) (tgt := 40) dX8_side_106 (by decide) ?_
                  refine Rn.pick (lv' := [(0, .ref ga), (1, .int (iv x1)), (2, .int (iv z36)), (3, .int (iv z37)), (4, .int (iv v7_4)), (5, .int (iv z42)), (6, .int (iv (v40_6 + 1)))]) [4, 5, 3, 2, 6, 1, 0] rfl ?_
                  exact ih40 (Int.toNat (16 - (v40_6 + 1))) (by omega) _ ht40 z36 z37 z42 (v40_6 + 1) ⟨by omega, by omega, by omega, by omega, by omega, by omega, by omega, by omega, by omega, by omega, by (first | exact hqs | exact hq0)⟩ (by omega)
                · refine r_iconst (pc := 76) (v := iv 0) dX8_side_76 (by decide) ?_
                  refine r_goto (pc := 77) (tgt := 82) dX8_side_77 (by decide) ?_
                  obtain ⟨z43, hz43, bz43⟩ := or_2 16 v40_3 0 (by omega) (by omega) (by decide)
                  refine r_ior (pc := 82) (v := iv z43) dX8_side_82 hz43 ?_
                  have mez43 := Me_or hz43 (by omega) (by omega) (by omega)
                  have hoo9 : ∀ j, Me z43 j ↔ Me v40_3 j ∨ (v40_6 % 2 ≠ 0 ∧ Me v40_5 j) := fun j => by
                    rw [mez43 j]
                    exact ⟨fun g => g.elim Or.inl (fun g => absurd g (Me_0 j)), fun g => g.elim Or.inl (fun g => absurd (by omega) g.1)⟩
                  refine r_istore_n (pc := 83) (lv' := [(3, .int (iv z43)), (2, .int (iv z36)), (0, .ref ga), (1, .int (iv x1)), (4, .int (iv v7_4)), (5, .int (iv v40_5)), (6, .int (iv v40_6))]) dX8_side_83 (i := 3) rfl (by decide) rfl ?_
                  refine r_aload_n (pc := 84) dX8_side_84 (i := 0) rfl rfl ?_
                  refine t_getE (pc := 85) (.ref gJo) ht40 hg_O fX8_60 dX8_side_85 rfl ?_
                  refine r_iload (pc := 88) dX8_side_88 rfl ?_
                  refine t_callSI (pc := 90) (as := [.ref gJo, .int (iv v40_5)]) (st := []) kX8_21 dX8_side_90 (t_X8_spreadx (d := d - 1) (Nx := Jo) (rL := gn) (x1 := v40_5) (by omega) hxg_Jo hrg_Jo (by omega) ht40 (by omega)) rfl (by omega) (Nat.le_of_ble_eq_true rfl) rfl (fun hp45 y44 ht46 by44 => ?_)
                  obtain ⟨by441, hsp9⟩ := by44
                  have hfj := sp_jo hsp9 hjo
                  refine r_iload_n (pc := 93) dX8_side_93 (i := 2) rfl rfl ?_
                  refine r_iconst (pc := 94) (v := iv (-1)) dX8_side_94 (by decide) ?_
                  refine r_ixor (pc := 95) (v := iv (-z36 - 1)) dX8_side_95 (iv_not _) ?_
                  obtain ⟨z47, hz47, bz47⟩ := and_l y44 (-z36 - 1) (by omega) (by omega)
                  refine r_iand (pc := 96) (v := iv z47) dX8_side_96 hz47 ?_
                  have mez47 := Me_not (y := z36) hz47 (by omega) (by omega) (by omega)
                  have hm96 := mez47
                  refine r_iload_n (pc := 97) dX8_side_97 (i := 3) rfl rfl ?_
                  refine r_iconst (pc := 98) (v := iv (-1)) dX8_side_98 (by decide) ?_
                  refine r_ixor (pc := 99) (v := iv (-z43 - 1)) dX8_side_99 (iv_not _) ?_
                  obtain ⟨z48, hz48, bz48⟩ := and_l z47 (-z43 - 1) (by omega) (by omega)
                  refine r_iand (pc := 100) (v := iv z48) dX8_side_100 hz48 ?_
                  have mez48 := Me_not (y := z43) hz48 (by omega) (by omega) (by omega)
                  have he9 := fun j => (mez48 j).trans (and_congr_left (fun _ => hm96 j) |>.trans and_assoc)
                  have hqs := sdq_st (by assumption : sdO gm F T gn v7_2 v7_3 v7_4) (by assumption : sdQ gm F T gn v7_2 v7_3 (Int.toNat v7_4) v40_2 v40_3 v40_5 v40_6) (by omega) (by omega) (by omega) hzz9 hoo9 hfj he9
                  refine r_istore (pc := 101) (lv' := [(5, .int (iv z48)), (3, .int (iv z43)), (2, .int (iv z36)), (0, .ref ga), (1, .int (iv x1)), (4, .int (iv v7_4)), (6, .int (iv v40_6))]) dX8_side_101 (by decide) rfl ?_
                  refine r_iinc (pc := 103) (v := iv (v40_6 + 1)) (lv' := [(6, .int (iv (v40_6 + 1))), (5, .int (iv z48)), (3, .int (iv z43)), (2, .int (iv z36)), (0, .ref ga), (1, .int (iv x1)), (4, .int (iv v7_4))]) dX8_side_103 rfl (iv_add _ _) (by decide) rfl ?_
                  refine r_goto (pc := 106) (tgt := 40) dX8_side_106 (by decide) ?_
                  refine Rn.pick (lv' := [(0, .ref ga), (1, .int (iv x1)), (2, .int (iv z36)), (3, .int (iv z43)), (4, .int (iv v7_4)), (5, .int (iv z48)), (6, .int (iv (v40_6 + 1)))]) [4, 5, 3, 2, 6, 1, 0] rfl ?_
                  exact ih40 (Int.toNat (16 - (v40_6 + 1))) (by omega) _ ht46 z36 z43 z48 (v40_6 + 1) ⟨by omega, by omega, by omega, by omega, by omega, by omega, by omega, by omega, by omega, by omega, by (first | exact hqs | exact hq0)⟩ (by omega)
              · refine r_iload (pc := 60) dX8_side_60 rfl ?_
                refine r_goto (pc := 62) (tgt := 66) dX8_side_62 (by decide) ?_
                obtain ⟨z49, hz49, bz49⟩ := or_2 16 v40_2 v40_5 (by omega) (by omega) (by decide)
                refine r_ior (pc := 66) (v := iv z49) dX8_side_66 hz49 ?_
                have mez49 := Me_or hz49 (by omega) (by omega) (by omega)
                have hzz9 : ∀ j, Me z49 j ↔ Me v40_2 j ∨ (v40_6 % 2 = 0 ∧ Me v40_5 j) := fun j => by
                  rw [mez49 j]
                  exact ⟨fun g => g.elim Or.inl (fun g => Or.inr ⟨by omega, g⟩), fun g => g.elim Or.inl (fun g => Or.inr g.2)⟩
                refine r_istore_n (pc := 67) (lv' := [(2, .int (iv z49)), (0, .ref ga), (1, .int (iv x1)), (3, .int (iv v40_3)), (4, .int (iv v7_4)), (5, .int (iv v40_5)), (6, .int (iv v40_6))]) dX8_side_67 (i := 2) rfl (by decide) rfl ?_
                refine r_iload_n (pc := 68) dX8_side_68 (i := 3) rfl rfl ?_
                refine r_iload (pc := 69) dX8_side_69 rfl ?_
                refine r_iconst (pc := 71) (v := iv 2) dX8_side_71 (by decide) ?_
                refine r_irem (pc := 72) (v := iv (v40_6 % 2)) dX8_side_72 (by decide) (irem2_e (by omega)) ?_
                refine t_if_ne (pc := 73) (tgt := 80) dX8_side_73 (by decide) (by omega) (fun c73 => ?_) (fun c73 => ?_)
                · refine r_iload (pc := 80) dX8_side_80 rfl ?_
                  obtain ⟨z50, hz50, bz50⟩ := or_2 16 v40_3 v40_5 (by omega) (by omega) (by decide)
                  refine r_ior (pc := 82) (v := iv z50) dX8_side_82 hz50 ?_
                  have mez50 := Me_or hz50 (by omega) (by omega) (by omega)
                  have hoo9 : ∀ j, Me z50 j ↔ Me v40_3 j ∨ (v40_6 % 2 ≠ 0 ∧ Me v40_5 j) := fun j => by
                    rw [mez50 j]
                    exact ⟨fun g => g.elim Or.inl (fun g => Or.inr ⟨by omega, g⟩), fun g => g.elim Or.inl (fun g => Or.inr g.2)⟩
                  refine r_istore_n (pc := 83) (lv' := [(3, .int (iv z50)), (2, .int (iv z49)), (0, .ref ga), (1, .int (iv x1)), (4, .int (iv v7_4)), (5, .int (iv v40_5)), (6, .int (iv v40_6))]) dX8_side_83 (i := 3) rfl (by decide) rfl ?_
                  refine r_aload_n (pc := 84) dX8_side_84 (i := 0) rfl rfl ?_
                  refine t_getE (pc := 85) (.ref gJo) ht40 hg_O fX8_60 dX8_side_85 rfl ?_
                  refine r_iload (pc := 88) dX8_side_88 rfl ?_
                  refine t_callSI (pc := 90) (as := [.ref gJo, .int (iv v40_5)]) (st := []) kX8_21 dX8_side_90 (t_X8_spreadx (d := d - 1) (Nx := Jo) (rL := gn) (x1 := v40_5) (by omega) hxg_Jo hrg_Jo (by omega) ht40 (by omega)) rfl (by omega) (Nat.le_of_ble_eq_true rfl) rfl (fun hp52 y51 ht53 by51 => ?_)
                  obtain ⟨by511, hsp9⟩ := by51
                  have hfj := sp_jo hsp9 hjo
                  refine r_iload_n (pc := 93) dX8_side_93 (i := 2) rfl rfl ?_
                  refine r_iconst (pc := 94) (v := iv (-1)) dX8_side_94 (by decide) ?_
                  refine r_ixor (pc := 95) (v := iv (-z49 - 1)) dX8_side_95 (iv_not _) ?_
                  obtain ⟨z54, hz54, bz54⟩ := and_l y51 (-z49 - 1) (by omega) (by omega)
                  refine r_iand (pc := 96) (v := iv z54) dX8_side_96 hz54 ?_
                  have mez54 := Me_not (y := z49) hz54 (by omega) (by omega) (by omega)
                  have hm96 := mez54
                  refine r_iload_n (pc := 97) dX8_side_97 (i := 3) rfl rfl ?_
                  refine r_iconst (pc := 98) (v := iv (-1)) dX8_side_98 (by decide) ?_
                  refine r_ixor (pc := 99) (v := iv (-z50 - 1)) dX8_side_99 (iv_not _) ?_
                  obtain ⟨z55, hz55, bz55⟩ := and_l z54 (-z50 - 1) (by omega) (by omega)
                  refine r_iand (pc := 100) (v := iv z55) dX8_side_100 hz55 ?_
                  have mez55 := Me_not (y := z50) hz55 (by omega) (by omega) (by omega)
                  have he9 := fun j => (mez55 j).trans (and_congr_left (fun _ => hm96 j) |>.trans and_assoc)
                  have hqs := sdq_st (by assumption : sdO gm F T gn v7_2 v7_3 v7_4) (by assumption : sdQ gm F T gn v7_2 v7_3 (Int.toNat v7_4) v40_2 v40_3 v40_5 v40_6) (by omega) (by omega) (by omega) hzz9 hoo9 hfj he9
                  refine r_istore (pc := 101) (lv' := [(5, .int (iv z55)), (3, .int (iv z50)), (2, .int (iv z49)), (0, .ref ga), (1, .int (iv x1)), (4, .int (iv v7_4)), (6, .int (iv v40_6))]) dX8_side_101 (by decide) rfl ?_
                  refine r_iinc (pc := 103) (v := iv (v40_6 + 1)) (lv' := [(6, .int (iv (v40_6 + 1))), (5, .int (iv z55)), (3, .int (iv z50)), (2, .int (iv z49)), (0, .ref ga), (1, .int (iv x1)), (4, .int (iv v7_4))]) dX8_side_103 rfl (iv_add _ _) (by decide) rfl ?_
                  refine r_goto (pc := 106) (tgt := 40) dX8_side_106 (by decide) ?_
                  refine Rn.pick (lv' := [(0, .ref ga), (1, .int (iv x1)), (2, .int (iv z49)), (3, .int (iv z50)), (4, .int (iv v7_4)), (5, .int (iv z55)), (6, .int (iv (v40_6 + 1)))]) [4, 5, 3, 2, 6, 1, 0] rfl ?_
                  exact ih40 (Int.toNat (16 - (v40_6 + 1))) (by omega) _ ht53 z49 z50 z55 (v40_6 + 1) ⟨by omega, by omega, by omega, by omega, by omega, by omega, by omega, by omega, by omega, by omega, by (first | exact hqs | exact hq0)⟩ (by omega)
                · refine r_iconst (pc := 76) (v := iv 0) dX8_side_76 (by decide) ?_
                  refine r_goto (pc := 77) (tgt := 82) dX8_side_77 (by decide) ?_
                  obtain ⟨z56, hz56, bz56⟩ := or_2 16 v40_3 0 (by omega) (by omega) (by decide)
                  refine r_ior (pc := 82) (v := iv z56) dX8_side_82 hz56 ?_
                  have mez56 := Me_or hz56 (by omega) (by omega) (by omega)
                  have hoo9 : ∀ j, Me z56 j ↔ Me v40_3 j ∨ (v40_6 % 2 ≠ 0 ∧ Me v40_5 j) := fun j => by
                    rw [mez56 j]
                    exact ⟨fun g => g.elim Or.inl (fun g => absurd g (Me_0 j)), fun g => g.elim Or.inl (fun g => absurd (by omega) g.1)⟩
                  refine r_istore_n (pc := 83) (lv' := [(3, .int (iv z56)), (2, .int (iv z49)), (0, .ref ga), (1, .int (iv x1)), (4, .int (iv v7_4)), (5, .int (iv v40_5)), (6, .int (iv v40_6))]) dX8_side_83 (i := 3) rfl (by decide) rfl ?_
                  refine r_aload_n (pc := 84) dX8_side_84 (i := 0) rfl rfl ?_
                  refine t_getE (pc := 85) (.ref gJo) ht40 hg_O fX8_60 dX8_side_85 rfl ?_
                  refine r_iload (pc := 88) dX8_side_88 rfl ?_
                  refine t_callSI (pc := 90) (as := [.ref gJo, .int (iv v40_5)]) (st := []) kX8_21 dX8_side_90 (t_X8_spreadx (d := d - 1) (Nx := Jo) (rL := gn) (x1 := v40_5) (by omega) hxg_Jo hrg_Jo (by omega) ht40 (by omega)) rfl (by omega) (Nat.le_of_ble_eq_true rfl) rfl (fun hp58 y57 ht59 by57 => ?_)
                  obtain ⟨by571, hsp9⟩ := by57
                  have hfj := sp_jo hsp9 hjo
                  refine r_iload_n (pc := 93) dX8_side_93 (i := 2) rfl rfl ?_
                  refine r_iconst (pc := 94) (v := iv (-1)) dX8_side_94 (by decide) ?_
                  refine r_ixor (pc := 95) (v := iv (-z49 - 1)) dX8_side_95 (iv_not _) ?_
                  obtain ⟨z60, hz60, bz60⟩ := and_l y57 (-z49 - 1) (by omega) (by omega)
                  refine r_iand (pc := 96) (v := iv z60) dX8_side_96 hz60 ?_
                  have mez60 := Me_not (y := z49) hz60 (by omega) (by omega) (by omega)
                  have hm96 := mez60
                  refine r_iload_n (pc := 97) dX8_side_97 (i := 3) rfl rfl ?_
                  refine r_iconst (pc := 98) (v := iv (-1)) dX8_side_98 (by decide) ?_
                  refine r_ixor (pc := 99) (v := iv (-z56 - 1)) dX8_side_99 (iv_not _) ?_
                  obtain ⟨z61, hz61, bz61⟩ := and_l z60 (-z56 - 1) (by omega) (by omega)
                  refine r_iand (pc := 100) (v := iv z61) dX8_side_100 hz61 ?_
                  have mez61 := Me_not (y := z56) hz61 (by omega) (by omega) (by omega)
                  have he9 := fun j => (mez61 j).trans (and_congr_left (fun _ => hm96 j) |>.trans and_assoc)
                  have hqs := sdq_st (by assumption : sdO gm F T gn v7_2 v7_3 v7_4) (by assumption : sdQ gm F T gn v7_2 v7_3 (Int.toNat v7_4) v40_2 v40_3 v40_5 v40_6) (by omega) (by omega) (by omega) hzz9 hoo9 hfj he9
                  refine r_istore (pc := 101) (lv' := [(5, .int (iv z61)), (3, .int (iv z56)), (2, .int (iv z49)), (0, .ref ga), (1, .int (iv x1)), (4, .int (iv v7_4)), (6, .int (iv v40_6))]) dX8_side_101 (by decide) rfl ?_
                  refine r_iinc (pc := 103) (v := iv (v40_6 + 1)) (lv' := [(6, .int (iv (v40_6 + 1))), (5, .int (iv z61)), (3, .int (iv z56)), (2, .int (iv z49)), (0, .ref ga), (1, .int (iv x1)), (4, .int (iv v7_4))]) dX8_side_103 rfl (iv_add _ _) (by decide) rfl ?_
                  refine r_goto (pc := 106) (tgt := 40) dX8_side_106 (by decide) ?_
                  refine Rn.pick (lv' := [(0, .ref ga), (1, .int (iv x1)), (2, .int (iv z49)), (3, .int (iv z56)), (4, .int (iv v7_4)), (5, .int (iv z61)), (6, .int (iv (v40_6 + 1)))]) [4, 5, 3, 2, 6, 1, 0] rfl ?_
                  exact ih40 (Int.toNat (16 - (v40_6 + 1))) (by omega) _ ht59 z49 z56 z61 (v40_6 + 1) ⟨by omega, by omega, by omega, by omega, by omega, by omega, by omega, by omega, by omega, by omega, by (first | exact hqs | exact hq0)⟩ (by omega)
        refine Rn.pick (lv' := [(0, .ref ga), (1, .int (iv x1)), (2, .int (iv v7_2)), (3, .int (iv v7_3)), (4, .int (iv v7_4)), (5, .int (iv ((2 ^ Int.toNat v7_4 : Nat) : Int))), (6, .int (iv 0))]) [2, 3, 4, 5, 6, 1, 0] rfl ?_
        exact B40 (Int.toNat (16 - 0)) _ ht7 v7_2 v7_3 ((2 ^ Int.toNat v7_4 : Nat) : Int) 0 ⟨by omega, by omega, by omega, by omega, by omega, by omega, by omega, by omega, by omega, by omega, by (first | exact hqs | exact hq0)⟩ (by omega)
  refine Rn.pick (lv' := [(0, .ref ga), (1, .int (iv x1)), (2, .int (iv 0)), (3, .int (iv 0)), (4, .int (iv 0))]) [3, 4, 2, 1, 0] rfl ?_
  exact B7 (Int.toNat (16 - 0)) _ ht 0 0 0 ⟨by omega, by omega, by omega, by omega, by omega, by omega, by omega, by (first | exact sdw_0 | exact sdq_end (by assumption : sdO gm F T gn v7_2 v7_3 v7_4) (by omega) (by assumption : sdQ gm F T gn v7_2 v7_3 (Int.toNat v7_4) v40_2 v40_3 v40_5 v40_6) (by omega) (by omega) (by omega))⟩ (by omega)
