theorem lg_up {d : Int} {F T W : Nat → Int} {i : Nat} {k : Int} (h : lgP k.toNat d F T W i) (h0 : 0 ≤ k) (hn : ¬ ((W k.toNat < W i ∨ (W k.toNat = W i ∧ k.toNat < i)) ∧ seP d F T i k.toNat)) : lgP (k + 1).toNat d F T W i := by
  intro j hj
  rw [tn1 h0] at hj
  by_cases e : j = k.toNat
  · subst e; exact hn
  · exact h j (by omega)
theorem andn_e {x z : Int} {n : Nat} (hz : iv x &&& iv (-(((2 ^ n : Nat) : Int) - 1) - 1) = iv z) (hn : n ≤ 16) (hx : -2147483648 ≤ x ∧ x ≤ 2147483647) (hz0 : -2147483648 ≤ z ∧ z ≤ 2147483647) : z = 0 ↔ 0 ≤ x ∧ x < ((2 ^ n : Nat) : Int) := by
  have hp1 : 1 ≤ 2 ^ n := Nat.one_le_two_pow
  have hp2 : 2 ^ n ≤ 2 ^ 16 := Nat.pow_le_pow_right (by omega) hn
  obtain ⟨u, hu, hux⟩ : ∃ u : Nat, u < 2 ^ 32 ∧ iv x = iv (u : Int) ∧ ((0 ≤ x ∧ x = (u : Int)) ∨ (x < 0 ∧ (u : Int) = x + 4294967296)) := by
    rcases Int.lt_or_le x 0 with g | g
    · obtain ⟨a, ha⟩ := Int.eq_ofNat_of_zero_le (show 0 ≤ -x by omega)
      refine ⟨2 ^ 32 - a, by omega, ?_, Or.inr ⟨g, by omega⟩⟩
      rw [show x = -(a : Int) by omega]
      exact iv_negN (by omega) (by omega)
    · obtain ⟨a, rfl⟩ := Int.eq_ofNat_of_zero_le g
      exact ⟨a, by omega, rfl, Or.inl ⟨g, rfl⟩⟩
  have e1 : -(((2 ^ n : Nat) : Int) - 1) - 1 = -((2 ^ n : Nat) : Int) := by omega
  rw [e1, iv_negN (by omega) (by omega), hux.1, iv_and hu (by omega)] at hz
  have e2 : 2 ^ 32 - 2 ^ n = 2 ^ n * (2 ^ (32 - n) - 1) := by
    rw [Nat.mul_sub, ← Nat.pow_add, Nat.mul_one]
    congr 2; omega
  have tb : ∀ i, (2 ^ 32 - 2 ^ n).testBit i = (decide (n ≤ i) && decide (i - n < 32 - n)) := fun i => by
    rw [e2, Nat.testBit_two_pow_mul, Nat.testBit_two_pow_sub_one]
  have key : u &&& (2 ^ 32 - 2 ^ n) = 0 ↔ u < 2 ^ n := by
    constructor
    · intro h
      apply Nat.lt_pow_two_of_testBit
      intro i hi
      cases hb : u.testBit i
      · rfl
      · exfalso
        have h32 : i < 32 := by
          rcases Nat.lt_or_ge i 32 with g | g
          · exact g
          · rw [Nat.testBit_lt_two_pow (Nat.lt_of_lt_of_le hu (Nat.pow_le_pow_right (by omega) g))] at hb
            cases hb
        have h1 : (u &&& (2 ^ 32 - 2 ^ n)).testBit i = true := by
          rw [Nat.testBit_and, hb, tb i]
          simp; omega
        rw [h] at h1; simp at h1
    · intro h
      apply Nat.eq_of_testBit_eq
      intro i
      rw [Nat.testBit_and, tb i, Nat.zero_testBit]
      rcases Nat.lt_or_ge i n with g | g
      · have : decide (n ≤ i) = false := decide_eq_false (by omega)
        rw [this]; simp
      · rw [Nat.testBit_lt_two_pow (Nat.lt_of_lt_of_le h (Nat.pow_le_pow_right (by omega) g))]; rfl
  have hle : u &&& (2 ^ 32 - 2 ^ n) < 2 ^ 32 := Nat.lt_of_le_of_lt Nat.and_le_left hu
  have hz' : z = 0 ↔ u &&& (2 ^ 32 - 2 ^ n) = 0 := by
    constructor
    · intro e
      subst e
      rw [show (0 : Int) = ((0 : Nat) : Int) from rfl] at hz
      have q := congrArg (fun w : Int32 => w.toBitVec.toNat) hz
      simp only [iv_bv, BitVec.toNat_ofNat, Nat.mod_eq_of_lt hle] at q
      simpa using q
    · intro e
      rw [e] at hz
      have := iv_inj hz (by omega) hz0
      omega
  rw [hz', key]
  rcases hux.2 with ⟨g1, g2⟩ | ⟨g1, g2⟩ <;> omega
/-- the lightest going between two nodes, of the goings below K -/
def ltP (K : Nat) (Tl Hd By W : Nat → Int) (lt : Nat → Int) : Prop := ∀ a b : Nat, a < 16 → b < 16 → (lt (a * 16 + b) = 5000 ∨ ∃ k, k < K ∧ Tl k = (a : Int) ∧ Hd k = (b : Int) ∧ lt (a * 16 + b) = W (By k).toNat) ∧ ∀ k, k < K → Tl k = (a : Int) → Hd k = (b : Int) → lt (a * 16 + b) ≤ W (By k).toNat
theorem ltP_0 {Tl Hd By W : Nat → Int} : ltP 0 Tl Hd By W (fun _ => 5000) := fun a b _ _ => ⟨Or.inl rfl, fun k hk => absurd hk (Nat.not_lt_zero k)⟩
theorem lt_up {Tl Hd By W lt : Nat → Int} {k z : Int} (h : ltP k.toNat Tl Hd By W lt) (h0 : 0 ≤ k) (ht : 0 ≤ Tl k.toNat ∧ Tl k.toNat ≤ 15) (hh : 0 ≤ Hd k.toNat ∧ Hd k.toNat ≤ 15) (hz : (z = lt (Tl k.toNat * 16 + Hd k.toNat).toNat ∨ z = W (By k.toNat).toNat) ∧ z ≤ lt (Tl k.toNat * 16 + Hd k.toNat).toNat ∧ z ≤ W (By k.toNat).toNat) : ltP (k + 1).toNat Tl Hd By W (fup lt (Tl k.toNat * 16 + Hd k.toNat).toNat z) := by
  intro a b ha hb
  rw [tn1 h0]
  obtain ⟨q1, q2⟩ := h a b ha hb
  by_cases e : a * 16 + b = (Tl k.toNat * 16 + Hd k.toNat).toNat
  · have ea : Tl k.toNat = (a : Int) := by omega
    have eb : Hd k.toNat = (b : Int) := by omega
    rw [← e] at hz
    rw [e, fup_s]
    refine ⟨?_, fun j hj h1 h2 => ?_⟩
    · rcases hz.1 with g | g
      · rcases q1 with r | ⟨j, j1, j2, j3, j4⟩
        · exact Or.inl (by omega)
        · exact Or.inr ⟨j, by omega, j2, j3, by omega⟩
      · exact Or.inr ⟨k.toNat, by omega, ea, eb, g⟩
    · by_cases ej : j = k.toNat
      · subst ej; exact hz.2.2
      · have := q2 j (by omega) h1 h2
        omega
  · rw [fup_o _ _ e]
    refine ⟨q1.elim Or.inl (fun ⟨j, j1, j2⟩ => Or.inr ⟨j, by omega, j2⟩), fun j hj h1 h2 => ?_⟩
    by_cases ej : j = k.toNat
    · subst ej; exfalso; omega
    · exact q2 j (by omega) h1 h2
/-- the least sum over nodes below v -/
def l2P (lt : Nat → Int) (a b : Nat) (v least : Int) : Prop := (least = 5000 ∨ ∃ c : Nat, (c : Int) < v ∧ lt (a * 16 + c) < 5000 ∧ lt (c * 16 + b) < 5000 ∧ least = lt (a * 16 + c) + lt (c * 16 + b)) ∧ ∀ c : Nat, (c : Int) < v → lt (a * 16 + c) < 5000 → lt (c * 16 + b) < 5000 → least ≤ lt (a * 16 + c) + lt (c * 16 + b)
theorem l2_no {lt : Nat → Int} {a b : Nat} {v least : Int} (h : l2P lt a b v least) (h0 : 0 ≤ v) (hn : ¬ (lt (a * 16 + v.toNat) < 5000 ∧ lt (v.toNat * 16 + b) < 5000)) : l2P lt a b (v + 1) least := by
  refine ⟨h.1.elim Or.inl (fun ⟨c, c1, c2⟩ => Or.inr ⟨c, by omega, c2⟩), fun c hc h1 h2 => ?_⟩
  by_cases e : c = v.toNat
  · subst e; exact absurd ⟨h1, h2⟩ hn
  · exact h.2 c (by omega) h1 h2
theorem l2_up {lt : Nat → Int} {a b : Nat} {v least z : Int} (h : l2P lt a b v least) (h0 : 0 ≤ v) (h1 : lt (a * 16 + v.toNat) < 5000) (h2 : lt (v.toNat * 16 + b) < 5000) (hz : (z = least ∨ z = lt (a * 16 + v.toNat) + lt (v.toNat * 16 + b)) ∧ z ≤ least ∧ z ≤ lt (a * 16 + v.toNat) + lt (v.toNat * 16 + b)) : l2P lt a b (v + 1) z := by
  refine ⟨?_, fun c hc g1 g2 => ?_⟩
  · rcases hz.1 with g | g
    · rcases h.1 with r | ⟨c, c1, c2, c3, c4⟩
      · exact Or.inl (by omega)
      · exact Or.inr ⟨c, by omega, c2, c3, by omega⟩
    · exact Or.inr ⟨v.toNat, by omega, h1, h2, g⟩
  · by_cases e : c = v.toNat
    · subst e; exact hz.2.2
    · have := h.2 c (by omega) g1 g2
      omega
/-- how goings stand: by their arcs -/
def GoS (m q : Nat) (d : Int) (F T Tl Hd By : Nat → Int) (pos : Nat → Nat) : Prop := pos 0 = 0 ∧ pos m = q ∧ ∀ i, i < m → Tl (pos i) = F i ∧ Hd (pos i) = T i ∧ By (pos i) = (i : Int) ∧ ((d = 0 ∧ F i ≠ T i) → pos (i + 1) = pos i + 2 ∧ Tl (pos i + 1) = T i ∧ Hd (pos i + 1) = F i ∧ By (pos i + 1) = (i : Int)) ∧ (¬ (d = 0 ∧ F i ≠ T i) → pos (i + 1) = pos i + 1)
theorem go_lt {m q : Nat} {d : Int} {F T Tl Hd By : Nat → Int} {pos : Nat → Nat} (h : GoS m q d F T Tl Hd By pos) : ∀ i j, i ≤ j → j ≤ m → pos i ≤ pos j := by
  intro i j hij
  induction j with
  | zero => intro _; rw [show i = 0 by omega]; exact Nat.le_refl _
  | succ j ih =>
    intro hj
    by_cases e : i = j + 1
    · rw [e]; exact Nat.le_refl _
    · have h1 := ih (by omega) (by omega)
      obtain ⟨-, -, -, h5, h6⟩ := h.2.2 j (by omega)
      by_cases hc : d = 0 ∧ F j ≠ T j
      · have := (h5 hc).1; omega
      · have := h6 hc; omega
/-- each going is an arc gone in one of its directions -/
theorem go_arc {m q : Nat} {d : Int} {F T Tl Hd By : Nat → Int} {pos : Nat → Nat} (h : GoS m q d F T Tl Hd By pos) (k : Nat) (hk : k < q) : ∃ i, i < m ∧ By k = (i : Int) ∧ ((Tl k = F i ∧ Hd k = T i) ∨ (d = 0 ∧ F i ≠ T i ∧ Tl k = T i ∧ Hd k = F i)) := by
  have key : ∀ j, j ≤ m → ∀ k, k < pos j → ∃ i, i < j ∧ By k = (i : Int) ∧ ((Tl k = F i ∧ Hd k = T i) ∨ (d = 0 ∧ F i ≠ T i ∧ Tl k = T i ∧ Hd k = F i)) := by
    intro j
    induction j with
    | zero => intro _ k hk; rw [h.1] at hk; omega
    | succ j ih =>
      intro hj k hk
      obtain ⟨h2, h3, h4, h5, h6⟩ := h.2.2 j (by omega)
      by_cases hlt : k < pos j
      · obtain ⟨i, i1, i2⟩ := ih (by omega) k hlt
        exact ⟨i, by omega, i2⟩
      · by_cases hc : d = 0 ∧ F j ≠ T j
        · obtain ⟨g1, g2, g3, g4⟩ := h5 hc
          rcases Nat.lt_or_ge (pos j) k with g | g
          · have e : k = pos j + 1 := by omega
            subst e
            exact ⟨j, by omega, g4, Or.inr ⟨hc.1, hc.2, g2, g3⟩⟩
          · have e : k = pos j := by omega
            subst e
            exact ⟨j, by omega, h4, Or.inl ⟨h2, h3⟩⟩
        · have g1 := h6 hc
          have e : k = pos j := by omega
          subst e
          exact ⟨j, by omega, h4, Or.inl ⟨h2, h3⟩⟩
  obtain ⟨i, i1, i2⟩ := key m (Nat.le_refl _) k (by rw [h.2.1]; exact hk)
  exact ⟨i, i1, i2⟩
/-- each step is a going -/
theorem arc_go {m q : Nat} {d : Int} {F T Tl Hd By : Nat → Int} {pos : Nat → Nat} (h : GoS m q d F T Tl Hd By pos) {i : Nat} (hi : i < m) {a b : Int} (hg : goP d F T i a b) : ∃ k, k < q ∧ By k = (i : Int) ∧ Tl k = a ∧ Hd k = b := by
  obtain ⟨h2, h3, h4, h5, h6⟩ := h.2.2 i hi
  have hle := go_lt h (i + 1) m (by omega) (Nat.le_refl _)
  rw [h.2.1] at hle
  by_cases hc : d = 0 ∧ F i ≠ T i
  · obtain ⟨g1, g2, g3, g4⟩ := h5 hc
    rcases hg with ⟨e1, e2⟩ | ⟨e0, e1, e2⟩
    · exact ⟨pos i, by omega, h4, by omega, by omega⟩
    · exact ⟨pos i + 1, by omega, g4, by omega, by omega⟩
  · have g1 := h6 hc
    rcases hg with ⟨e1, e2⟩ | ⟨e0, e1, e2⟩
    · exact ⟨pos i, by omega, h4, by omega, by omega⟩
    · have e : F i = T i := Classical.byContradiction (fun h9 => hc ⟨e0, h9⟩)
      exact ⟨pos i, by omega, h4, by omega, by omega⟩
theorem go_goP {m q : Nat} {d : Int} {F T Tl Hd By : Nat → Int} {pos : Nat → Nat} (h : GoS m q d F T Tl Hd By pos) (k : Nat) (hk : k < q) : ∃ i, i < m ∧ By k = (i : Int) ∧ goP d F T i (Tl k) (Hd k) := by
  obtain ⟨i, i1, i2, i3⟩ := go_arc h k hk
  refine ⟨i, i1, i2, ?_⟩
  rcases i3 with ⟨e1, e2⟩ | ⟨e0, -, e1, e2⟩
  · exact Or.inl ⟨e1.symm, e2.symm⟩
  · exact Or.inr ⟨e0, e1.symm, e2.symm⟩
/-- the least sum of two goings is the least of two arcs -/
theorem sq_cls {m q : Nat} {d : Int} {F T W Tl Hd By lt : Nat → Int} {pos : Nat → Nat} {n : Nat} (h : GoS m q d F T Tl Hd By pos) (hl : ltP q Tl Hd By W lt) (hn : n ≤ 16) (hF : ∀ k, k < m → (0 ≤ F k ∧ F k < (n : Int)) ∧ (0 ≤ T k ∧ T k < (n : Int))) (hW : ∀ k, k < m → -1000 ≤ W k ∧ W k ≤ 1000) {a b : Nat} (ha : a < n) (hb : b < n) {least : Int} (h2 : l2P lt a b (n : Int) least) : (least < 5000 → sqP m d F T W (a : Int) (b : Int) least) ∧ (¬ least < 5000 → ∀ w, ¬ sqP m d F T W (a : Int) (b : Int) w) := by
  have low : ∀ e f c, e < m → f < m → goP d F T e (a : Int) c → goP d F T f c (b : Int) → least ≤ W e + W f ∧ least < 5000 := by
    intro e f c he hf g1 g2
    have hc : 0 ≤ c ∧ c < (n : Int) := by
      have := hF e he
      rcases g1 with ⟨e1, e2⟩ | ⟨e0, e1, e2⟩ <;> omega
    obtain ⟨k1, a1, a2, a3, a4⟩ := arc_go h he g1
    obtain ⟨k2, b1, b2, b3, b4⟩ := arc_go h hf g2
    have ec : ((c.toNat : Nat) : Int) = c := by omega
    have l1 := (hl a c.toNat (by omega) (by omega)).2 k1 a1 a3 (by omega)
    have l2 := (hl c.toNat b (by omega) (by omega)).2 k2 b1 (by omega) b4
    rw [a2, Int.toNat_natCast] at l1
    rw [b2, Int.toNat_natCast] at l2
    have w1 := hW e he
    have w2 := hW f hf
    have := h2.2 c.toNat (by omega) (by omega) (by omega)
    omega
  constructor
  · intro hlt
    refine ⟨?_, fun e f c he hf g1 g2 => (low e f c he hf g1 g2).1⟩
    rcases h2.1 with e | ⟨c, c1, c2, c3, c4⟩
    · omega
    · rcases (hl a c (by omega) (by omega)).1 with e | ⟨k1, p1, p2, p3, p4⟩
      · omega
      · rcases (hl c b (by omega) (by omega)).1 with e | ⟨k2, r1, r2, r3, r4⟩
        · omega
        · obtain ⟨i1, s1, s2, s3⟩ := go_goP h k1 p1
          obtain ⟨i2, t1, t2, t3⟩ := go_goP h k2 r1
          rw [p2, p3] at s3
          rw [r2, r3] at t3
          rw [s2, Int.toNat_natCast] at p4
          rw [t2, Int.toNat_natCast] at r4
          exact ⟨i1, i2, (c : Int), s1, t1, s3, t3, by omega⟩
  · rintro hlt w ⟨⟨e, f, c, he, hf, g1, g2, g3⟩, -⟩
    exact hlt (low e f c he hf g1 g2).2
set_option maxHeartbeats 4000000 in
set_option maxRecDepth 100000 in
theorem c_X3_haveSameEndsx {D : va_G} {cI cJ cZ cT : ClassId} {lo b L : Nat} {xs : Nat → Int32} {hp : MH} {n d : Nat} {Γ : TG} {ga : Nat} {gF : Nat} {gT : Nat} {gW : Nat} {gC : Nat} {gTl : Nat} {gHd : Nat} {gBy : Nat} {gOu : Nat} {gIn : Nat} {gJo : Nat} {gn : Nat} {gm : Nat} {gq : Nat} {gdr : Int} {F T W C Tl Hd By Ou In Jo : Nat → Int} {x1 x2 : Int} (hd0 : 0 ≤ d) (hg : TyG Γ cI cJ cZ ga gF gT gW gC gTl gHd gBy gOu gIn gJo gn gm gq gdr) (hxg : XG Γ cI gF gT gW gC gTl gHd gBy gOu gIn gJo gn gm gq F T W C Tl Hd By Ou In Jo) (ht : Tw Γ hp) (hx1 : 0 ≤ x1 ∧ x1 ≤ 59) (hx2 : 0 ≤ x2 ∧ x2 ≤ 59) (hk : x1 < (gm : Int) ∧ x2 < (gm : Int)) : Mt (gG D cI cJ cZ cT lo b L xs) mX3_haveSameEnds d 0 0 [.ref ga, .int (iv x1), .int (iv x2)] hp n (pI Γ n (fun r => ((0 ≤ r ∧ r ≤ 1) ∧ (r = 1 ↔ seP gdr F T (Int.toNat x1) (Int.toNat x2))))) := by
  refine Mt.of rfl (Nat.le_of_ble_eq_true rfl) ?_
  refine Rn.pick (lv' := [(0, .ref ga), (1, .int (iv x1)), (2, .int (iv x2))]) [0, 1, 2] rfl ?_
  obtain ⟨hg_O, hg_from, hg_to, hg_weight, hg_cost, hg_tail, hg_head, hg_by, hg_out, hg_in, hg_joined, hg_b⟩ := id hg
  obtain ⟨⟨hxg_F, hxg_T, hxg_W, hxg_C, hxg_Tl, hxg_Hd, hxg_By, hxg_Ou, hxg_In, hxg_Jo⟩, ⟨hrg_F, hrg_T, hrg_W, hrg_C, hrg_Tl, hrg_Hd, hrg_By, hrg_Ou, hrg_In, hrg_Jo⟩, houg⟩ := id hxg
  have hgb := hg_b
  refine r_aload_n (pc := 0) dX3_haveSameEnds_0 (i := 0) rfl rfl ?_
  refine t_getE (pc := 1) (.ref gF) ht hg_O fX3_36 dX3_haveSameEnds_1 rfl ?_
  refine r_iload_n (pc := 4) dX3_haveSameEnds_4 (i := 1) rfl rfl ?_
  refine t_ialdX (pc := 5) (t0 := 0) ht hxg_F dX3_haveSameEnds_5 rfl (by omega) (by omega) (fun b1 => ?_)
  have rb1 := (show Rfx gm 0 ((gn : Int) - 1) F by assumption) (Int.toNat x1) (by omega)
  refine r_aload_n (pc := 6) dX3_haveSameEnds_6 (i := 0) rfl rfl ?_
  refine t_getE (pc := 7) (.ref gF) ht hg_O fX3_36 dX3_haveSameEnds_7 rfl ?_
  refine r_iload_n (pc := 10) dX3_haveSameEnds_10 (i := 2) rfl rfl ?_
  refine t_ialdX (pc := 11) (t0 := 0) ht hxg_F dX3_haveSameEnds_11 rfl (by omega) (by omega) (fun b2 => ?_)
  have rb2 := (show Rfx gm 0 ((gn : Int) - 1) F by assumption) (Int.toNat x2) (by omega)
  refine t_icmp_ne (pc := 12) (tgt := 30) dX3_haveSameEnds_12 (by decide) (by omega) (by omega) (fun c12 => ?_) (fun c12 => ?_)
  · refine r_aload_n (pc := 30) dX3_haveSameEnds_30 (i := 0) rfl rfl ?_
    refine t_getE (pc := 31) (.int (iv gdr)) ht hg_O fX3_19 dX3_haveSameEnds_31 rfl ?_
    refine t_if_ne (pc := 34) (tgt := 71) dX3_haveSameEnds_34 (by decide) (by omega) (fun c34 => ?_) (fun c34 => ?_)
    · refine r_iconst (pc := 71) (v := iv 0) dX3_haveSameEnds_71 (by decide) ?_
      exact r_zret (pc := 72) dX3_haveSameEnds_72 rfl (iv_nar (by omega)) ⟨rfl, ht, _, rfl, by unfold seP; omega⟩
    · refine r_aload_n (pc := 37) dX3_haveSameEnds_37 (i := 0) rfl rfl ?_
      refine t_getE (pc := 38) (.ref gF) ht hg_O fX3_36 dX3_haveSameEnds_38 rfl ?_
      refine r_iload_n (pc := 41) dX3_haveSameEnds_41 (i := 1) rfl rfl ?_
      refine t_ialdX (pc := 42) (t0 := 0) ht hxg_F dX3_haveSameEnds_42 rfl (by omega) (by omega) (fun b3 => ?_)
      have rb3 := (show Rfx gm 0 ((gn : Int) - 1) F by assumption) (Int.toNat x1) (by omega)
      refine r_aload_n (pc := 43) dX3_haveSameEnds_43 (i := 0) rfl rfl ?_
      refine t_getE (pc := 44) (.ref gT) ht hg_O fX3_40 dX3_haveSameEnds_44 rfl ?_
      refine r_iload_n (pc := 47) dX3_haveSameEnds_47 (i := 2) rfl rfl ?_
      refine t_ialdX (pc := 48) (t0 := 0) ht hxg_T dX3_haveSameEnds_48 rfl (by omega) (by omega) (fun b4 => ?_)
      have rb4 := (show Rfx gm 0 ((gn : Int) - 1) T by assumption) (Int.toNat x2) (by omega)
      refine t_icmp_ne (pc := 49) (tgt := 71) dX3_haveSameEnds_49 (by decide) (by omega) (by omega) (fun c49 => ?_) (fun c49 => ?_)
      · refine r_iconst (pc := 71) (v := iv 0) dX3_haveSameEnds_71 (by decide) ?_
        exact r_zret (pc := 72) dX3_haveSameEnds_72 rfl (iv_nar (by omega)) ⟨rfl, ht, _, rfl, by unfold seP; omega⟩
      · refine r_aload_n (pc := 52) dX3_haveSameEnds_52 (i := 0) rfl rfl ?_
        refine t_getE (pc := 53) (.ref gT) ht hg_O fX3_40 dX3_haveSameEnds_53 rfl ?_
        refine r_iload_n (pc := 56) dX3_haveSameEnds_56 (i := 1) rfl rfl ?_
        refine t_ialdX (pc := 57) (t0 := 0) ht hxg_T dX3_haveSameEnds_57 rfl (by omega) (by omega) (fun b5 => ?_)
        have rb5 := (show Rfx gm 0 ((gn : Int) - 1) T by assumption) (Int.toNat x1) (by omega)
        refine r_aload_n (pc := 58) dX3_haveSameEnds_58 (i := 0) rfl rfl ?_
        refine t_getE (pc := 59) (.ref gF) ht hg_O fX3_36 dX3_haveSameEnds_59 rfl ?_
        refine r_iload_n (pc := 62) dX3_haveSameEnds_62 (i := 2) rfl rfl ?_
        refine t_ialdX (pc := 63) (t0 := 0) ht hxg_F dX3_haveSameEnds_63 rfl (by omega) (by omega) (fun b6 => ?_)
        have rb6 := (show Rfx gm 0 ((gn : Int) - 1) F by assumption) (Int.toNat x2) (by omega)
        refine t_icmp_ne (pc := 64) (tgt := 71) dX3_haveSameEnds_64 (by decide) (by omega) (by omega) (fun c64 => ?_) (fun c64 => ?_)
        · refine r_iconst (pc := 71) (v := iv 0) dX3_haveSameEnds_71 (by decide) ?_
          exact r_zret (pc := 72) dX3_haveSameEnds_72 rfl (iv_nar (by omega)) ⟨rfl, ht, _, rfl, by unfold seP; omega⟩
        · refine r_iconst (pc := 67) (v := iv 1) dX3_haveSameEnds_67 (by decide) ?_
          refine r_goto (pc := 68) (tgt := 72) dX3_haveSameEnds_68 (by decide) ?_
          exact r_zret (pc := 72) dX3_haveSameEnds_72 rfl (iv_nar (by omega)) ⟨rfl, ht, _, rfl, by unfold seP; omega⟩
  · refine r_aload_n (pc := 15) dX3_haveSameEnds_15 (i := 0) rfl rfl ?_
    refine t_getE (pc := 16) (.ref gT) ht hg_O fX3_40 dX3_haveSameEnds_16 rfl ?_
    refine r_iload_n (pc := 19) dX3_haveSameEnds_19 (i := 1) rfl rfl ?_
    refine t_ialdX (pc := 20) (t0 := 0) ht hxg_T dX3_haveSameEnds_20 rfl (by omega) (by omega) (fun b7 => ?_)
    have rb7 := (show Rfx gm 0 ((gn : Int) - 1) T by assumption) (Int.toNat x1) (by omega)
    refine r_aload_n (pc := 21) dX3_haveSameEnds_21 (i := 0) rfl rfl ?_
    refine t_getE (pc := 22) (.ref gT) ht hg_O fX3_40 dX3_haveSameEnds_22 rfl ?_
    refine r_iload_n (pc := 25) dX3_haveSameEnds_25 (i := 2) rfl rfl ?_
    refine t_ialdX (pc := 26) (t0 := 0) ht hxg_T dX3_haveSameEnds_26 rfl (by omega) (by omega) (fun b8 => ?_)
    have rb8 := (show Rfx gm 0 ((gn : Int) - 1) T by assumption) (Int.toNat x2) (by omega)
    refine t_icmp_eq (pc := 27) (tgt := 67) dX3_haveSameEnds_27 (by decide) (by omega) (by omega) (fun c27 => ?_) (fun c27 => ?_)
    · refine r_iconst (pc := 67) (v := iv 1) dX3_haveSameEnds_67 (by decide) ?_
      refine r_goto (pc := 68) (tgt := 72) dX3_haveSameEnds_68 (by decide) ?_
      exact r_zret (pc := 72) dX3_haveSameEnds_72 rfl (iv_nar (by omega)) ⟨rfl, ht, _, rfl, by unfold seP; omega⟩
    · refine r_aload_n (pc := 30) dX3_haveSameEnds_30 (i := 0) rfl rfl ?_
      refine t_getE (pc := 31) (.int (iv gdr)) ht hg_O fX3_19 dX3_haveSameEnds_31 rfl ?_
      refine t_if_ne (pc := 34) (tgt := 71) dX3_haveSameEnds_34 (by decide) (by omega) (fun c34 => ?_) (fun c34 => ?_)
      · refine r_iconst (pc := 71) (v := iv 0) dX3_haveSameEnds_71 (by decide) ?_
        exact r_zret (pc := 72) dX3_haveSameEnds_72 rfl (iv_nar (by omega)) ⟨rfl, ht, _, rfl, by unfold seP; omega⟩
      · refine r_aload_n (pc := 37) dX3_haveSameEnds_37 (i := 0) rfl rfl ?_
        refine t_getE (pc := 38) (.ref gF) ht hg_O fX3_36 dX3_haveSameEnds_38 rfl ?_
        refine r_iload_n (pc := 41) dX3_haveSameEnds_41 (i := 1) rfl rfl ?_
        refine t_ialdX (pc := 42) (t0 := 0) ht hxg_F dX3_haveSameEnds_42 rfl (by omega) (by omega) (fun b9 => ?_)
        have rb9 := (show Rfx gm 0 ((gn : Int) - 1) F by assumption) (Int.toNat x1) (by omega)
        refine r_aload_n (pc := 43) dX3_haveSameEnds_43 (i := 0) rfl rfl ?_
        refine t_getE (pc := 44) (.ref gT) ht hg_O fX3_40 dX3_haveSameEnds_44 rfl ?_
        refine r_iload_n (pc := 47) dX3_haveSameEnds_47 (i := 2) rfl rfl ?_
        refine t_ialdX (pc := 48) (t0 := 0) ht hxg_T dX3_haveSameEnds_48 rfl (by omega) (by omega) (fun b10 => ?_)
        have rb10 := (show Rfx gm 0 ((gn : Int) - 1) T by assumption) (Int.toNat x2) (by omega)
        refine t_icmp_ne (pc := 49) (tgt := 71) dX3_haveSameEnds_49 (by decide) (by omega) (by omega) (fun c49 => ?_) (fun c49 => ?_)
        · refine r_iconst (pc := 71) (v := iv 0) dX3_haveSameEnds_71 (by decide) ?_
          exact r_zret (pc := 72) dX3_haveSameEnds_72 rfl (iv_nar (by omega)) ⟨rfl, ht, _, rfl, by unfold seP; omega⟩
        · refine r_aload_n (pc := 52) dX3_haveSameEnds_52 (i := 0) rfl rfl ?_
          refine t_getE (pc := 53) (.ref gT) ht hg_O fX3_40 dX3_haveSameEnds_53 rfl ?_
          refine r_iload_n (pc := 56) dX3_haveSameEnds_56 (i := 1) rfl rfl ?_
          refine t_ialdX (pc := 57) (t0 := 0) ht hxg_T dX3_haveSameEnds_57 rfl (by omega) (by omega) (fun b11 => ?_)
          have rb11 := (show Rfx gm 0 ((gn : Int) - 1) T by assumption) (Int.toNat x1) (by omega)
          refine r_aload_n (pc := 58) dX3_haveSameEnds_58 (i := 0) rfl rfl ?_
          refine t_getE (pc := 59) (.ref gF) ht hg_O fX3_36 dX3_haveSameEnds_59 rfl ?_
          refine r_iload_n (pc := 62) dX3_haveSameEnds_62 (i := 2) rfl rfl ?_
          refine t_ialdX (pc := 63) (t0 := 0) ht hxg_F dX3_haveSameEnds_63 rfl (by omega) (by omega) (fun b12 => ?_)
          have rb12 := (show Rfx gm 0 ((gn : Int) - 1) F by assumption) (Int.toNat x2) (by omega)
          refine t_icmp_ne (pc := 64) (tgt := 71) dX3_haveSameEnds_64 (by decide) (by omega) (by omega) (fun c64 => ?_) (fun c64 => ?_)
          · refine r_iconst (pc := 71) (v := iv 0) dX3_haveSameEnds_71 (by decide) ?_
            exact r_zret (pc := 72) dX3_haveSameEnds_72 rfl (iv_nar (by omega)) ⟨rfl, ht, _, rfl, by unfold seP; omega⟩
          · refine r_iconst (pc := 67) (v := iv 1) dX3_haveSameEnds_67 (by decide) ?_
            refine r_goto (pc := 68) (tgt := 72) dX3_haveSameEnds_68 (by decide) ?_
            exact r_zret (pc := 72) dX3_haveSameEnds_72 rfl (iv_nar (by omega)) ⟨rfl, ht, _, rfl, by unfold seP; omega⟩
set_option maxHeartbeats 4000000 in
set_option maxRecDepth 100000 in
theorem c_X3_shareNodex {D : va_G} {cI cJ cZ cT : ClassId} {lo b L : Nat} {xs : Nat → Int32} {hp : MH} {n d : Nat} {Γ : TG} {ga : Nat} {gF : Nat} {gT : Nat} {gW : Nat} {gC : Nat} {gTl : Nat} {gHd : Nat} {gBy : Nat} {gOu : Nat} {gIn : Nat} {gJo : Nat} {gn : Nat} {gm : Nat} {gq : Nat} {gdr : Int} {F T W C Tl Hd By Ou In Jo : Nat → Int} {x1 x2 : Int} (hd0 : 0 ≤ d) (hg : TyG Γ cI cJ cZ ga gF gT gW gC gTl gHd gBy gOu gIn gJo gn gm gq gdr) (hxg : XG Γ cI gF gT gW gC gTl gHd gBy gOu gIn gJo gn gm gq F T W C Tl Hd By Ou In Jo) (ht : Tw Γ hp) (hx1 : 0 ≤ x1 ∧ x1 ≤ 59) (hx2 : 0 ≤ x2 ∧ x2 ≤ 59) (hk : x1 < (gm : Int) ∧ x2 < (gm : Int)) : Mt (gG D cI cJ cZ cT lo b L xs) mX3_shareNode d 0 0 [.ref ga, .int (iv x1), .int (iv x2)] hp n (pI Γ n (fun r => ((0 ≤ r ∧ r ≤ 1) ∧ (r = 1 ↔ (F (Int.toNat x1) = F (Int.toNat x2) ∨ F (Int.toNat x1) = T (Int.toNat x2) ∨ T (Int.toNat x1) = F (Int.toNat x2) ∨ T (Int.toNat x1) = T (Int.toNat x2)))))) := by
  refine Mt.of rfl (Nat.le_of_ble_eq_true rfl) ?_
  refine Rn.pick (lv' := [(0, .ref ga), (1, .int (iv x1)), (2, .int (iv x2))]) [0, 1, 2] rfl ?_
  obtain ⟨hg_O, hg_from, hg_to, hg_weight, hg_cost, hg_tail, hg_head, hg_by, hg_out, hg_in, hg_joined, hg_b⟩ := id hg
  obtain ⟨⟨hxg_F, hxg_T, hxg_W, hxg_C, hxg_Tl, hxg_Hd, hxg_By, hxg_Ou, hxg_In, hxg_Jo⟩, ⟨hrg_F, hrg_T, hrg_W, hrg_C, hrg_Tl, hrg_Hd, hrg_By, hrg_Ou, hrg_In, hrg_Jo⟩, houg⟩ := id hxg
  have hgb := hg_b
  refine r_aload_n (pc := 0) dX3_shareNode_0 (i := 0) rfl rfl ?_
  refine t_getE (pc := 1) (.ref gF) ht hg_O fX3_36 dX3_shareNode_1 rfl ?_
  refine r_iload_n (pc := 4) dX3_shareNode_4 (i := 1) rfl rfl ?_
  refine t_ialdX (pc := 5) (t0 := 0) ht hxg_F dX3_shareNode_5 rfl (by omega) (by omega) (fun b1 => ?_)
  have rb1 := (show Rfx gm 0 ((gn : Int) - 1) F by assumption) (Int.toNat x1) (by omega)
  refine r_aload_n (pc := 6) dX3_shareNode_6 (i := 0) rfl rfl ?_
  refine t_getE (pc := 7) (.ref gF) ht hg_O fX3_36 dX3_shareNode_7 rfl ?_
  refine r_iload_n (pc := 10) dX3_shareNode_10 (i := 2) rfl rfl ?_
  refine t_ialdX (pc := 11) (t0 := 0) ht hxg_F dX3_shareNode_11 rfl (by omega) (by omega) (fun b2 => ?_)
  have rb2 := (show Rfx gm 0 ((gn : Int) - 1) F by assumption) (Int.toNat x2) (by omega)
  refine t_icmp_eq (pc := 12) (tgt := 60) dX3_shareNode_12 (by decide) (by omega) (by omega) (fun c12 => ?_) (fun c12 => ?_)
  · refine r_iconst (pc := 60) (v := iv 1) dX3_shareNode_60 (by decide) ?_
    refine r_goto (pc := 61) (tgt := 65) dX3_shareNode_61 (by decide) ?_
    exact r_zret (pc := 65) dX3_shareNode_65 rfl (iv_nar (by omega)) ⟨rfl, ht, _, rfl, by omega⟩
  · refine r_aload_n (pc := 15) dX3_shareNode_15 (i := 0) rfl rfl ?_
    refine t_getE (pc := 16) (.ref gF) ht hg_O fX3_36 dX3_shareNode_16 rfl ?_
    refine r_iload_n (pc := 19) dX3_shareNode_19 (i := 1) rfl rfl ?_
    refine t_ialdX (pc := 20) (t0 := 0) ht hxg_F dX3_shareNode_20 rfl (by omega) (by omega) (fun b3 => ?_)
    have rb3 := (show Rfx gm 0 ((gn : Int) - 1) F by assumption) (Int.toNat x1) (by omega)
    refine r_aload_n (pc := 21) dX3_shareNode_21 (i := 0) rfl rfl ?_
    refine t_getE (pc := 22) (.ref gT) ht hg_O fX3_40 dX3_shareNode_22 rfl ?_
    refine r_iload_n (pc := 25) dX3_shareNode_25 (i := 2) rfl rfl ?_
    refine t_ialdX (pc := 26) (t0 := 0) ht hxg_T dX3_shareNode_26 rfl (by omega) (by omega) (fun b4 => ?_)
    have rb4 := (show Rfx gm 0 ((gn : Int) - 1) T by assumption) (Int.toNat x2) (by omega)
    refine t_icmp_eq (pc := 27) (tgt := 60) dX3_shareNode_27 (by decide) (by omega) (by omega) (fun c27 => ?_) (fun c27 => ?_)
    · refine r_iconst (pc := 60) (v := iv 1) dX3_shareNode_60 (by decide) ?_
      refine r_goto (pc := 61) (tgt := 65) dX3_shareNode_61 (by decide) ?_
      exact r_zret (pc := 65) dX3_shareNode_65 rfl (iv_nar (by omega)) ⟨rfl, ht, _, rfl, by omega⟩
    · refine r_aload_n (pc := 30) dX3_shareNode_30 (i := 0) rfl rfl ?_
      refine t_getE (pc := 31) (.ref gT) ht hg_O fX3_40 dX3_shareNode_31 rfl ?_
      refine r_iload_n (pc := 34) dX3_shareNode_34 (i := 1) rfl rfl ?_
      refine t_ialdX (pc := 35) (t0 := 0) ht hxg_T dX3_shareNode_35 rfl (by omega) (by omega) (fun b5 => ?_)
      have rb5 := (show Rfx gm 0 ((gn : Int) - 1) T by assumption) (Int.toNat x1) (by omega)
      refine r_aload_n (pc := 36) dX3_shareNode_36 (i := 0) rfl rfl ?_
      refine t_getE (pc := 37) (.ref gF) ht hg_O fX3_36 dX3_shareNode_37 rfl ?_
      refine r_iload_n (pc := 40) dX3_shareNode_40 (i := 2) rfl rfl ?_
      refine t_ialdX (pc := 41) (t0 := 0) ht hxg_F dX3_shareNode_41 rfl (by omega) (by omega) (fun b6 => ?_)
      have rb6 := (show Rfx gm 0 ((gn : Int) - 1) F by assumption) (Int.toNat x2) (by omega)
      refine t_icmp_eq (pc := 42) (tgt := 60) dX3_shareNode_42 (by decide) (by omega) (by omega) (fun c42 => ?_) (fun c42 => ?_)
      · refine r_iconst (pc := 60) (v := iv 1) dX3_shareNode_60 (by decide) ?_
        refine r_goto (pc := 61) (tgt := 65) dX3_shareNode_61 (by decide) ?_
        exact r_zret (pc := 65) dX3_shareNode_65 rfl (iv_nar (by omega)) ⟨rfl, ht, _, rfl, by omega⟩
      · refine r_aload_n (pc := 45) dX3_shareNode_45 (i := 0) rfl rfl ?_
        refine t_getE (pc := 46) (.ref gT) ht hg_O fX3_40 dX3_shareNode_46 rfl ?_
        refine r_iload_n (pc := 49) dX3_shareNode_49 (i := 1) rfl rfl ?_
        refine t_ialdX (pc := 50) (t0 := 0) ht hxg_T dX3_shareNode_50 rfl (by omega) (by omega) (fun b7 => ?_)
        have rb7 := (show Rfx gm 0 ((gn : Int) - 1) T by assumption) (Int.toNat x1) (by omega)
        refine r_aload_n (pc := 51) dX3_shareNode_51 (i := 0) rfl rfl ?_
        refine t_getE (pc := 52) (.ref gT) ht hg_O fX3_40 dX3_shareNode_52 rfl ?_
        refine r_iload_n (pc := 55) dX3_shareNode_55 (i := 2) rfl rfl ?_
        refine t_ialdX (pc := 56) (t0 := 0) ht hxg_T dX3_shareNode_56 rfl (by omega) (by omega) (fun b8 => ?_)
        have rb8 := (show Rfx gm 0 ((gn : Int) - 1) T by assumption) (Int.toNat x2) (by omega)
        refine t_icmp_ne (pc := 57) (tgt := 64) dX3_shareNode_57 (by decide) (by omega) (by omega) (fun c57 => ?_) (fun c57 => ?_)
        · refine r_iconst (pc := 64) (v := iv 0) dX3_shareNode_64 (by decide) ?_
          exact r_zret (pc := 65) dX3_shareNode_65 rfl (iv_nar (by omega)) ⟨rfl, ht, _, rfl, by omega⟩
        · refine r_iconst (pc := 60) (v := iv 1) dX3_shareNode_60 (by decide) ?_
          refine r_goto (pc := 61) (tgt := 65) dX3_shareNode_61 (by decide) ?_
          exact r_zret (pc := 65) dX3_shareNode_65 rfl (iv_nar (by omega)) ⟨rfl, ht, _, rfl, by omega⟩
set_option maxHeartbeats 4000000 in
set_option maxRecDepth 100000 in
theorem c_X3_allNodesx {D : va_G} {cI cJ cZ cT : ClassId} {lo b L : Nat} {xs : Nat → Int32} {hp : MH} {n d : Nat} {Γ : TG} {ga : Nat} {gF : Nat} {gT : Nat} {gW : Nat} {gC : Nat} {gTl : Nat} {gHd : Nat} {gBy : Nat} {gOu : Nat} {gIn : Nat} {gJo : Nat} {gn : Nat} {gm : Nat} {gq : Nat} {gdr : Int} {F T W C Tl Hd By Ou In Jo : Nat → Int} (hd0 : 0 ≤ d) (hg : TyG Γ cI cJ cZ ga gF gT gW gC gTl gHd gBy gOu gIn gJo gn gm gq gdr) (hxg : XG Γ cI gF gT gW gC gTl gHd gBy gOu gIn gJo gn gm gq F T W C Tl Hd By Ou In Jo) (ht : Tw Γ hp)  : Mt (gG D cI cJ cZ cT lo b L xs) mX3_allNodes d 0 0 [.ref ga] hp n (pI Γ n (fun r => (r = ((2 ^ gn : Nat) : Int) - 1))) := by
  refine Mt.of rfl (Nat.le_of_ble_eq_true rfl) ?_
  refine Rn.pick (lv' := [(0, .ref ga)]) [0] rfl ?_
  obtain ⟨hg_O, hg_from, hg_to, hg_weight, hg_cost, hg_tail, hg_head, hg_by, hg_out, hg_in, hg_joined, hg_b⟩ := id hg
  obtain ⟨⟨hxg_F, hxg_T, hxg_W, hxg_C, hxg_Tl, hxg_Hd, hxg_By, hxg_Ou, hxg_In, hxg_Jo⟩, ⟨hrg_F, hrg_T, hrg_W, hrg_C, hrg_Tl, hrg_Hd, hrg_By, hrg_Ou, hrg_In, hrg_Jo⟩, houg⟩ := id hxg
  have hgb := hg_b
  refine r_iconst (pc := 0) (v := iv 1) dX3_allNodes_0 (by decide) ?_
  refine r_aload_n (pc := 1) dX3_allNodes_1 (i := 0) rfl rfl ?_
  refine t_getE (pc := 2) (.int (iv (gn : Int))) ht hg_O fX3_49 dX3_allNodes_2 rfl ?_
  have mp5 : 1 ≤ 2 ^ gn := Nat.one_le_two_pow
  have mq5 : 2 ^ gn ≤ 2 ^ 16 := Nat.pow_le_pow_right (by omega) (by omega)
  refine r_ishl (pc := 5) (v := iv ((2 ^ gn : Nat) : Int)) dX3_allNodes_5 (by have h9 := shl_e (v := ((gn : Nat) : Int)) (by omega); rw [Int.toNat_natCast] at h9; exact h9) ?_
  refine r_iconst (pc := 6) (v := iv 1) dX3_allNodes_6 (by decide) ?_
  refine r_isub (pc := 7) (v := iv (((2 ^ gn : Nat) : Int) - 1)) dX3_allNodes_7 (iv_sub _ _) ?_
  exact r_iret (pc := 8) dX3_allNodes_8 rfl ⟨rfl, ht, _, rfl, by rfl⟩
set_option maxHeartbeats 4000000 in
set_option maxRecDepth 100000 in
theorem c_X1_isLightestx {D : va_G} {cI cJ cZ cT : ClassId} {lo b L : Nat} {xs : Nat → Int32} {hp : MH} {n d : Nat} {Γ : TG} {ga : Nat} {gF : Nat} {gT : Nat} {gW : Nat} {gC : Nat} {gTl : Nat} {gHd : Nat} {gBy : Nat} {gOu : Nat} {gIn : Nat} {gJo : Nat} {gn : Nat} {gm : Nat} {gq : Nat} {gdr : Int} {F T W C Tl Hd By Ou In Jo : Nat → Int} {x1 : Int} (hd0 : 1 ≤ d) (hg : TyG Γ cI cJ cZ ga gF gT gW gC gTl gHd gBy gOu gIn gJo gn gm gq gdr) (hxg : XG Γ cI gF gT gW gC gTl gHd gBy gOu gIn gJo gn gm gq F T W C Tl Hd By Ou In Jo) (ht : Tw Γ hp) (hx1 : 0 ≤ x1 ∧ x1 ≤ 59) (hk : x1 < (gm : Int)) : Mt (gG D cI cJ cZ cT lo b L xs) mX1_isLightestOfItsEnds d 0 0 [.ref ga, .int (iv x1)] hp n (pI Γ n (fun r => ((0 ≤ r ∧ r ≤ 1) ∧ (r = 1 ↔ lgP gm gdr F T W (Int.toNat x1))))) := by
  refine Mt.of rfl (Nat.le_of_ble_eq_true rfl) ?_
  refine Rn.pick (lv' := [(0, .ref ga), (1, .int (iv x1))]) [0, 1] rfl ?_
  obtain ⟨hg_O, hg_from, hg_to, hg_weight, hg_cost, hg_tail, hg_head, hg_by, hg_out, hg_in, hg_joined, hg_b⟩ := id hg
  obtain ⟨⟨hxg_F, hxg_T, hxg_W, hxg_C, hxg_Tl, hxg_Hd, hxg_By, hxg_Ou, hxg_In, hxg_Jo⟩, ⟨hrg_F, hrg_T, hrg_W, hrg_C, hrg_Tl, hrg_Hd, hrg_By, hrg_Ou, hrg_In, hrg_Jo⟩, houg⟩ := id hxg
  have hgb := hg_b
  refine r_iconst (pc := 0) (v := iv 0) dX1_isLightestOfItsEnds_0 (by decide) ?_
  refine r_istore_n (pc := 1) (lv' := [(2, .int (iv 0)), (0, .ref ga), (1, .int (iv x1))]) dX1_isLightestOfItsEnds_1 (i := 2) rfl (by decide) rfl ?_
  have B2 : ∀ k : Nat, ∀ hp2 : MH, Tw Γ hp2 → ∀  (v2_2 : Int), 0 ≤ v2_2 ∧ v2_2 ≤ 60 ∧ (v2_2 ≤ (gm : Int)) ∧ (lgP (Int.toNat v2_2) gdr F T W (Int.toNat x1)) → 60 - v2_2 ≤ (k : Int) → Rn (gG D cI cJ cZ cT lo b L xs) mX1_isLightestOfItsEnds d 2 [(0, .ref ga), (1, .int (iv x1)), (2, .int (iv v2_2))] [] hp2 n 0 0 (pI Γ n (fun r => ((0 ≤ r ∧ r ≤ 1) ∧ (r = 1 ↔ lgP gm gdr F T W (Int.toNat x1))))) := by
    refine lpS _ ?_
    intro k2 ih2 hp2 ht2 v2_2 hf2 hm2
    obtain ⟨hf2_0, hf2_1, hf2_2, ha2_3⟩ := hf2
    refine r_iload_n (pc := 2) dX1_isLightestOfItsEnds_2 (i := 2) rfl rfl ?_
    refine r_aload_n (pc := 3) dX1_isLightestOfItsEnds_3 (i := 0) rfl rfl ?_
    refine t_getE (pc := 4) (.int (iv (gm : Int))) ht2 hg_O fX1_44 dX1_isLightestOfItsEnds_4 rfl ?_
    refine t_icmp_ge (pc := 7) (tgt := 72) dX1_isLightestOfItsEnds_7 (by decide) (by omega) (by omega) (fun c7 => ?_) (fun c7 => ?_)
    · refine r_iconst (pc := 72) (v := iv 1) dX1_isLightestOfItsEnds_72 (by decide) ?_
      exact r_zret (pc := 73) dX1_isLightestOfItsEnds_73 rfl (iv_nar (by omega)) ⟨rfl, ht2, _, rfl, by refine ⟨by omega, fun _ => ?_, fun _ => rfl⟩; have h8 : lgP (Int.toNat v2_2) gdr F T W (Int.toNat x1) := (by assumption); rw [show v2_2 = (gm : Int) by omega, Int.toNat_natCast] at h8; exact h8⟩
    · refine r_aload_n (pc := 10) dX1_isLightestOfItsEnds_10 (i := 0) rfl rfl ?_
      refine t_getE (pc := 11) (.ref gW) ht2 hg_O fX1_72 dX1_isLightestOfItsEnds_11 rfl ?_
      refine r_iload_n (pc := 14) dX1_isLightestOfItsEnds_14 (i := 2) rfl rfl ?_
      refine t_ialdX (pc := 15) (t0 := 0) ht2 hxg_W dX1_isLightestOfItsEnds_15 rfl (by omega) (by omega) (fun b1 => ?_)
      have rb1 := (show Rfx gm (-1000) 1000 W by assumption) (Int.toNat v2_2) (by omega)
      refine r_aload_n (pc := 16) dX1_isLightestOfItsEnds_16 (i := 0) rfl rfl ?_
      refine t_getE (pc := 17) (.ref gW) ht2 hg_O fX1_72 dX1_isLightestOfItsEnds_17 rfl ?_
      refine r_iload_n (pc := 20) dX1_isLightestOfItsEnds_20 (i := 1) rfl rfl ?_
      refine t_ialdX (pc := 21) (t0 := 0) ht2 hxg_W dX1_isLightestOfItsEnds_21 rfl (by omega) (by omega) (fun b2 => ?_)
      have rb2 := (show Rfx gm (-1000) 1000 W by assumption) (Int.toNat x1) (by omega)
      refine t_icmp_lt (pc := 22) (tgt := 45) dX1_isLightestOfItsEnds_22 (by decide) (by omega) (by omega) (fun c22 => ?_) (fun c22 => ?_)
      · refine r_iconst (pc := 45) (v := iv 1) dX1_isLightestOfItsEnds_45 (by decide) ?_
        refine r_goto (pc := 46) (tgt := 50) dX1_isLightestOfItsEnds_46 (by decide) ?_
        refine r_istore_n (pc := 50) (lv' := [(3, .int (iv 1)), (0, .ref ga), (1, .int (iv x1)), (2, .int (iv v2_2))]) dX1_isLightestOfItsEnds_50 (i := 3) rfl (by decide) rfl ?_
        refine r_iload_n (pc := 51) dX1_isLightestOfItsEnds_51 (i := 3) rfl rfl ?_
        refine t_if_eq (pc := 52) (tgt := 66) dX1_isLightestOfItsEnds_52 (by decide) (by omega) (fun c52 => ?_) (fun c52 => ?_)
        · exfalso
          omega
        · refine r_aload_n (pc := 55) dX1_isLightestOfItsEnds_55 (i := 0) rfl rfl ?_
          refine r_iload_n (pc := 56) dX1_isLightestOfItsEnds_56 (i := 1) rfl rfl ?_
          refine r_iload_n (pc := 57) dX1_isLightestOfItsEnds_57 (i := 2) rfl rfl ?_
          refine t_callVI (pc := 58) (as := [.int (iv x1), .int (iv v2_2)]) (st := []) ht2 hg_O kX1_81 rfl dX1_isLightestOfItsEnds_58 (c_X3_haveSameEndsx (d := d - 1) (x1 := x1) (x2 := v2_2) (by omega) hg hxg ht2 (by omega) (by omega) (by omega)) rfl (by omega) (Nat.le_of_ble_eq_true rfl) rfl (fun hp4 y3 ht5 by3 => ?_)
          have fy3 : ((0 ≤ y3 ∧ y3 ≤ 1) ∧ (y3 = 1 ↔ seP gdr F T (Int.toNat x1) (Int.toNat v2_2))) := by3
          have fy9s := fy3
          refine t_if_eq (pc := 61) (tgt := 66) dX1_isLightestOfItsEnds_61 (by decide) (by omega) (fun c61 => ?_) (fun c61 => ?_)
          · refine r_iinc (pc := 66) (v := iv (v2_2 + 1)) (lv' := [(2, .int (iv (v2_2 + 1))), (3, .int (iv 1)), (0, .ref ga), (1, .int (iv x1))]) dX1_isLightestOfItsEnds_66 rfl (iv_add _ _) (by decide) rfl ?_
            refine r_goto (pc := 69) (tgt := 2) dX1_isLightestOfItsEnds_69 (by decide) ?_
            refine Rn.pick (lv' := [(0, .ref ga), (1, .int (iv x1)), (2, .int (iv (v2_2 + 1)))]) [2, 3, 0] rfl ?_
            exact ih2 (Int.toNat (60 - (v2_2 + 1))) (by omega) _ ht5 (v2_2 + 1) ⟨by omega, by omega, by omega, by (first | (intro j hj; exfalso; omega) | exact lg_up (by assumption) (by omega) (fun h9 => by have h8 := h9.1; omega) | exact lg_up (by assumption) (by omega) (fun h9 => by have h8 := fy9s.2.mpr h9.2; omega))⟩ (by omega)
          · refine r_iconst (pc := 64) (v := iv 0) dX1_isLightestOfItsEnds_64 (by decide) ?_
            exact r_zret (pc := 65) dX1_isLightestOfItsEnds_65 rfl (iv_nar (by omega)) ⟨rfl, ht5, _, rfl, by refine ⟨by omega, fun h9 => by omega, fun h9 => absurd ⟨by omega, fy9s.2.mp (by omega)⟩ (h9 (Int.toNat v2_2) (by omega))⟩⟩
      · refine r_aload_n (pc := 25) dX1_isLightestOfItsEnds_25 (i := 0) rfl rfl ?_
        refine t_getE (pc := 26) (.ref gW) ht2 hg_O fX1_72 dX1_isLightestOfItsEnds_26 rfl ?_
        refine r_iload_n (pc := 29) dX1_isLightestOfItsEnds_29 (i := 2) rfl rfl ?_
        refine t_ialdX (pc := 30) (t0 := 0) ht2 hxg_W dX1_isLightestOfItsEnds_30 rfl (by omega) (by omega) (fun b6 => ?_)
        have rb6 := (show Rfx gm (-1000) 1000 W by assumption) (Int.toNat v2_2) (by omega)
        refine r_aload_n (pc := 31) dX1_isLightestOfItsEnds_31 (i := 0) rfl rfl ?_
        refine t_getE (pc := 32) (.ref gW) ht2 hg_O fX1_72 dX1_isLightestOfItsEnds_32 rfl ?_
        refine r_iload_n (pc := 35) dX1_isLightestOfItsEnds_35 (i := 1) rfl rfl ?_
        refine t_ialdX (pc := 36) (t0 := 0) ht2 hxg_W dX1_isLightestOfItsEnds_36 rfl (by omega) (by omega) (fun b7 => ?_)
        have rb7 := (show Rfx gm (-1000) 1000 W by assumption) (Int.toNat x1) (by omega)
        refine t_icmp_ne (pc := 37) (tgt := 49) dX1_isLightestOfItsEnds_37 (by decide) (by omega) (by omega) (fun c37 => ?_) (fun c37 => ?_)
        · refine r_iconst (pc := 49) (v := iv 0) dX1_isLightestOfItsEnds_49 (by decide) ?_
          refine r_istore_n (pc := 50) (lv' := [(3, .int (iv 0)), (0, .ref ga), (1, .int (iv x1)), (2, .int (iv v2_2))]) dX1_isLightestOfItsEnds_50 (i := 3) rfl (by decide) rfl ?_
          refine r_iload_n (pc := 51) dX1_isLightestOfItsEnds_51 (i := 3) rfl rfl ?_
          refine t_if_eq (pc := 52) (tgt := 66) dX1_isLightestOfItsEnds_52 (by decide) (by omega) (fun c52 => ?_) (fun c52 => ?_)
          · refine r_iinc (pc := 66) (v := iv (v2_2 + 1)) (lv' := [(2, .int (iv (v2_2 + 1))), (3, .int (iv 0)), (0, .ref ga), (1, .int (iv x1))]) dX1_isLightestOfItsEnds_66 rfl (iv_add _ _) (by decide) rfl ?_
            refine r_goto (pc := 69) (tgt := 2) dX1_isLightestOfItsEnds_69 (by decide) ?_
            refine Rn.pick (lv' := [(0, .ref ga), (1, .int (iv x1)), (2, .int (iv (v2_2 + 1)))]) [2, 3, 0] rfl ?_
            exact ih2 (Int.toNat (60 - (v2_2 + 1))) (by omega) _ ht2 (v2_2 + 1) ⟨by omega, by omega, by omega, by (first | (intro j hj; exfalso; omega) | exact lg_up (by assumption) (by omega) (fun h9 => by have h8 := h9.1; omega) | exact lg_up (by assumption) (by omega) (fun h9 => by have h8 := fy9s.2.mpr h9.2; omega))⟩ (by omega)
          · exfalso
            omega
        · refine r_iload_n (pc := 40) dX1_isLightestOfItsEnds_40 (i := 2) rfl rfl ?_
          refine r_iload_n (pc := 41) dX1_isLightestOfItsEnds_41 (i := 1) rfl rfl ?_
          refine t_icmp_ge (pc := 42) (tgt := 49) dX1_isLightestOfItsEnds_42 (by decide) (by omega) (by omega) (fun c42 => ?_) (fun c42 => ?_)
          · refine r_iconst (pc := 49) (v := iv 0) dX1_isLightestOfItsEnds_49 (by decide) ?_
            refine r_istore_n (pc := 50) (lv' := [(3, .int (iv 0)), (0, .ref ga), (1, .int (iv x1)), (2, .int (iv v2_2))]) dX1_isLightestOfItsEnds_50 (i := 3) rfl (by decide) rfl ?_
            refine r_iload_n (pc := 51) dX1_isLightestOfItsEnds_51 (i := 3) rfl rfl ?_
            refine t_if_eq (pc := 52) (tgt := 66) dX1_isLightestOfItsEnds_52 (by decide) (by omega) (fun c52 => ?_) (fun c52 => ?_)
            · refine r_iinc (pc := 66) (v := iv (v2_2 + 1)) (lv' := [(2, .int (iv (v2_2 + 1))), (3, .int (iv 0)), (0, .ref ga), (1, .int (iv x1))]) dX1_isLightestOfItsEnds_66 rfl (iv_add _ _) (by decide) rfl ?_
              refine r_goto (pc := 69) (tgt := 2) dX1_isLightestOfItsEnds_69 (by decide) ?_
              refine Rn.pick (lv' := [(0, .ref ga), (1, .int (iv x1)), (2, .int (iv (v2_2 + 1)))]) [2, 3, 0] rfl ?_
              exact ih2 (Int.toNat (60 - (v2_2 + 1))) (by omega) _ ht2 (v2_2 + 1) ⟨by omega, by omega, by omega, by (first | (intro j hj; exfalso; omega) | exact lg_up (by assumption) (by omega) (fun h9 => by have h8 := h9.1; omega) | exact lg_up (by assumption) (by omega) (fun h9 => by have h8 := fy9s.2.mpr h9.2; omega))⟩ (by omega)
            · exfalso
              omega
          · refine r_iconst (pc := 45) (v := iv 1) dX1_isLightestOfItsEnds_45 (by decide) ?_
            refine r_goto (pc := 46) (tgt := 50) dX1_isLightestOfItsEnds_46 (by decide) ?_
            refine r_istore_n (pc := 50) (lv' := [(3, .int (iv 1)), (0, .ref ga), (1, .int (iv x1)), (2, .int (iv v2_2))]) dX1_isLightestOfItsEnds_50 (i := 3) rfl (by decide) rfl ?_
            refine r_iload_n (pc := 51) dX1_isLightestOfItsEnds_51 (i := 3) rfl rfl ?_
            refine t_if_eq (pc := 52) (tgt := 66) dX1_isLightestOfItsEnds_52 (by decide) (by omega) (fun c52 => ?_) (fun c52 => ?_)
            · exfalso
              omega
            · refine r_aload_n (pc := 55) dX1_isLightestOfItsEnds_55 (i := 0) rfl rfl ?_
              refine r_iload_n (pc := 56) dX1_isLightestOfItsEnds_56 (i := 1) rfl rfl ?_
              refine r_iload_n (pc := 57) dX1_isLightestOfItsEnds_57 (i := 2) rfl rfl ?_
              refine t_callVI (pc := 58) (as := [.int (iv x1), .int (iv v2_2)]) (st := []) ht2 hg_O kX1_81 rfl dX1_isLightestOfItsEnds_58 (c_X3_haveSameEndsx (d := d - 1) (x1 := x1) (x2 := v2_2) (by omega) hg hxg ht2 (by omega) (by omega) (by omega)) rfl (by omega) (Nat.le_of_ble_eq_true rfl) rfl (fun hp9 y8 ht10 by8 => ?_)
              have fy8 : ((0 ≤ y8 ∧ y8 ≤ 1) ∧ (y8 = 1 ↔ seP gdr F T (Int.toNat x1) (Int.toNat v2_2))) := by8
              have fy9s := fy8
              refine t_if_eq (pc := 61) (tgt := 66) dX1_isLightestOfItsEnds_61 (by decide) (by omega) (fun c61 => ?_) (fun c61 => ?_)
              · refine r_iinc (pc := 66) (v := iv (v2_2 + 1)) (lv' := [(2, .int (iv (v2_2 + 1))), (3, .int (iv 1)), (0, .ref ga), (1, .int (iv x1))]) dX1_isLightestOfItsEnds_66 rfl (iv_add _ _) (by decide) rfl ?_
                refine r_goto (pc := 69) (tgt := 2) dX1_isLightestOfItsEnds_69 (by decide) ?_
                refine Rn.pick (lv' := [(0, .ref ga), (1, .int (iv x1)), (2, .int (iv (v2_2 + 1)))]) [2, 3, 0] rfl ?_
                exact ih2 (Int.toNat (60 - (v2_2 + 1))) (by omega) _ ht10 (v2_2 + 1) ⟨by omega, by omega, by omega, by (first | (intro j hj; exfalso; omega) | exact lg_up (by assumption) (by omega) (fun h9 => by have h8 := h9.1; omega) | exact lg_up (by assumption) (by omega) (fun h9 => by have h8 := fy9s.2.mpr h9.2; omega))⟩ (by omega)
              · refine r_iconst (pc := 64) (v := iv 0) dX1_isLightestOfItsEnds_64 (by decide) ?_
                exact r_zret (pc := 65) dX1_isLightestOfItsEnds_65 rfl (iv_nar (by omega)) ⟨rfl, ht10, _, rfl, by refine ⟨by omega, fun h9 => by omega, fun h9 => absurd ⟨by omega, fy9s.2.mp (by omega)⟩ (h9 (Int.toNat v2_2) (by omega))⟩⟩
  refine Rn.pick (lv' := [(0, .ref ga), (1, .int (iv x1)), (2, .int (iv 0))]) [1, 2, 0] rfl ?_
  exact B2 (Int.toNat (60 - 0)) _ ht 0 ⟨by omega, by omega, by omega, by (first | (intro j hj; exfalso; omega) | exact lg_up (by assumption) (by omega) (fun h9 => by have h8 := h9.1; omega) | exact lg_up (by assumption) (by omega) (fun h9 => by have h8 := fy9s.2.mpr h9.2; omega))⟩ (by omega)
set_option maxHeartbeats 4000000 in
set_option maxRecDepth 100000 in
theorem c_X1_isKeptx {D : va_G} {cI cJ cZ cT : ClassId} {lo b L : Nat} {xs : Nat → Int32} {hp : MH} {n d : Nat} {Γ : TG} {ga : Nat} {gF : Nat} {gT : Nat} {gW : Nat} {gC : Nat} {gTl : Nat} {gHd : Nat} {gBy : Nat} {gOu : Nat} {gIn : Nat} {gJo : Nat} {gn : Nat} {gm : Nat} {gq : Nat} {gdr : Int} {F T W C Tl Hd By Ou In Jo : Nat → Int} {x1 x2 x3 : Int} (hd0 : 2 ≤ d) (hg : TyG Γ cI cJ cZ ga gF gT gW gC gTl gHd gBy gOu gIn gJo gn gm gq gdr) (hxg : XG Γ cI gF gT gW gC gTl gHd gBy gOu gIn gJo gn gm gq F T W C Tl Hd By Ou In Jo) (ht : Tw Γ hp) (hx1 : (-2147483648) ≤ x1 ∧ x1 ≤ 2147483647) (hx2 : (-2147483648) ≤ x2 ∧ x2 ≤ 2147483647) (hx3 : 0 ≤ x3 ∧ x3 ≤ 59) (hk : x3 < (gm : Int)) : Mt (gG D cI cJ cZ cT lo b L xs) mX1_isKept d 0 0 [.ref ga, .int (iv x1), .int (iv x2), .int (iv x3)] hp n (pI Γ n (fun r => ((0 ≤ r ∧ r ≤ 1) ∧ (x1 ≠ 4 → (r = 1 ↔ kpP gm gdr F T W x1 x2 (Int.toNat x3)))))) := by
  refine Mt.of rfl (Nat.le_of_ble_eq_true rfl) ?_
  refine Rn.pick (lv' := [(0, .ref ga), (1, .int (iv x1)), (2, .int (iv x2)), (3, .int (iv x3))]) [0, 1, 2, 3] rfl ?_
  obtain ⟨hg_O, hg_from, hg_to, hg_weight, hg_cost, hg_tail, hg_head, hg_by, hg_out, hg_in, hg_joined, hg_b⟩ := id hg
  obtain ⟨⟨hxg_F, hxg_T, hxg_W, hxg_C, hxg_Tl, hxg_Hd, hxg_By, hxg_Ou, hxg_In, hxg_Jo⟩, ⟨hrg_F, hrg_T, hrg_W, hrg_C, hrg_Tl, hrg_Hd, hrg_By, hrg_Ou, hrg_In, hrg_Jo⟩, houg⟩ := id hxg
  have hgb := hg_b
  refine r_iload_n (pc := 0) dX1_isKept_0 (i := 1) rfl rfl ?_
  by_cases c1 : x1 = 2
  · refine r_tableIn (pc := 1) (off := 31) (tgt := 32) dX1_isKept_1 (by rw [iv_toInt (by omega) (by omega)]; omega) (by rw [iv_toInt (by omega) (by omega)]; omega) (by rw [iv_toInt (by omega) (by omega), c1]; decide) (by decide) ?_
    refine r_aload_n (pc := 32) dX1_isKept_32 (i := 0) rfl rfl ?_
    refine t_getE (pc := 33) (.ref gF) ht hg_O fX1_71 dX1_isKept_33 rfl ?_
    refine r_iload_n (pc := 36) dX1_isKept_36 (i := 3) rfl rfl ?_
    refine t_ialdX (pc := 37) (t0 := 0) ht hxg_F dX1_isKept_37 rfl (by omega) (by omega) (fun b2 => ?_)
    have rb2 := (show Rfx gm 0 ((gn : Int) - 1) F by assumption) (Int.toNat x3) (by omega)
    refine r_aload_n (pc := 38) dX1_isKept_38 (i := 0) rfl rfl ?_
    refine t_getE (pc := 39) (.ref gT) ht hg_O fX1_70 dX1_isKept_39 rfl ?_
    refine r_iload_n (pc := 42) dX1_isKept_42 (i := 3) rfl rfl ?_
    refine t_ialdX (pc := 43) (t0 := 0) ht hxg_T dX1_isKept_43 rfl (by omega) (by omega) (fun b3 => ?_)
    have rb3 := (show Rfx gm 0 ((gn : Int) - 1) T by assumption) (Int.toNat x3) (by omega)
    refine t_icmp_eq (pc := 44) (tgt := 51) dX1_isKept_44 (by decide) (by omega) (by omega) (fun c44 => ?_) (fun c44 => ?_)
    · refine r_iconst (pc := 51) (v := iv 0) dX1_isKept_51 (by decide) ?_
      exact r_zret (pc := 52) dX1_isKept_52 rfl (iv_nar (by omega)) ⟨rfl, ht, _, rfl, by refine ⟨by omega, fun h4 => ?_⟩; unfold kpP; refine ⟨fun h9 => ⟨fun _ => by omega, fun e => by omega, fun e => by omega, fun e => by omega⟩, fun h9 => ?_⟩; have h7 := h9.1; have h8 := h9.2.2.2; omega⟩
    · refine r_iconst (pc := 47) (v := iv 1) dX1_isKept_47 (by decide) ?_
      refine r_goto (pc := 48) (tgt := 52) dX1_isKept_48 (by decide) ?_
      exact r_zret (pc := 52) dX1_isKept_52 rfl (iv_nar (by omega)) ⟨rfl, ht, _, rfl, by refine ⟨by omega, fun h4 => ?_⟩; unfold kpP; refine ⟨fun h9 => ⟨fun _ => by omega, fun e => by omega, fun e => by omega, fun e => by omega⟩, fun h9 => ?_⟩; have h7 := h9.1; have h8 := h9.2.2.2; omega⟩
  by_cases c4 : x1 = 3
  · refine r_tableIn (pc := 1) (off := 52) (tgt := 53) dX1_isKept_1 (by rw [iv_toInt (by omega) (by omega)]; omega) (by rw [iv_toInt (by omega) (by omega)]; omega) (by rw [iv_toInt (by omega) (by omega), c4]; decide) (by decide) ?_
    refine r_aload_n (pc := 53) dX1_isKept_53 (i := 0) rfl rfl ?_
    refine t_getE (pc := 54) (.ref gF) ht hg_O fX1_71 dX1_isKept_54 rfl ?_
    refine r_iload_n (pc := 57) dX1_isKept_57 (i := 3) rfl rfl ?_
    refine t_ialdX (pc := 58) (t0 := 0) ht hxg_F dX1_isKept_58 rfl (by omega) (by omega) (fun b5 => ?_)
    have rb5 := (show Rfx gm 0 ((gn : Int) - 1) F by assumption) (Int.toNat x3) (by omega)
    refine r_aload_n (pc := 59) dX1_isKept_59 (i := 0) rfl rfl ?_
    refine t_getE (pc := 60) (.ref gT) ht hg_O fX1_70 dX1_isKept_60 rfl ?_
    refine r_iload_n (pc := 63) dX1_isKept_63 (i := 3) rfl rfl ?_
    refine t_ialdX (pc := 64) (t0 := 0) ht hxg_T dX1_isKept_64 rfl (by omega) (by omega) (fun b6 => ?_)
    have rb6 := (show Rfx gm 0 ((gn : Int) - 1) T by assumption) (Int.toNat x3) (by omega)
    refine t_icmp_eq (pc := 65) (tgt := 80) dX1_isKept_65 (by decide) (by omega) (by omega) (fun c65 => ?_) (fun c65 => ?_)
    · refine r_iconst (pc := 80) (v := iv 0) dX1_isKept_80 (by decide) ?_
      exact r_zret (pc := 81) dX1_isKept_81 rfl (iv_nar (by omega)) ⟨rfl, ht, _, rfl, by refine ⟨by omega, fun h4 => ?_⟩; unfold kpP; first | exact ⟨fun h9 => (by omega), fun h9 => (by have h8 := h9.1 (by omega); omega)⟩ | refine ⟨fun h9 => ⟨fun _ => by omega, fun _ => fy9l.2.mp (by omega), fun e => by omega, fun e => by omega⟩, fun h9 => by first | rfl | (exfalso; have h8 := h9.1 (by omega); omega) | (have h8 := fy9l.2.mpr (h9.2.1 (by omega)); omega)⟩⟩
    · refine r_aload_n (pc := 68) dX1_isKept_68 (i := 0) rfl rfl ?_
      refine r_iload_n (pc := 69) dX1_isKept_69 (i := 3) rfl rfl ?_
      refine t_callSI (pc := 70) (as := [.ref ga, .int (iv x3)]) (st := []) kX1_78 dX1_isKept_70 (c_X1_isLightestx (d := d - 1) (x1 := x3) (by omega) hg hxg ht (by omega) (by omega)) rfl (by omega) (Nat.le_of_ble_eq_true rfl) rfl (fun hp8 y7 ht9 by7 => ?_)
      have fy7 : ((0 ≤ y7 ∧ y7 ≤ 1) ∧ (y7 = 1 ↔ lgP gm gdr F T W (Int.toNat x3))) := by7
      have fy9l := fy7
      refine t_if_eq (pc := 73) (tgt := 80) dX1_isKept_73 (by decide) (by omega) (fun c73 => ?_) (fun c73 => ?_)
      · refine r_iconst (pc := 80) (v := iv 0) dX1_isKept_80 (by decide) ?_
        exact r_zret (pc := 81) dX1_isKept_81 rfl (iv_nar (by omega)) ⟨rfl, ht9, _, rfl, by refine ⟨by omega, fun h4 => ?_⟩; unfold kpP; first | exact ⟨fun h9 => (by omega), fun h9 => (by have h8 := h9.1 (by omega); omega)⟩ | refine ⟨fun h9 => ⟨fun _ => by omega, fun _ => fy9l.2.mp (by omega), fun e => by omega, fun e => by omega⟩, fun h9 => by first | rfl | (exfalso; have h8 := h9.1 (by omega); omega) | (have h8 := fy9l.2.mpr (h9.2.1 (by omega)); omega)⟩⟩
      · refine r_iconst (pc := 76) (v := iv 1) dX1_isKept_76 (by decide) ?_
        refine r_goto (pc := 77) (tgt := 81) dX1_isKept_77 (by decide) ?_
        exact r_zret (pc := 81) dX1_isKept_81 rfl (iv_nar (by omega)) ⟨rfl, ht9, _, rfl, by refine ⟨by omega, fun h4 => ?_⟩; unfold kpP; first | exact ⟨fun h9 => (by omega), fun h9 => (by have h8 := h9.1 (by omega); omega)⟩ | refine ⟨fun h9 => ⟨fun _ => by omega, fun _ => fy9l.2.mp (by omega), fun e => by omega, fun e => by omega⟩, fun h9 => by first | rfl | (exfalso; have h8 := h9.1 (by omega); omega) | (have h8 := fy9l.2.mpr (h9.2.1 (by omega)); omega)⟩⟩
  by_cases c10 : x1 = 4
  · refine r_tableIn (pc := 1) (off := 97) (tgt := 98) dX1_isKept_1 (by rw [iv_toInt (by omega) (by omega)]; omega) (by rw [iv_toInt (by omega) (by omega)]; omega) (by rw [iv_toInt (by omega) (by omega), c10]; decide) (by decide) ?_
    refine r_iconst (pc := 98) (v := iv 1) dX1_isKept_98 (by decide) ?_
    exact r_zret (pc := 99) dX1_isKept_99 rfl (iv_nar (by omega)) ⟨rfl, ht, _, rfl, by refine ⟨by omega, fun h4 => ?_⟩; unfold kpP; refine ⟨fun h9 => ⟨fun _ => by omega, fun e => by omega, fun e => by omega, fun e => by omega⟩, fun h9 => ?_⟩; have h7 := h9.1; have h8 := h9.2.2.2; omega⟩
  by_cases c11 : x1 = 5
  · refine r_tableIn (pc := 1) (off := 81) (tgt := 82) dX1_isKept_1 (by rw [iv_toInt (by omega) (by omega)]; omega) (by rw [iv_toInt (by omega) (by omega)]; omega) (by rw [iv_toInt (by omega) (by omega), c11]; decide) (by decide) ?_
    refine r_aload_n (pc := 82) dX1_isKept_82 (i := 0) rfl rfl ?_
    refine t_getE (pc := 83) (.ref gW) ht hg_O fX1_72 dX1_isKept_83 rfl ?_
    refine r_iload_n (pc := 86) dX1_isKept_86 (i := 3) rfl rfl ?_
    refine t_ialdX (pc := 87) (t0 := 0) ht hxg_W dX1_isKept_87 rfl (by omega) (by omega) (fun b12 => ?_)
    have rb12 := (show Rfx gm (-1000) 1000 W by assumption) (Int.toNat x3) (by omega)
    refine r_iload_n (pc := 88) dX1_isKept_88 (i := 2) rfl rfl ?_
    refine t_icmp_lt (pc := 89) (tgt := 96) dX1_isKept_89 (by decide) (by omega) (by omega) (fun c89 => ?_) (fun c89 => ?_)
    · refine r_iconst (pc := 96) (v := iv 0) dX1_isKept_96 (by decide) ?_
      exact r_zret (pc := 97) dX1_isKept_97 rfl (iv_nar (by omega)) ⟨rfl, ht, _, rfl, by refine ⟨by omega, fun h4 => ?_⟩; unfold kpP; refine ⟨fun h9 => ⟨fun _ => by omega, fun e => by omega, fun e => by omega, fun e => by omega⟩, fun h9 => ?_⟩; have h7 := h9.1; have h8 := h9.2.2.2; omega⟩
    · refine r_iconst (pc := 92) (v := iv 1) dX1_isKept_92 (by decide) ?_
      refine r_goto (pc := 93) (tgt := 97) dX1_isKept_93 (by decide) ?_
      exact r_zret (pc := 97) dX1_isKept_97 rfl (iv_nar (by omega)) ⟨rfl, ht, _, rfl, by refine ⟨by omega, fun h4 => ?_⟩; unfold kpP; refine ⟨fun h9 => ⟨fun _ => by omega, fun e => by omega, fun e => by omega, fun e => by omega⟩, fun h9 => ?_⟩; have h7 := h9.1; have h8 := h9.2.2.2; omega⟩
  refine r_tableOut (pc := 1) (tgt := 98) dX1_isKept_1 (by rw [iv_toInt (by omega) (by omega)]; omega) (by decide) ?_
  refine r_iconst (pc := 98) (v := iv 1) dX1_isKept_98 (by decide) ?_
  exact r_zret (pc := 99) dX1_isKept_99 rfl (iv_nar (by omega)) ⟨rfl, ht, _, rfl, by refine ⟨by omega, fun h4 => ?_⟩; unfold kpP; refine ⟨fun h9 => ⟨fun _ => by omega, fun e => by omega, fun e => by omega, fun e => by omega⟩, fun h9 => ?_⟩; have h7 := h9.1; have h8 := h9.2.2.2; omega⟩
set_option maxHeartbeats 4000000 in
set_option maxRecDepth 100000 in
theorem c_X1_isViewx {D : va_G} {cI cJ cZ cT : ClassId} {lo b L : Nat} {xs : Nat → Int32} {hp : MH} {n d : Nat} {Γ : TG} {ga : Nat} {gF : Nat} {gT : Nat} {gW : Nat} {gC : Nat} {gTl : Nat} {gHd : Nat} {gBy : Nat} {gOu : Nat} {gIn : Nat} {gJo : Nat} {gn : Nat} {gm : Nat} {gq : Nat} {gdr : Int} {F T W C Tl Hd By Ou In Jo : Nat → Int} {x1 x2 : Int} (hd0 : 1 ≤ d) (hg : TyG Γ cI cJ cZ ga gF gT gW gC gTl gHd gBy gOu gIn gJo gn gm gq gdr) (hxg : XG Γ cI gF gT gW gC gTl gHd gBy gOu gIn gJo gn gm gq F T W C Tl Hd By Ou In Jo) (ht : Tw Γ hp) (hx1 : (-2147483648) ≤ x1 ∧ x1 ≤ 2147483647) (hx2 : (-2147483648) ≤ x2 ∧ x2 ≤ 2147483647) : Mt (gG D cI cJ cZ cT lo b L xs) mX1_isView d 0 0 [.ref ga, .int (iv x1), .int (iv x2)] hp n (pI Γ n (fun r => ((0 ≤ r ∧ r ≤ 1) ∧ (r = 1 ↔ ¬ (x1 < 0 ∨ 7 < x1 ∨ (x1 = 4 ∧ (x2 ≤ 0 ∨ ((2 ^ gn : Nat) : Int) ≤ x2)) ∨ (x1 = 7 ∧ ((gm : Int) = 0 ∨ 16 < (gm : Int)))))))) := by
  refine Mt.of rfl (Nat.le_of_ble_eq_true rfl) ?_
  refine Rn.pick (lv' := [(0, .ref ga), (1, .int (iv x1)), (2, .int (iv x2))]) [0, 1, 2] rfl ?_
  obtain ⟨hg_O, hg_from, hg_to, hg_weight, hg_cost, hg_tail, hg_head, hg_by, hg_out, hg_in, hg_joined, hg_b⟩ := id hg
  obtain ⟨⟨hxg_F, hxg_T, hxg_W, hxg_C, hxg_Tl, hxg_Hd, hxg_By, hxg_Ou, hxg_In, hxg_Jo⟩, ⟨hrg_F, hrg_T, hrg_W, hrg_C, hrg_Tl, hrg_Hd, hrg_By, hrg_Ou, hrg_In, hrg_Jo⟩, houg⟩ := id hxg
  have hgb := hg_b
  refine r_iload_n (pc := 0) dX1_isView_0 (i := 1) rfl rfl ?_
  refine t_if_lt (pc := 1) (tgt := 10) dX1_isView_1 (by decide) (by omega) (fun c1 => ?_) (fun c1 => ?_)
  · refine r_iconst (pc := 10) (v := iv 0) dX1_isView_10 (by decide) ?_
    exact r_zret (pc := 11) dX1_isView_11 rfl (iv_nar (by omega)) ⟨rfl, ht, _, rfl, by omega⟩
  · refine r_iload_n (pc := 4) dX1_isView_4 (i := 1) rfl rfl ?_
    refine r_bipush (pc := 5) (v := iv 7) dX1_isView_5 (by decide) ?_
    refine t_icmp_le (pc := 7) (tgt := 12) dX1_isView_7 (by decide) (by omega) (by omega) (fun c7 => ?_) (fun c7 => ?_)
    · refine r_iload_n (pc := 12) dX1_isView_12 (i := 1) rfl rfl ?_
      refine r_iconst (pc := 13) (v := iv 4) dX1_isView_13 (by decide) ?_
      refine t_icmp_ne (pc := 14) (tgt := 38) dX1_isView_14 (by decide) (by omega) (by omega) (fun c14 => ?_) (fun c14 => ?_)
      · refine r_iload_n (pc := 38) dX1_isView_38 (i := 1) rfl rfl ?_
        refine r_bipush (pc := 39) (v := iv 7) dX1_isView_39 (by decide) ?_
        refine t_icmp_ne (pc := 41) (tgt := 61) dX1_isView_41 (by decide) (by omega) (by omega) (fun c41 => ?_) (fun c41 => ?_)
        · refine r_iconst (pc := 61) (v := iv 1) dX1_isView_61 (by decide) ?_
          refine r_goto (pc := 62) (tgt := 66) dX1_isView_62 (by decide) ?_
          exact r_zret (pc := 66) dX1_isView_66 rfl (iv_nar (by omega)) ⟨rfl, ht, _, rfl, by omega⟩
        · refine r_aload_n (pc := 44) dX1_isView_44 (i := 0) rfl rfl ?_
          refine t_getE (pc := 45) (.int (iv (gm : Int))) ht hg_O fX1_44 dX1_isView_45 rfl ?_
          refine r_iconst (pc := 48) (v := iv 1) dX1_isView_48 (by decide) ?_
          refine t_icmp_lt (pc := 49) (tgt := 65) dX1_isView_49 (by decide) (by omega) (by omega) (fun c49 => ?_) (fun c49 => ?_)
          · refine r_iconst (pc := 65) (v := iv 0) dX1_isView_65 (by decide) ?_
            exact r_zret (pc := 66) dX1_isView_66 rfl (iv_nar (by omega)) ⟨rfl, ht, _, rfl, by omega⟩
          · refine r_aload_n (pc := 52) dX1_isView_52 (i := 0) rfl rfl ?_
            refine t_getE (pc := 53) (.int (iv (gm : Int))) ht hg_O fX1_44 dX1_isView_53 rfl ?_
            refine r_bipush (pc := 56) (v := iv 16) dX1_isView_56 (by decide) ?_
            refine t_icmp_gt (pc := 58) (tgt := 65) dX1_isView_58 (by decide) (by omega) (by omega) (fun c58 => ?_) (fun c58 => ?_)
            · refine r_iconst (pc := 65) (v := iv 0) dX1_isView_65 (by decide) ?_
              exact r_zret (pc := 66) dX1_isView_66 rfl (iv_nar (by omega)) ⟨rfl, ht, _, rfl, by omega⟩
            · refine r_iconst (pc := 61) (v := iv 1) dX1_isView_61 (by decide) ?_
              refine r_goto (pc := 62) (tgt := 66) dX1_isView_62 (by decide) ?_
              exact r_zret (pc := 66) dX1_isView_66 rfl (iv_nar (by omega)) ⟨rfl, ht, _, rfl, by omega⟩
      · refine r_iload_n (pc := 17) dX1_isView_17 (i := 2) rfl rfl ?_
        refine t_if_eq (pc := 18) (tgt := 36) dX1_isView_18 (by decide) (by omega) (fun c18 => ?_) (fun c18 => ?_)
        · refine r_iconst (pc := 36) (v := iv 0) dX1_isView_36 (by decide) ?_
          exact r_zret (pc := 37) dX1_isView_37 rfl (iv_nar (by omega)) ⟨rfl, ht, _, rfl, by omega⟩
        · refine r_iload_n (pc := 21) dX1_isView_21 (i := 2) rfl rfl ?_
          refine r_aload_n (pc := 22) dX1_isView_22 (i := 0) rfl rfl ?_
          refine t_callVI (pc := 23) (as := []) (st := [.int (iv x2)]) ht hg_O kX1_38 rfl dX1_isView_23 (c_X3_allNodesx (d := d - 1)  (by omega) hg hxg ht  ) rfl (by omega) (Nat.le_of_ble_eq_true rfl) rfl (fun hp2 y1 ht3 by1 => ?_)
          have fy1 : (y1 = ((2 ^ gn : Nat) : Int) - 1) := by1
          have ey23 : y1 = ((2 ^ gn : Nat) : Int) - 1 := fy1
          subst ey23
          have mp5 : 1 ≤ 2 ^ gn := Nat.one_le_two_pow
          have mq5 : 2 ^ gn ≤ 2 ^ 16 := Nat.pow_le_pow_right (by omega) (by omega)
          refine r_iconst (pc := 26) (v := iv (-1)) dX1_isView_26 (by decide) ?_
          refine r_ixor (pc := 27) (v := iv (-(((2 ^ gn : Nat) : Int) - 1) - 1)) dX1_isView_27 (iv_not _) ?_
          obtain ⟨z4, hz4, bz4⟩ := any_i (iv x2 &&& iv (-(((2 ^ gn : Nat) : Int) - 1) - 1))
          refine r_iand (pc := 28) (v := iv z4) dX1_isView_28 hz4 ?_
          have han := andn_e hz4 (by omega) (by omega) (by omega)
          refine t_if_ne (pc := 29) (tgt := 36) dX1_isView_29 (by decide) (by omega) (fun c29 => ?_) (fun c29 => ?_)
          · refine r_iconst (pc := 36) (v := iv 0) dX1_isView_36 (by decide) ?_
            exact r_zret (pc := 37) dX1_isView_37 rfl (iv_nar (by omega)) ⟨rfl, ht3, _, rfl, by omega⟩
          · refine r_iconst (pc := 32) (v := iv 1) dX1_isView_32 (by decide) ?_
            refine r_goto (pc := 33) (tgt := 37) dX1_isView_33 (by decide) ?_
            exact r_zret (pc := 37) dX1_isView_37 rfl (iv_nar (by omega)) ⟨rfl, ht3, _, rfl, by omega⟩
    · refine r_iconst (pc := 10) (v := iv 0) dX1_isView_10 (by decide) ?_
      exact r_zret (pc := 11) dX1_isView_11 rfl (iv_nar (by omega)) ⟨rfl, ht, _, rfl, by omega⟩
set_option maxHeartbeats 4000000 in
set_option maxRecDepth 100000 in
theorem t_X1_clampx {D : va_G} {cI cJ cZ cT : ClassId} {lo b L : Nat} {xs : Nat → Int32} {hp : MH} {n d : Nat} {Γ : TG}  {x0 : Int} (hd0 : 0 ≤ d)  (ht : Tw Γ hp) (hx0 : (-2147483648) ≤ x0 ∧ x0 ≤ 2147483647) : Mt (gG D cI cJ cZ cT lo b L xs) mX1_clamp d 0 0 [.int (iv x0)] hp n (pI Γ n (fun r => r = clW x0)) := by
  refine Mt.of rfl (Nat.le_of_ble_eq_true rfl) ?_
  refine Rn.pick (lv' := [(0, .int (iv x0))]) [0] rfl ?_
  refine r_sipush (pc := 0) (v := iv (-1000)) dX1_clamp_0 (by decide) ?_
  refine r_sipush (pc := 3) (v := iv 1000) dX1_clamp_3 (by decide) ?_
  refine r_iload_n (pc := 6) dX1_clamp_6 (i := 0) rfl rfl ?_
  obtain ⟨z1, hz1, bz1⟩ := min_b 1000 x0 (by omega) (by omega)
  refine r_mmin (pc := 7) (v := iv z1) qX1_123 dX1_clamp_7 (Nat.le_of_ble_eq_true rfl) hz1 ?_
  obtain ⟨z2, hz2, bz2⟩ := max_b (-1000) z1 (by omega) (by omega)
  refine r_mmax (pc := 10) (v := iv z2) qX1_128 dX1_clamp_10 (Nat.le_of_ble_eq_true rfl) hz2 ?_
  exact r_iret (pc := 13) dX1_clamp_13 rfl ⟨rfl, ht, _, rfl, by show _ = clW x0; unfold clW; (repeat' split) <;> omega⟩
