/-- a sum -/
def sgm (f : Nat → Int) : Nat → Int
  | 0 => 0
  | n + 1 => sgm f n + f n
theorem sgm_cg {f g : Nat → Int} : ∀ {n : Nat}, (∀ i, i < n → f i = g i) → sgm f n = sgm g n
  | 0, _ => rfl
  | n + 1, h => by
    show sgm f n + f n = sgm g n + g n
    rw [sgm_cg (n := n) (fun i hi => h i (by omega)), h n (by omega)]
theorem sgm_nn {f : Nat → Int} : ∀ {n : Nat}, (∀ i, i < n → 0 ≤ f i) → 0 ≤ sgm f n
  | 0, _ => Int.le_refl _
  | n + 1, h => by
    have h1 := sgm_nn (n := n) (fun i hi => h i (by omega))
    have h2 := h n (by omega)
    show 0 ≤ sgm f n + f n
    omega
theorem sgm_ge {f : Nat → Int} : ∀ {n : Nat}, (∀ i, i < n → 0 ≤ f i) → ∀ i, i < n → f i ≤ sgm f n
  | 0, _ => fun i hi => by omega
  | n + 1, h => fun i hi => by
    have h1 := sgm_nn (n := n) (fun i hi => h i (by omega))
    have h2 := h n (by omega)
    show f i ≤ sgm f n + f n
    by_cases e : i = n
    · rw [e]; omega
    · have := sgm_ge (n := n) (fun i hi => h i (by omega)) i (by omega)
      omega
theorem sgm_le {f g : Nat → Int} : ∀ {n : Nat}, (∀ i, i < n → f i ≤ g i) → sgm f n ≤ sgm g n
  | 0, _ => Int.le_refl _
  | n + 1, h => by
    have h1 := sgm_le (n := n) (fun i hi => h i (by omega))
    have h2 := h n (by omega)
    show sgm f n + f n ≤ sgm g n + g n
    omega
theorem sgm_up {f g : Nat → Int} {i : Nat} : ∀ {n : Nat}, (∀ j, j < n → j ≠ i → g j = f j) → i < n → sgm g n = sgm f n + (g i - f i)
  | 0, _, hi => by omega
  | n + 1, h, hi => by
    show sgm g n + g n = sgm f n + f n + (g i - f i)
    by_cases e : i = n
    · subst e
      rw [sgm_cg (n := i) (fun j hj => h j (by omega) (by omega))]; omega
    · rw [sgm_up (n := n) (fun j hj => h j (by omega)) (by omega), h n (by omega) (fun q => e q.symm)]; omega
theorem sgm_0 : ∀ n : Nat, sgm (fun _ => 0) n = 0
  | 0 => rfl
  | n + 1 => by show sgm (fun _ => 0) n + 0 = 0; rw [sgm_0 n]; rfl
theorem sgm_b {f : Nat → Int} {c : Int} : ∀ {n : Nat}, (∀ i, i < n → f i ≤ c) → sgm f n ≤ (n : Int) * c
  | 0, _ => by show (0 : Int) ≤ _; omega
  | n + 1, h => by
    have h1 := sgm_b (n := n) (fun i hi => h i (by omega))
    have h2 := h n (by omega)
    show sgm f n + f n ≤ _
    rw [show (((n + 1 : Nat) : Int)) * c = (n : Int) * c + c by rw [Int.natCast_add, Int.add_mul]; show _ + 1 * c = _; rw [Int.one_mul]]
    omega
/-- what leaves a set by a table of rooms -/
def csF (r : Nat → Int) (s : Nat → Bool) (n : Nat) : Int := sgm (fun a => sgm (fun b => if s a = true ∧ s b = false then r (16 * a + b) else 0) n) n
def toF (r : Nat → Int) (n : Nat) : Int := sgm (fun a => sgm (fun b => r (16 * a + b)) n) n
def xw (s : Nat → Bool) (a b : Nat) (w : Int) : Int := if s a = true ∧ s b = false then w else 0
def bw (s : Nat → Bool) (a : Nat) (w : Int) : Int := if s a = true then w else 0
theorem xw_bw (s : Nat → Bool) (a b : Nat) (w : Int) : xw s b a w - xw s a b w = bw s b w - bw s a w := by
  unfold xw bw
  cases h1 : s a <;> cases h2 : s b <;> simp
theorem fu_at {r : Nat → Int} {u v a b : Nat} {w : Int} (hb : b < 16) (hv : v < 16) : fup r (16 * u + v) w (16 * a + b) = if a = u ∧ b = v then w else r (16 * a + b) := by
  by_cases h : a = u ∧ b = v
  · rw [if_pos h]; exact if_pos (by omega)
  · rw [if_neg h]; exact if_neg (by omega)
theorem fu_no {r : Nat → Int} {u v a b : Nat} {w : Int} (hb : b < 16) (hv : v < 16) (h : ¬ (a = u ∧ b = v)) : fup r (16 * u + v) w (16 * a + b) = r (16 * a + b) := by rw [fu_at hb hv, if_neg h]
theorem fu_yes {r : Nat → Int} {i : Nat} {w : Int} : fup r i w i = w := if_pos rfl
theorem cs_upd {r : Nat → Int} {s : Nat → Bool} {n u v : Nat} {w : Int} (hn : n ≤ 16) (hu : u < n) (hv : v < n) : csF (fup r (16 * u + v) (r (16 * u + v) + w)) s n = csF r s n + xw s u v w := by
  unfold csF
  rw [sgm_up (f := fun a => sgm (fun b => if s a = true ∧ s b = false then r (16 * a + b) else 0) n) (i := u) (fun a ha hne => sgm_cg (fun b hb => by rw [fu_no (by omega) (by omega) (fun g => hne g.1)])) hu]
  have h1 : sgm (fun b => if s u = true ∧ s b = false then fup r (16 * u + v) (r (16 * u + v) + w) (16 * u + b) else 0) n = sgm (fun b => if s u = true ∧ s b = false then r (16 * u + b) else 0) n + ((if s u = true ∧ s v = false then fup r (16 * u + v) (r (16 * u + v) + w) (16 * u + v) else 0) - (if s u = true ∧ s v = false then r (16 * u + v) else 0)) :=
    sgm_up (f := fun b => if s u = true ∧ s b = false then r (16 * u + b) else 0) (g := fun b => if s u = true ∧ s b = false then fup r (16 * u + v) (r (16 * u + v) + w) (16 * u + b) else 0) (i := v) (fun b hb hne => by
      show (if s u = true ∧ s b = false then fup r (16 * u + v) (r (16 * u + v) + w) (16 * u + b) else 0) = _
      rw [fu_no (by omega) (by omega) (fun g => hne g.2)]) hv
  show _ + (sgm (fun b => if s u = true ∧ s b = false then fup r (16 * u + v) (r (16 * u + v) + w) (16 * u + b) else 0) n - sgm (fun b => if s u = true ∧ s b = false then r (16 * u + b) else 0) n) = _
  rw [h1, fu_yes]
  unfold xw
  by_cases g : s u = true ∧ s v = false
  · rw [if_pos g, if_pos g, if_pos g]; omega
  · rw [if_neg g, if_neg g, if_neg g]; omega
theorem to_upd {r : Nat → Int} {n u v : Nat} {w : Int} (hn : n ≤ 16) (hu : u < n) (hv : v < n) : toF (fup r (16 * u + v) (r (16 * u + v) + w)) n = toF r n + w := by
  unfold toF
  rw [sgm_up (f := fun a => sgm (fun b => r (16 * a + b)) n) (i := u) (fun a ha hne => sgm_cg (fun b hb => by rw [fu_no (by omega) (by omega) (fun g => hne g.1)])) hu]
  have h1 : sgm (fun b => fup r (16 * u + v) (r (16 * u + v) + w) (16 * u + b)) n = sgm (fun b => r (16 * u + b)) n + (fup r (16 * u + v) (r (16 * u + v) + w) (16 * u + v) - r (16 * u + v)) :=
    sgm_up (f := fun b => r (16 * u + b)) (g := fun b => fup r (16 * u + v) (r (16 * u + v) + w) (16 * u + b)) (i := v) (fun b hb hne => by
      show fup r (16 * u + v) (r (16 * u + v) + w) (16 * u + b) = _
      rw [fu_no (by omega) (by omega) (fun g => hne g.2)]) hv
  show _ + (sgm (fun b => fup r (16 * u + v) (r (16 * u + v) + w) (16 * u + b)) n - sgm (fun b => r (16 * u + b)) n) = _
  rw [h1, fu_yes]
  omega
/-- rooms are not below nothing, and there are not too many of them -/
def rmP (r : Nat → Int) (n : Nat) (c : Int) : Prop := (∀ a b, a < n → b < n → 0 ≤ r (16 * a + b)) ∧ toF r n ≤ c
theorem rmp_b {r : Nat → Int} {n a b : Nat} {c : Int} (h : rmP r n c) (ha : a < n) (hb : b < n) : 0 ≤ r (16 * a + b) ∧ r (16 * a + b) ≤ c := by
  have h1 := sgm_ge (f := fun b => r (16 * a + b)) (n := n) (fun i hi => h.1 a i ha hi) b hb
  have h2 := sgm_ge (f := fun a => sgm (fun b => r (16 * a + b)) n) (n := n) (fun i hi => sgm_nn (fun j hj => h.1 i j hi hj)) a ha
  have h3 : sgm (fun a => sgm (fun b => r (16 * a + b)) n) n ≤ c := h.2
  have h4 := h.1 a b ha hb
  have h5 : r (16 * a + b) ≤ sgm (fun b => r (16 * a + b)) n := h1
  have h6 : sgm (fun b => r (16 * a + b)) n ≤ sgm (fun a => sgm (fun b => r (16 * a + b)) n) n := h2
  omega
/-- what each arc bears -/
def wfA (e : Int) (W : Nat → Int) (k : Nat) : Int := if e = 0 then (if 0 < W k then W k else 0) else 1
theorem wf_b {e : Int} {W : Nat → Int} {m : Nat} (hW : ∀ k, k < m → -1000 ≤ W k ∧ W k ≤ 1000) (k : Nat) (hk : k < m) : 0 ≤ wfA e W k ∧ wfA e W k ≤ 1000 := by
  have := hW k hk
  unfold wfA
  by_cases h : e = 0
  · rw [if_pos h]
    by_cases g : 0 < W k
    · rw [if_pos g]; omega
    · rw [if_neg g]; omega
  · rw [if_neg h]; omega
/-- what one arc lets out of a set -/
def owA (d e : Int) (F T W : Nat → Int) (s : Nat → Bool) (k : Nat) : Int := if (s (F k).toNat = true ∧ s (T k).toNat = false) ∨ (d = 0 ∧ s (T k).toNat = true ∧ s (F k).toNat = false) then wfA e W k else 0
/-- what leaves a set -/
def ouA (m : Nat) (d e : Int) (F T W : Nat → Int) (s : Nat → Bool) : Int := sgm (owA d e F T W s) m
theorem ow_b {d e : Int} {F T W : Nat → Int} {s : Nat → Bool} {m : Nat} (hW : ∀ k, k < m → -1000 ≤ W k ∧ W k ≤ 1000) (k : Nat) (hk : k < m) : 0 ≤ owA d e F T W s k ∧ owA d e F T W s k ≤ 1000 := by
  have := wf_b (e := e) hW k hk
  unfold owA
  by_cases h : (s (F k).toNat = true ∧ s (T k).toNat = false) ∨ (d = 0 ∧ s (T k).toNat = true ∧ s (F k).toNat = false)
  · rw [if_pos h]; exact this
  · rw [if_neg h]; omega
theorem ou_b {m : Nat} {d e : Int} {F T W : Nat → Int} {s : Nat → Bool} (hW : ∀ k, k < m → -1000 ≤ W k ∧ W k ≤ 1000) (k : Nat) (hk : k ≤ m) : 0 ≤ sgm (owA d e F T W s) k ∧ sgm (owA d e F T W s) k ≤ (k : Int) * 1000 :=
  ⟨sgm_nn (fun i hi => (ow_b hW i (by omega)).1), sgm_b (fun i hi => (ow_b hW i (by omega)).2)⟩
/-- a set as a row of truths -/
def msk (S : Int) : Nat → Bool := fun i => S.toNat.testBit i
/-- a set with x, without y -/
def ctP (n : Nat) (x y : Nat) (S : Int) : Prop := (0 ≤ S ∧ S < ((2 ^ n : Nat) : Int)) ∧ Me S x ∧ ¬ Me S y
/-- the least that leaves a set with x, without y -/
def mcA (m : Nat) (d e : Int) (F T W : Nat → Int) (n x y : Nat) (r : Int) : Prop := (∃ S, ctP n x y S ∧ ouA m d e F T W (msk S) = r) ∧ ∀ S, ctP n x y S → r ≤ ouA m d e F T W (msk S)
theorem mc_uq {m : Nat} {d e : Int} {F T W : Nat → Int} {n x y : Nat} {r q : Int} (h : mcA m d e F T W n x y r) (h' : mcA m d e F T W n x y q) : r = q := by
  obtain ⟨⟨S, a1, a2⟩, a3⟩ := h
  obtain ⟨⟨Z, b1, b2⟩, b3⟩ := h'
  have h1 := a3 Z b1
  have h2 := b3 S a1
  omega
/-- the least such set -/
def mcS (m : Nat) (d e : Int) (F T W : Nat → Int) (n x y : Nat) (R : Int) : Prop := ctP n x y R ∧ (∀ S, ctP n x y S → ouA m d e F T W (msk R) ≤ ouA m d e F T W (msk S)) ∧ ∀ S, ctP n x y S → ouA m d e F T W (msk S) = ouA m d e F T W (msk R) → R ≤ S
theorem mcs_uq {m : Nat} {d e : Int} {F T W : Nat → Int} {n x y : Nat} {r q : Int} (h : mcS m d e F T W n x y r) (h' : mcS m d e F T W n x y q) : r = q := by
  obtain ⟨a1, a2, a3⟩ := h
  obtain ⟨b1, b2, b3⟩ := h'
  have h1 := a2 q b1
  have h2 := b2 r a1
  have h3 := a3 q b1 (by omega)
  have h4 := b3 r a1 (by omega)
  omega
