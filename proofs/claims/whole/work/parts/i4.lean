/-- a set with or without one more -/
def bst (X : Nat → Bool) (k : Nat) (b : Bool) : Nat → Bool := fun i => if i = k then b else X i
theorem bst_s {X : Nat → Bool} {k : Nat} {b : Bool} : bst X k b k = b := if_pos rfl
theorem bst_o {X : Nat → Bool} {k i : Nat} {b : Bool} (h : i ≠ k) : bst X k b i = X i := if_neg h
theorem bst_c {X : Nat → Bool} {k i : Nat} {a b : Bool} (h : i ≠ k) : bst (bst X k a) i b = bst (bst X i b) k a := by
  funext j
  by_cases e : j = i
  · rw [e, bst_s, bst_o h, bst_s]
  · rw [bst_o e]
    by_cases e1 : j = k
    · rw [e1, bst_s, bst_s]
    · rw [bst_o e1, bst_o e1, bst_o e]
/-- over all parts of a set below a number -/
def usum (U : Nat → Bool) : Nat → ((Nat → Bool) → Int) → Int
  | 0, φ => φ (fun _ => false)
  | k + 1, φ => if U k = true then usum U k φ + usum U k (fun X => φ (bst X k true)) else usum U k φ
theorem ug_y {U : Nat → Bool} {k : Nat} {φ : (Nat → Bool) → Int} (h : U k = true) : usum U (k + 1) φ = usum U k φ + usum U k (fun X => φ (bst X k true)) := if_pos h
theorem ug_n {U : Nat → Bool} {k : Nat} {φ : (Nat → Bool) → Int} (h : ¬ U k = true) : usum U (k + 1) φ = usum U k φ := if_neg h
theorem ug_cg {U : Nat → Bool} : ∀ {k : Nat} {φ ψ : (Nat → Bool) → Int}, (∀ X, (∀ i, X i = true → i < k ∧ U i = true) → φ X = ψ X) → usum U k φ = usum U k ψ
  | 0, _, _, h => h _ (fun i hi => absurd hi Bool.false_ne_true)
  | k + 1, φ, ψ, h => by
    by_cases g : U k = true
    · rw [ug_y g, ug_y g, ug_cg (k := k) (φ := φ) (ψ := ψ) (fun X hX => h X (fun i hi => ⟨by have := (hX i hi).1; omega, (hX i hi).2⟩)), ug_cg (k := k) (φ := fun X => φ (bst X k true)) (ψ := fun X => ψ (bst X k true)) (fun X hX => h (bst X k true) (fun i hi => by
        by_cases e : i = k
        · rw [e]; exact ⟨by omega, g⟩
        · rw [bst_o e] at hi
          exact ⟨by have := (hX i hi).1; omega, (hX i hi).2⟩))]
    · rw [ug_n g, ug_n g]
      exact ug_cg (fun X hX => h X (fun i hi => ⟨by have := (hX i hi).1; omega, (hX i hi).2⟩))
theorem ug_U {U V : Nat → Bool} : ∀ {k : Nat} {φ : (Nat → Bool) → Int}, (∀ i, i < k → U i = V i) → usum U k φ = usum V k φ
  | 0, _, _ => rfl
  | k + 1, φ, h => by
    have e := h k (by omega)
    by_cases g : U k = true
    · rw [ug_y g, ug_y (show V k = true by rw [← e]; exact g), ug_U (fun i hi => h i (by omega)), ug_U (U := U) (V := V) (φ := fun X => φ (bst X k true)) (fun i hi => h i (by omega))]
    · rw [ug_n g, ug_n (show ¬ V k = true by rw [← e]; exact g)]; exact ug_U (fun i hi => h i (by omega))
theorem ug_lin {U : Nat → Bool} {c : Int} : ∀ {k : Nat} {φ ψ : (Nat → Bool) → Int}, usum U k (fun X => φ X + c * ψ X) = usum U k φ + c * usum U k ψ
  | 0, _, _ => rfl
  | k + 1, φ, ψ => by
    by_cases g : U k = true
    · rw [ug_y g, ug_y g, ug_y g, ug_lin (k := k) (φ := φ) (ψ := ψ), ug_lin (k := k) (φ := fun X => φ (bst X k true)) (ψ := fun X => ψ (bst X k true)), Int.mul_add]; omega
    · rw [ug_n g, ug_n g, ug_n g]; exact ug_lin
theorem ug_add {U : Nat → Bool} {k : Nat} {φ ψ : (Nat → Bool) → Int} : usum U k (fun X => φ X + ψ X) = usum U k φ + usum U k ψ := by
  have := ug_lin (U := U) (c := 1) (k := k) (φ := φ) (ψ := ψ)
  rw [Int.one_mul] at this
  rw [← this]
  exact ug_cg (fun X _ => by rw [Int.one_mul])
theorem ug_z {U : Nat → Bool} {k : Nat} {φ : (Nat → Bool) → Int} (h : ∀ X, (∀ i, X i = true → i < k ∧ U i = true) → φ X = 0) : usum U k φ = 0 := by
  have e := ug_lin (U := U) (c := -1) (k := k) (φ := φ) (ψ := φ)
  have e1 : usum U k (fun X => φ X + -1 * φ X) = usum U k φ := ug_cg (fun X hX => by rw [h X hX]; rfl)
  rw [e1] at e
  omega
theorem ug_mul {U : Nat → Bool} {c : Int} {k : Nat} {φ : (Nat → Bool) → Int} : usum U k (fun X => c * φ X) = c * usum U k φ := by
  have e := ug_lin (U := U) (c := c) (k := k) (φ := fun _ => 0) (ψ := φ)
  rw [ug_z (φ := fun _ => 0) (fun _ _ => rfl), Int.zero_add] at e
  rw [← e]
  exact ug_cg (fun X _ => by rw [Int.zero_add])
/-- the parts without i and those with it -/
theorem ug_sp {U : Nat → Bool} {i : Nat} : ∀ {k : Nat} {φ : (Nat → Bool) → Int}, i < k → U i = true → usum U k φ = usum (bst U i false) k φ + usum (bst U i false) k (fun X => φ (bst X i true))
  | 0, _, h, _ => absurd h (Nat.not_lt_zero _)
  | k + 1, φ, h, hU => by
    by_cases e : i = k
    · subst e
      rw [ug_y hU, ug_n (show ¬ bst U i false i = true by rw [bst_s]; decide), ug_n (show ¬ bst U i false i = true by rw [bst_s]; decide)]
      rw [ug_U (U := U) (V := bst U i false) (φ := φ) (fun j hj => (bst_o (by omega)).symm), ug_U (U := U) (V := bst U i false) (φ := fun X => φ (bst X i true)) (fun j hj => (bst_o (by omega)).symm)]
    · have eb : bst U i false k = U k := bst_o (fun q => e q.symm)
      by_cases g : U k = true
      · rw [ug_y g, ug_y (show bst U i false k = true by rw [eb]; exact g), ug_y (show bst U i false k = true by rw [eb]; exact g), ug_sp (k := k) (φ := φ) (by omega) hU, ug_sp (k := k) (φ := fun X => φ (bst X k true)) (by omega) hU]
        have ec : usum (bst U i false) k (fun X => φ (bst (bst X i true) k true)) = usum (bst U i false) k (fun X => φ (bst (bst X k true) i true)) := ug_cg (fun X _ => by rw [bst_c e])
        rw [ec]; omega
      · rw [ug_n g, ug_n (show ¬ bst U i false k = true by rw [eb]; exact g), ug_n (show ¬ bst U i false k = true by rw [eb]; exact g)]; exact ug_sp (by omega) hU
theorem ug_one {U : Nat → Bool} : ∀ {k : Nat} {φ : (Nat → Bool) → Int}, (∀ X, (∀ i, X i = true → i < k ∧ U i = true) → (∃ i, X i = true) → φ X = 0) → usum U k φ = φ (fun _ => false)
  | 0, _, _ => rfl
  | k + 1, φ, h => by
    have e1 : usum U k φ = φ (fun _ => false) := ug_one (fun X hX hi => h X (fun i hi => ⟨by have := (hX i hi).1; omega, (hX i hi).2⟩) hi)
    by_cases g : U k = true
    · rw [ug_y g, e1, ug_z (φ := fun X => φ (bst X k true)) (fun X hX => h (bst X k true) (fun i hi => by
        by_cases e : i = k
        · rw [e]; exact ⟨by omega, g⟩
        · rw [bst_o e] at hi
          exact ⟨by have := (hX i hi).1; omega, (hX i hi).2⟩) ⟨k, bst_s⟩), Int.add_zero]
    · rw [ug_n g, e1]
/-- what is left of a set -/
def bdf (U X : Nat → Bool) : Nat → Bool := fun i => U i && !X i
theorem bdf_t {U X : Nat → Bool} {i : Nat} : bdf U X i = true ↔ U i = true ∧ X i = false := by
  unfold bdf
  cases U i <;> cases X i <;> decide
theorem bdf_n {U X : Nat → Bool} {i : Nat} (h : X i = false) : bdf U X i = U i := by
  unfold bdf; rw [h]; cases U i <;> rfl
theorem bdf_y {U X : Nat → Bool} {i : Nat} (h : X i = true) : bdf U X i = false := by
  unfold bdf; rw [h]; cases U i <;> rfl
/-- two parts that have nothing in common, in either order -/
theorem ug_dj {V : Nat → Bool} : ∀ {k : Nat} {f : (Nat → Bool) → (Nat → Bool) → Int}, usum V k (fun X => usum (bdf V X) k (fun B => f X B)) = usum V k (fun B => usum (bdf V B) k (fun X => f X B))
  | 0, _ => rfl
  | k + 1, f => by
    by_cases g : V k = true
    · have hl : ∀ h : (Nat → Bool) → (Nat → Bool) → Int, usum V (k + 1) (fun X => usum (bdf V X) (k + 1) (fun B => h X B)) = usum V k (fun X => usum (bdf V X) k (fun B => h X B)) + usum V k (fun X => usum (bdf V X) k (fun B => h X (bst B k true))) + usum V k (fun X => usum (bdf V X) k (fun B => h (bst X k true) B)) := fun h => by
        have ea : usum V k (fun X => usum (bdf V X) k (fun B => h X B)) + usum V k (fun X => usum (bdf V X) k (fun B => h X (bst B k true))) = usum V k (fun X => usum (bdf V X) k (fun B => h X B) + usum (bdf V X) k (fun B => h X (bst B k true))) := ug_add.symm
        rw [ug_y g, ea]
        congr 1
        · exact ug_cg (fun X hX => by
            have hk : X k = false := by
              cases q : X k
              · rfl
              · exact absurd (hX k q).1 (by omega)
            exact ug_y (by rw [bdf_n hk]; exact g))
        · exact ug_cg (fun X hX => by
            rw [ug_n (show ¬ bdf V (bst X k true) k = true by rw [bdf_y bst_s]; decide)]
            exact ug_U (fun i hi => by unfold bdf; rw [bst_o (by omega)]))
      rw [hl f, hl (fun B X => f X B), ug_dj (k := k) (f := f), ug_dj (k := k) (f := fun X B => f X (bst B k true)), ug_dj (k := k) (f := fun X B => f (bst X k true) B)]
      omega
    · have hl : ∀ h : (Nat → Bool) → (Nat → Bool) → Int, usum V (k + 1) (fun X => usum (bdf V X) (k + 1) (fun B => h X B)) = usum V k (fun X => usum (bdf V X) k (fun B => h X B)) := fun h => by
        rw [ug_n g]
        exact ug_cg (fun X _ => ug_n (fun q => g (bdf_t.mp q).1))
      rw [hl f, hl (fun B X => f X B)]
      exact ug_dj
/-- degrees less joinings over a set, with what goes to the ground -/
def laM (w : Nat → Nat → Int) (N : Nat) (U : Nat → Bool) (g : Nat → Int) (i j : Nat) : Int := if U i = true then (if i = j then g i + sgm (fun k => if U k = true ∧ k ≠ i then w i k else 0) N else if U j = true then - w i j else 0) else (if i = j then 1 else 0)
def kwF (w : Nat → Nat → Int) (N : Nat) (U : Nat → Bool) (g : Nat → Int) : Int := dtm N (laM w N U g)
section KW
variable {w : Nat → Nat → Int} {N : Nat}
theorem lp_d {U : Nat → Bool} {g : Nat → Int} {i : Nat} (h : U i = true) : laM w N U g i i = g i + sgm (fun k => if U k = true ∧ k ≠ i then w i k else 0) N := by
  unfold laM; rw [if_pos h, if_pos rfl]
theorem lp_o {U : Nat → Bool} {g : Nat → Int} {i j : Nat} (h : U i = true) (hj : U j = true) (hne : i ≠ j) : laM w N U g i j = - w i j := by
  unfold laM; rw [if_pos h, if_neg hne, if_pos hj]
theorem lp_z {U : Nat → Bool} {g : Nat → Int} {i j : Nat} (h : U i = true) (hj : ¬ U j = true) : laM w N U g i j = 0 := by
  unfold laM; rw [if_pos h, if_neg (show ¬ i = j from fun e => hj (e ▸ h)), if_neg hj]
theorem lp_u {U : Nat → Bool} {g : Nat → Int} {i j : Nat} (h : ¬ U i = true) : laM w N U g i j = if i = j then 1 else 0 := by
  unfold laM; rw [if_neg h]
theorem lp_cg {U V : Nat → Bool} {g h : Nat → Int} (hU : ∀ i, i < N → U i = V i) (hg : ∀ i, i < N → U i = true → g i = h i) : ∀ i j, i < N → j < N → laM w N U g i j = laM w N V h i j := fun i j hi hj => by
  unfold laM
  rw [← hU i hi, ← hU j hj]
  by_cases c : U i = true
  · rw [if_pos c, if_pos c, hg i hi c, sgm_cg (f := fun k => if U k = true ∧ k ≠ i then w i k else 0) (g := fun k => if V k = true ∧ k ≠ i then w i k else 0) (fun k hk => by rw [hU k hk])]
  · rw [if_neg c, if_neg c]
theorem k_cg {U V : Nat → Bool} {g h : Nat → Int} (hU : ∀ i, i < N → U i = V i) (hg : ∀ i, i < N → U i = true → g i = h i) : kwF w N U g = kwF w N V h := dt_cg (lp_cg hU hg)
theorem dt_id : ∀ n : Nat, dtm n (fun i j => if i = j then 1 else 0) = 1
  | 0 => rfl
  | n + 1 => by
    rw [dt_la (n := n) (A := fun i j => if i = j then 1 else 0) (fun j hj => if_neg (by omega)) (if_pos rfl) (fun i hi => if_neg (by omega))]
    exact dt_id n
theorem k_e {g : Nat → Int} {U : Nat → Bool} (h : ∀ i, i < N → ¬ U i = true) : kwF w N U g = 1 := by
  rw [← dt_id N]
  exact dt_cg (fun i j hi _ => lp_u (h i hi))
/-- a row of the unit for a node of the set: the node goes -/
theorem k_rm (hw : ∀ i j, w i j = w j i) {U : Nat → Bool} {g : Nat → Int} {i : Nat} (hi : i < N) (hU : U i = true) : dtm N (rpl (laM w N U g) i (fun j => if i = j then 1 else 0)) = kwF w N (bst U i false) (fun j => g j + w i j) := by
  have hni : ¬ bst U i false i = true := by rw [bst_s]; decide
  refine dt_clr (q := i) hi (fun j hj => ?_) (fun j hj => ?_) (fun a j ha hj hne => ?_)
  · rw [lp_u hni]
    by_cases e : i = j
    · rw [if_pos e, if_pos e.symm]
    · rw [if_neg e, if_neg (fun q => e (Eq.symm q))]
  · rw [rpl_s, lp_u hni]
  · by_cases e : a = i
    · rw [e, rpl_s, lp_u hni]
    · rw [rpl_o e]
      by_cases c : U a = true
      · have c1 : bst U i false a = true := by rw [bst_o e]; exact c
        by_cases e1 : a = j
        · subst e1
          rw [lp_d c, lp_d c1]
          have e2 : sgm (fun k => if U k = true ∧ k ≠ a then w a k else 0) N = sgm (fun k => if bst U i false k = true ∧ k ≠ a then w a k else 0) N + ((if U i = true ∧ i ≠ a then w a i else 0) - (if bst U i false i = true ∧ i ≠ a then w a i else 0)) := sgm_up (f := fun k => if bst U i false k = true ∧ k ≠ a then w a k else 0) (g := fun k => if U k = true ∧ k ≠ a then w a k else 0) (i := i) (n := N) (fun k _ hk => by
            show (if U k = true ∧ k ≠ a then w a k else 0) = (if bst U i false k = true ∧ k ≠ a then w a k else 0)
            rw [bst_o hk]) hi
          have hia : i ≠ a := fun q => e q.symm
          rw [if_pos (And.intro hU hia), if_neg (show ¬ (bst U i false i = true ∧ i ≠ a) from fun q => hni q.1)] at e2
          rw [e2, hw i a]; omega
        · by_cases c2 : U j = true
          · rw [lp_o c c2 e1, lp_o c1 (by rw [bst_o hne]; exact c2) e1]
          · rw [lp_z c c2, lp_z c1 (by rw [bst_o hne]; exact c2)]
      · rw [lp_u c, lp_u (by rw [bst_o e]; exact c)]
theorem k_af (hw : ∀ i j, w i j = w j i) {U : Nat → Bool} {g : Nat → Int} {i : Nat} (hi : i < N) (hU : U i = true) : kwF w N U g = kwF w N U (fup g i 0) + g i * kwF w N (bst U i false) (fun j => g j + w i j) := by
  rw [← k_rm hw hi hU]
  have e := dt_lin (n := N) (A := laM w N U g) (B := laM w N U (fup g i 0)) (C := rpl (laM w N U g) i (fun j => if i = j then 1 else 0)) (q := i) (x := 1) (y := g i) hi (fun j hj => by
    rw [rpl_s]
    by_cases e1 : i = j
    · subst e1
      rw [lp_d hU, lp_d hU, if_pos rfl, show fup g i 0 i = 0 from if_pos rfl]; omega
    · rw [if_neg e1]
      by_cases c2 : U j = true
      · rw [lp_o hU c2 e1, lp_o hU c2 e1]; omega
      · rw [lp_z hU c2, lp_z hU c2]; omega) (fun a j ha hj hne => ⟨by
    unfold laM
    rw [show fup g i 0 a = g a from if_neg hne], rpl_o hne⟩)
  rw [Int.one_mul] at e
  exact e
theorem k_col (hw : ∀ i j, w i j = w j i) {U : Nat → Bool} {g : Nat → Int} {j : Nat} (hj : j < N) : sgm (fun i => if U i = true then laM w N U g i j else 0) N = if U j = true then g j else 0 := by
  by_cases c : U j = true
  · rw [if_pos c]
    have e := sgm_up (f := fun i => - (if U i = true ∧ i ≠ j then w j i else 0)) (g := fun i => if U i = true then laM w N U g i j else 0) (i := j) (n := N) (fun i _ hne => by
      show (if U i = true then laM w N U g i j else 0) = - (if U i = true ∧ i ≠ j then w j i else 0)
      by_cases c1 : U i = true
      · rw [if_pos c1, if_pos ⟨c1, hne⟩, lp_o c1 c hne, hw i j]
      · rw [if_neg c1, if_neg (fun q => c1 q.1)]; rfl) hj
    rw [e, sgm_neg (f := fun i => if U i = true ∧ i ≠ j then w j i else 0)]
    show - sgm (fun i => if U i = true ∧ i ≠ j then w j i else 0) N + ((if U j = true then laM w N U g j j else 0) - - (if U j = true ∧ j ≠ j then w j j else 0)) = g j
    rw [if_pos c, if_neg (fun q => q.2 rfl), lp_d c]; omega
  · rw [if_neg c, sgm_cg (f := fun i => if U i = true then laM w N U g i j else 0) (g := fun _ => 0) (fun i _ => by
      show (if U i = true then laM w N U g i j else 0) = 0
      by_cases c1 : U i = true
      · rw [if_pos c1, lp_z c1 c]
      · rw [if_neg c1]), sgm_0]
/-- the rows of a set without ground hang together -/
theorem k_dep (hw : ∀ i j, w i j = w j i) {U : Nat → Bool} {g : Nat → Int} (hg : ∀ i, i < N → U i = true → g i = 0) {s j : Nat} (hs : s < N) (hU : U s = true) (hj : j < N) : laM w N U g s j = sgm (fun i => (if U i = true ∧ i ≠ s then -1 else 0) * laM w N U g i j) N := by
  have e0 := k_col (w := w) (N := N) hw (U := U) (g := g) hj
  have e1 : (if U j = true then g j else 0) = 0 := by
    by_cases c : U j = true
    · rw [if_pos c]; exact hg j hj c
    · rw [if_neg c]
  have e := sgm_up (f := fun i => - (if U i = true then laM w N U g i j else 0)) (g := fun i => (if U i = true ∧ i ≠ s then -1 else 0) * laM w N U g i j) (i := s) (n := N) (fun i _ hne => by
    show (if U i = true ∧ i ≠ s then -1 else 0) * laM w N U g i j = - (if U i = true then laM w N U g i j else 0)
    by_cases c1 : U i = true
    · rw [if_pos c1, if_pos ⟨c1, hne⟩]; omega
    · rw [if_neg c1, if_neg (fun q => c1 q.1)]; omega) hs
  rw [e, sgm_neg (f := fun i => if U i = true then laM w N U g i j else 0), e0, e1]
  show _ = -0 + ((if U s = true ∧ s ≠ s then -1 else 0) * laM w N U g s j - - (if U s = true then laM w N U g s j else 0))
  rw [if_neg (fun q => q.2 rfl), if_pos hU]; omega
theorem k_0 (hw : ∀ i j, w i j = w j i) {U : Nat → Bool} {g : Nat → Int} (hg : ∀ i, i < N → U i = true → g i = 0) {s : Nat} (hs : s < N) (hU : U s = true) : kwF w N U g = 0 := by
  have e := dt_sum (n := N) (A := laM w N U g) (q := s) (c := fun i => if U i = true ∧ i ≠ s then -1 else 0) (v := laM w N U g) hs N
  rw [rpl_id (fun j hj => (k_dep hw hg hs hU hj).symm)] at e
  show dtm N (laM w N U g) = 0
  rw [e, sgm_cg (f := fun i => (if U i = true ∧ i ≠ s then -1 else 0) * dtm N (rpl (laM w N U g) s (laM w N U g i))) (g := fun _ => 0) (fun i hi => by
    show (if U i = true ∧ i ≠ s then -1 else 0) * dtm N (rpl (laM w N U g) s (laM w N U g i)) = 0
    by_cases c : i = s
    · rw [if_neg (fun q => q.2 c), Int.zero_mul]
    · rw [dt_ee (A := rpl (laM w N U g) s (laM w N U g i)) hs hi (fun q => c q.symm) (fun j _ => by rw [rpl_s, rpl_o c]), Int.mul_zero]), sgm_0]
theorem k_row {U : Nat → Bool} {i : Nat} (hi : i < N) (hU : U i = true) : sgm (fun j => laM w N U (fun _ => 0) i j * (if U j = true then 1 else 0)) N = 0 := by
  have e := sgm_up (f := fun j => - (if U j = true ∧ j ≠ i then w i j else 0)) (g := fun j => laM w N U (fun _ => 0) i j * (if U j = true then 1 else 0)) (i := i) (n := N) (fun j _ hne => by
    show laM w N U (fun _ => 0) i j * (if U j = true then 1 else 0) = - (if U j = true ∧ j ≠ i then w i j else 0)
    by_cases c : U j = true
    · rw [if_pos c, if_pos ⟨c, hne⟩, lp_o hU c (fun q => hne q.symm)]; omega
    · rw [if_neg c, if_neg (fun q => c q.1)]; omega) hi
  rw [e, sgm_neg (f := fun j => if U j = true ∧ j ≠ i then w i j else 0)]
  show - sgm (fun j => if U j = true ∧ j ≠ i then w i j else 0) N + (laM w N U (fun _ => 0) i i * (if U i = true then 1 else 0) - - (if U i = true ∧ i ≠ i then w i i else 0)) = 0
  rw [if_pos hU, if_neg (fun q => q.2 rfl), lp_d hU]; omega
/-- any node may be the root -/
theorem k_rt (hw : ∀ i j, w i j = w j i) {U : Nat → Bool} {b c : Nat} (hb : b < N) (hc : c < N) (hUb : U b = true) (hUc : U c = true) : kwF w N (bst U b false) (w b) = kwF w N (bst U c false) (w c) := by
  by_cases hbc : b = c
  · rw [hbc]
  have rt : ∀ a, a < N → U a = true → kwF w N (bst U a false) (w a) = dtm N (rpl (laM w N U (fun _ => 0)) a (fun j => if a = j then 1 else 0)) := fun a ha hUa => by
    rw [k_rm hw ha hUa]
    exact k_cg (fun _ _ => rfl) (fun i _ _ => (Int.zero_add _).symm)
  rw [rt b hb hUb, rt c hc hUc]
  obtain ⟨A, hA⟩ : ∃ A, A = laM w N U (fun _ => 0) := ⟨_, rfl⟩
  rw [← hA]
  have dep : ∀ j, j < N → A b j = sgm (fun i => (if U i = true ∧ i ≠ b then -1 else 0) * A i j) N := fun j hj => by
    rw [hA]; exact k_dep hw (fun _ _ _ => rfl) hb hUb hj
  -- a row of the unit at c for b
  have h1 : dtm N (rpl A c (fun j => if b = j then 1 else 0)) = dtm N (rpl A b (fun j => if b = j then 1 else 0)) := by
    have e := dt_sum (n := N) (A := rpl A c (fun j => if b = j then 1 else 0)) (q := b) (c := fun i => if U i = true ∧ i ≠ b then -1 else 0) (v := A) hb N
    rw [rpl_id (fun j hj => by rw [rpl_o hbc]; exact (dep j hj).symm)] at e
    rw [e, sgm_one (f := fun i => (if U i = true ∧ i ≠ b then -1 else 0) * dtm N (rpl (rpl A c (fun j => if b = j then 1 else 0)) b (A i))) hc (fun i hi hne => by
      show (if U i = true ∧ i ≠ b then -1 else 0) * dtm N (rpl (rpl A c (fun j => if b = j then 1 else 0)) b (A i)) = 0
      by_cases g : i = b
      · rw [if_neg (fun q => q.2 g), Int.zero_mul]
      · rw [dt_ee (A := rpl (rpl A c (fun j => if b = j then 1 else 0)) b (A i)) hb hi (fun q => g q.symm) (fun j _ => by rw [rpl_s, rpl_o g, rpl_o hne]), Int.mul_zero])]
    show (if U c = true ∧ c ≠ b then -1 else 0) * dtm N (rpl (rpl A c (fun j => if b = j then 1 else 0)) b (A c)) = _
    rw [if_pos ⟨hUc, fun q => hbc q.symm⟩]
    have ex := dt_ex (n := N) (A := rpl A b (fun j => if b = j then 1 else 0)) hb hc hbc
    have es : dtm N (rpl (rpl A c (fun j => if b = j then 1 else 0)) b (A c)) = dtm N (rpl (rpl (rpl A b (fun j => if b = j then 1 else 0)) b (rpl A b (fun j => if b = j then 1 else 0) c)) c (rpl A b (fun j => if b = j then 1 else 0) b)) := dt_cg (fun i j _ _ => by
      by_cases e1 : i = b
      · rw [e1, rpl_s, rpl_o hbc, rpl_s, rpl_o (fun q => hbc q.symm)]
      · rw [rpl_o e1]
        by_cases e2 : i = c
        · rw [e2, rpl_s, rpl_s, rpl_s]
        · rw [rpl_o e2, rpl_o e2, rpl_o e1, rpl_o e1])
    rw [es, ex]; omega
  have h2 : dtm N (rpl A c (fun j => if b = j then 1 else 0)) = dtm N (rpl A c (fun j => if c = j then 1 else 0)) := by
    have e := dt_l2 (n := N) (A := A) (q := c) (x := 1) (y := -1) (u := fun j => if b = j then 1 else 0) (v := fun j => if c = j then 1 else 0) hc
    have z : dtm N (rpl A c (fun j => 1 * (if b = j then 1 else 0) + -1 * (if c = j then 1 else 0))) = 0 := dt_ker (v := fun j => if U j = true then 1 else 0) hc (if_pos hUc) (fun i hi => by
      by_cases e1 : i = c
      · rw [e1]
        have q := sgm_sub (f := fun j => if j = b then (1 : Int) else 0) (g := fun j => if j = c then (1 : Int) else 0) N
        rw [sgm_one (f := fun j => if j = b then (1 : Int) else 0) hb (fun j _ h => if_neg h), sgm_one (f := fun j => if j = c then (1 : Int) else 0) hc (fun j _ h => if_neg h), if_pos rfl, if_pos rfl] at q
        have q0 : sgm (fun j => (if j = b then (1 : Int) else 0) - (if j = c then (1 : Int) else 0)) N = 0 := by rw [q]; rfl
        refine Eq.trans (sgm_cg (g := fun j => (if j = b then (1 : Int) else 0) - (if j = c then (1 : Int) else 0)) (fun j hj => ?_)) q0
        show rpl A c (fun j => 1 * (if b = j then 1 else 0) + -1 * (if c = j then 1 else 0)) c j * (if U j = true then 1 else 0) = (if j = b then (1 : Int) else 0) - (if j = c then (1 : Int) else 0)
        rw [rpl_s]
        by_cases e2 : j = b
        · rw [if_pos e2, if_pos e2.symm, if_neg (show ¬ c = j from fun q => hbc (e2.symm.trans q.symm)), if_neg (show ¬ j = c from fun q => hbc (e2.symm.trans q)), e2, if_pos hUb]; rfl
        · rw [if_neg e2, if_neg (show ¬ b = j from fun q => e2 q.symm)]
          by_cases e3 : j = c
          · rw [if_pos e3, if_pos e3.symm, e3, if_pos hUc]; rfl
          · rw [if_neg e3, if_neg (show ¬ c = j from fun q => e3 q.symm)]; omega
      · rw [sgm_cg (f := fun j => rpl A c (fun j => 1 * (if b = j then 1 else 0) + -1 * (if c = j then 1 else 0)) i j * (if U j = true then 1 else 0)) (g := fun j => A i j * (if U j = true then 1 else 0)) (fun j _ => by
          show rpl A c (fun j => 1 * (if b = j then 1 else 0) + -1 * (if c = j then 1 else 0)) i j * (if U j = true then 1 else 0) = A i j * (if U j = true then 1 else 0)
          rw [rpl_o e1])]
        by_cases c1 : U i = true
        · rw [hA]; exact k_row hi c1
        · rw [hA, sgm_cg (f := fun j => laM w N U (fun _ => 0) i j * (if U j = true then 1 else 0)) (g := fun _ => 0) (fun j _ => by
            show laM w N U (fun _ => 0) i j * (if U j = true then 1 else 0) = 0
            rw [lp_u c1]
            by_cases e4 : i = j
            · rw [if_pos e4, if_neg (show ¬ U j = true from fun q => c1 (e4 ▸ q))]; rfl
            · rw [if_neg e4, Int.zero_mul]), sgm_0])
    rw [z, Int.one_mul] at e
    omega
  rw [← h1, h2]
end KW
