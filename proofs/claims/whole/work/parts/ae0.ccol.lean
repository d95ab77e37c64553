def cpJ (f g : Nat → Int64) (s d x : Nat) : Nat → Int64 := fun i => if d ≤ i ∧ i < d + x then f (s + (i - d)) else g i
section TY
variable {G : MG} {M : MM} {d pc : Nat} {lv : List (Nat × Value)} {st : List Value} {hp : MH} {n kr wr : Nat} {Po : Option Value → MH → Nat → Prop}
theorem t_copyJX {Γ : TG} {ix t0 a0 a L0 L : Nat} {c0 : ClassId} {sp dp x : Int} {f g : Nat → Int64} (ht : Tw Γ hp) (h0 : rd Γ a0 (xJ c0 L0 f)) (hΓ : rd Γ a (xJ c0 L g)) (F : lkA G M.1.cls ix) (hd : decode M.2.1 pc = .ok (.invokestatic ix, 3)) (hty : (g_ty G)[t0]? = some (c0, .long)) (hL : L0 ≤ 2147483647 ∧ L ≤ 2147483647) (hx : 0 ≤ x ∧ 0 ≤ sp ∧ 0 ≤ dp ∧ sp + x ≤ (L0 : Int) ∧ dp + x ≤ (L : Int)) (hst : (st.map fun v => v.category).sum ≤ 8) (kk : ∀ hp1 : MH, Tw (ov Γ a (xJ c0 L (cpJ f g sp.toNat dp.toNat x.toNat))) hp1 → Rn G M d (pc + 3) lv st hp1 n kr wr Po) : Rn G M d pc lv (.int (iv x) :: .int (iv dp) :: .ref a :: .int (iv sp) :: .ref a0 :: st) hp n kr wr Po := by
  obtain ⟨e, h1, f', rfl, h2⟩ := rd_at ht h0
  obtain ⟨e', h3, g', rfl, h4⟩ := rd_at ht hΓ
  have nn : ∀ z : Int, 0 ≤ z ∧ z ≤ 2147483647 → iv z = nI z.toNat := fun z hz => by rw [nI_iv]; congr 1; omega
  refine w_copyl (s0 := sp.toNat) (d0 := dp.toNat) (N := x.toNat) (g' := va_cpy f' g' sp.toNat dp.toNat x.toNat) F hd hty hty h1 h3 (nn _ (by omega)) (nn _ (by omega)) (nn _ (by omega)) (by omega) (by omega) (by omega) (by omega) hst rfl (fun hp1 h5 h6 => kk hp1 (ht.up h5 ⟨_, rfl, fun i hj => ?_⟩ h6))
  show va_cpy f' g' sp.toNat dp.toNat x.toNat i = cpJ f g sp.toNat dp.toNat x.toNat i
  unfold va_cpy cpJ
  split
  · exact h2 _ (by omega)
  · exact h4 i hj
end TY
theorem t_fillJX {D : va_G} {cI cJ cZ cT : ClassId} {lo b L : Nat} {xs : Nat → Int32} {M : MM} {d pc : Nat} {lv : List (Nat × Value)} {st : List Value} {hp : MH} {n kr wr : Nat} {Po : Option Value → MH → Nat → Prop} {Γ : TG} {ix a N : Nat} {x : Int64} {f0 : Nat → Int64} (ht : Tw Γ hp) (hΓ : rd Γ a (xJ cJ N f0)) (F : lkK (gG D cI cJ cZ cT lo b L xs) M.1.cls ix mJ7_fill_d0a16 2 ∧ Cond.static mJ7_fill_d0a16.1 ∈ g_ws (gG D cI cJ cZ cT lo b L xs)) (hd : decode M.2.1 pc = .ok (.invokestatic ix, 3)) (hN : N < 2 ^ 31) (hdd : 1 ≤ d) (hst : (st.map fun v => v.category).sum ≤ 8) (kk : ∀ hp1 : MH, Tw (ov Γ a (xJ cJ N (fun _ => x))) hp1 → Rn (gG D cI cJ cZ cT lo b L xs) M d (pc + 3) lv st hp1 n kr wr Po) : Rn (gG D cI cJ cZ cT lo b L xs) M d pc lv (.long x :: .ref a :: st) hp n kr wr Po := by
  obtain ⟨e, h1', f, rfl, h2⟩ := rd_at ht hΓ
  refine r_callS (as := [.ref a, .long x]) (st := st) F hd (c_J7_fill_d0a16 (d := 0) (Nat.zero_le _) h1' hN) rfl (by omega) hst (Nat.zero_le _) (Nat.zero_le _) rfl (fun r hp1 n1 hq => ?_)
  obtain ⟨rfl, rfl, h4, h5⟩ := hq
  refine kk hp1 ?_
  intro q T' h7
  by_cases hq : q = a
  · subst hq
    rw [ov_s] at h7
    cases h7
    refine ⟨_, h4, _, rfl, ?_⟩
    intro i hi
    show (if i < N then x else f i) = x
    rw [if_pos hi]
  · rw [ov_o _ _ hq] at h7
    obtain ⟨e', h8, h9⟩ := ht q T' h7
    exact ⟨e', h5 q e' h8 hq, h9⟩
/-- weights summed over goings -/
def wsF (Tl By W : Nat → Int) (f0 : Nat → Int64) : Nat → Nat → Int64
  | 0 => f0
  | k + 1 => fuj (wsF Tl By W f0 k) (Tl k).toNat (wsF Tl By W f0 k (Tl k).toNat + (iv (W (By k).toNat)).toInt64)
theorem ws_up {Tl By W : Nat → Int} {f0 f : Nat → Int64} {k : Int} (h : f = wsF Tl By W f0 k.toNat) (h0 : 0 ≤ k) : fuj f (Tl k.toNat).toNat (f (Tl k.toNat).toNat + (iv (W (By k.toNat).toNat)).toInt64) = wsF Tl By W f0 (k + 1).toNat := by
  rw [tn1 h0, h]; rfl
theorem ws_dg {m q : Nat} {d : Int} {F T Tl Hd By W : Nat → Int} {pos : Nat → Nat} {f0 : Nat → Int64} (h : GoS m q d F T Tl Hd By pos) : wsF Tl By W f0 q = dgF 2 d F T W f0 m := by
  have key : ∀ j, j ≤ m → wsF Tl By W f0 (pos j) = dgF 2 d F T W f0 j := by
    intro j
    induction j with
    | zero => intro _; rw [h.1]; rfl
    | succ j ih =>
      intro hj
      have e := ih (by omega)
      obtain ⟨h2, h3, h4, h5, h6⟩ := h.2.2 j (by omega)
      have es : wsF Tl By W f0 (pos j + 1) = fuj (dgF 2 d F T W f0 j) (F j).toNat (dgF 2 d F T W f0 j (F j).toNat + (iv (W j)).toInt64) := by
        show fuj (wsF Tl By W f0 (pos j)) (Tl (pos j)).toNat (wsF Tl By W f0 (pos j) (Tl (pos j)).toNat + (iv (W (By (pos j)).toNat)).toInt64) = _
        rw [e, h2, h4, Int.toNat_natCast]
      show _ = dgS 2 d (F j) (T j) (W j) (dgF 2 d F T W f0 j)
      unfold dgS
      rw [if_pos rfl]
      by_cases hc : d = 0 ∧ F j ≠ T j
      · obtain ⟨g1, g2, g3, g4⟩ := h5 hc
        rw [g1, if_pos hc]
        show fuj (wsF Tl By W f0 (pos j + 1)) (Tl (pos j + 1)).toNat (wsF Tl By W f0 (pos j + 1) (Tl (pos j + 1)).toNat + (iv (W (By (pos j + 1)).toNat)).toInt64) = _
        rw [es, g2, g4, Int.toNat_natCast]
      · rw [h6 hc, if_neg hc]; exact es
  have := key m (Nat.le_refl _)
  rw [h.2.1] at this; exact this
/-- one round of walks over goings -/
def wgF (Tl Hd : Nat → Int) (c : Nat → Int64) : Nat → Nat → Int64
  | 0 => fun _ => 0
  | k + 1 => fuj (wgF Tl Hd c k) (Tl k).toNat (wgF Tl Hd c k (Tl k).toNat + c (Hd k).toNat)
theorem wg_up {Tl Hd : Nat → Int} {c f : Nat → Int64} {k : Int} (h : f = wgF Tl Hd c k.toNat) (h0 : 0 ≤ k) : fuj f (Tl k.toNat).toNat (f (Tl k.toNat).toNat + c (Hd k.toNat).toNat) = wgF Tl Hd c (k + 1).toNat := by
  rw [tn1 h0, h]; rfl
theorem wg_wk {m q : Nat} {d : Int} {F T Tl Hd By : Nat → Int} {pos : Nat → Nat} {c : Nat → Int64} (h : GoS m q d F T Tl Hd By pos) (hF : ∀ k, k < m → 0 ≤ F k ∧ 0 ≤ T k) : ∀ v : Nat, wgF Tl Hd c q v = wkA d F T c v m := by
  have key : ∀ j, j ≤ m → ∀ v : Nat, wgF Tl Hd c (pos j) v = wkA d F T c v j := by
    intro j
    induction j with
    | zero => intro _ v; rw [h.1]; rfl
    | succ j ih =>
      intro hj v
      have e := ih (by omega)
      obtain ⟨h2, h3, h4, h5, h6⟩ := h.2.2 j (by omega)
      have hp := hF j (by omega)
      have es : ∀ w : Nat, wgF Tl Hd c (pos j + 1) w = if w = (F j).toNat then wkA d F T c w j + c (T j).toNat else wkA d F T c w j := fun w => by
        show fuj (wgF Tl Hd c (pos j)) (Tl (pos j)).toNat (wgF Tl Hd c (pos j) (Tl (pos j)).toNat + c (Hd (pos j)).toNat) w = _
        rw [h2, h3]
        by_cases ew : w = (F j).toNat
        · rw [if_pos ew, ew, fuj_s, e]
        · rw [if_neg ew, fuj_o _ _ ew, e]
      show _ = wkA d F T c v j + (if F j = (v : Int) then c (T j).toNat else if d = 0 ∧ T j = (v : Int) then c (F j).toNat else 0)
      by_cases hc : d = 0 ∧ F j ≠ T j
      · obtain ⟨g1, g2, g3, g4⟩ := h5 hc
        rw [g1]
        show fuj (wgF Tl Hd c (pos j + 1)) (Tl (pos j + 1)).toNat (wgF Tl Hd c (pos j + 1) (Tl (pos j + 1)).toNat + c (Hd (pos j + 1)).toNat) v = _
        rw [g2, g3]
        by_cases ev : v = (T j).toNat
        · rw [ev, fuj_s, es, if_neg (by omega), if_neg (by omega), if_pos (by omega)]
        · rw [fuj_o _ _ ev, es]
          by_cases ef : v = (F j).toNat
          · rw [if_pos ef, if_pos (by omega)]
          · rw [if_neg ef, if_neg (by omega), if_neg (by omega), Int64.add_zero]
      · rw [h6 hc, es]
        by_cases ef : v = (F j).toNat
        · rw [if_pos ef, if_pos (by omega)]
        · rw [if_neg ef, if_neg (by omega), if_neg (by omega), Int64.add_zero]
  intro v
  have := key m (Nat.le_refl _) v
  rw [h.2.1] at this; exact this
/-- the least of those left, in the midst of looking for it -/
def pmP (left : Int) (ie : Nat → Int) (v le : Int) : Prop := (le = -1 ∧ ∀ u : Nat, (u : Int) < v → ¬ Me left u) ∨ (0 ≤ le ∧ le < v ∧ Me left le.toNat ∧ ∀ u : Nat, (u : Int) < v → Me left u → ie le.toNat ≤ ie u)
theorem pm_no {left : Int} {ie : Nat → Int} {v le : Int} (h : pmP left ie v le) (h0 : 0 ≤ v) (hn : ¬ Me left v.toNat ∨ (0 ≤ le ∧ ie le.toNat ≤ ie v.toNat)) : pmP left ie (v + 1) le := by
  rcases h with ⟨q1, q2⟩ | ⟨q1, q2, q3, q4⟩
  · refine Or.inl ⟨q1, fun u hu => ?_⟩
    by_cases e : u = v.toNat
    · subst e; exact hn.elim id (fun g => by omega)
    · exact q2 u (by omega)
  · refine Or.inr ⟨q1, by omega, q3, fun u hu hm => ?_⟩
    by_cases e : u = v.toNat
    · subst e; exact hn.elim (fun g => absurd hm g) (fun g => g.2)
    · exact q4 u (by omega) hm
theorem pm_up {left : Int} {ie : Nat → Int} {v le : Int} (h : pmP left ie v le) (h0 : 0 ≤ v) (hm : Me left v.toNat) (hl : le < 0 ∨ ie v.toNat < ie le.toNat) : pmP left ie (v + 1) v := by
  refine Or.inr ⟨h0, by omega, hm, fun u hu hmu => ?_⟩
  by_cases e : u = v.toNat
  · subst e; exact Int.le_refl _
  · rcases h with ⟨q1, q2⟩ | ⟨q1, q2, q3, q4⟩
    · exact absurd hmu (q2 u (by omega))
    · have := q4 u (by omega) hmu
      omega
/-- a column of cores: those that are gone have theirs -/
def pcP (m : Nat) (F T : Nat → Int) (n : Nat) (left : Int) (f : Nat → Int64) : Prop := ∀ v, v < n → ¬ Me left v → coP m F T n v (f v).toInt
theorem pc_up {m : Nat} {F T : Nat → Int} {n : Nat} {left left' c : Int} {v : Nat} {f : Nat → Int64} {x : Int64} (h : pcP m F T n left f) (hx : x.toInt = c) (hc : coP m F T n v c) (hl : ∀ i, Me left' i ↔ Me left i ∧ i ≠ v) : pcP m F T n left' (fuj f v x) := by
  intro u hu hn
  by_cases e : u = v
  · subst e; rw [fuj_s, hx]; exact hc
  · rw [fuj_o _ _ e]
    exact h u hu (fun h9 => hn ((hl u).mpr ⟨h9, e⟩))
theorem bcn_rm {s t : Int} {v : Nat} (h : ∀ i, Me t i ↔ Me s i ∧ i ≠ v) (hv : Me s v) : ∀ {k : Nat}, v < k → bcn s k = bcn t k + 1 := by
  intro k
  induction k with
  | zero => intro h9; omega
  | succ k ih =>
    intro h9
    show bcn s k + (if s.toNat.testBit k = true then 1 else 0) = bcn t k + (if t.toNat.testBit k = true then 1 else 0) + 1
    by_cases e : v = k
    · subst e
      have hk : ∀ j, j ≤ v → bcn s j = bcn t j := by
        intro j
        induction j with
        | zero => intro _; rfl
        | succ j ihj =>
          intro hj
          show bcn s j + (if s.toNat.testBit j = true then 1 else 0) = bcn t j + (if t.toNat.testBit j = true then 1 else 0)
          rw [ihj (by omega)]
          by_cases hs : s.toNat.testBit j = true
          · rw [if_pos hs, if_pos (show t.toNat.testBit j = true from (h j).mpr ⟨hs, by omega⟩)]
          · rw [if_neg hs, if_neg (show ¬ t.toNat.testBit j = true from fun h8 => hs ((h j).mp h8).1)]
      rw [hk v (Nat.le_refl _), if_pos (show s.toNat.testBit v = true from hv), if_neg (show ¬ t.toNat.testBit v = true from fun h8 => ((h v).mp h8).2 rfl)]
    · rw [ih (by omega)]
      by_cases hs : s.toNat.testBit k = true
      · rw [if_pos hs, if_pos (show t.toNat.testBit k = true from (h k).mpr ⟨hs, by omega⟩)]
      · rw [if_neg hs, if_neg (show ¬ t.toNat.testBit k = true from fun h8 => hs ((h k).mp h8).1)]
theorem bcn_all {n : Nat} : ∀ {k : Nat}, k ≤ n → bcn (((2 ^ n : Nat) : Int) - 1) k = k := by
  intro k
  induction k with
  | zero => intro _; rfl
  | succ k ih =>
    intro h
    show bcn _ k + (if _ then 1 else 0) = k + 1
    rw [ih (by omega), if_pos (show (((2 ^ n : Nat) : Int) - 1).toNat.testBit k = true from (Me_all k).mpr (by omega))]
theorem bcn_z {s : Int} : ∀ {k : Nat}, bcn s k = 0 → ∀ i, i < k → ¬ Me s i := by
  intro k
  induction k with
  | zero => intro _ i hi; omega
  | succ k ih =>
    intro h i hi
    have h' : bcn s k + (if s.toNat.testBit k = true then 1 else 0) = 0 := h
    by_cases hs : s.toNat.testBit k = true
    · rw [if_pos hs] at h'; omega
    · rw [if_neg hs] at h'
      by_cases e : i = k
      · subst e; exact hs
      · exact ih (by omega) i (by omega)
theorem pm_pos {left : Int} {ie : Nat → Int} {v le : Int} {n : Nat} (h : pmP left ie v le) (hv : v = (n : Int)) (hb : 0 < bcn left n) : 0 ≤ le := by
  rcases h with ⟨-, q2⟩ | ⟨q1, -⟩
  · exfalso
    have z : ∀ k, k ≤ n → bcn left k = 0 := by
      intro k
      induction k with
      | zero => intro _; rfl
      | succ k ih =>
        intro hk
        show bcn left k + (if left.toNat.testBit k = true then 1 else 0) = 0
        rw [ih (by omega), if_neg (show ¬ left.toNat.testBit k = true from q2 k (by omega))]
    have := z n (Nat.le_refl _)
    omega
  · exact q1
theorem pk_min {m : Nat} {F T : Nat → Int} {left : Int} {ie : Nat → Int} {v le : Int} {n : Nat} (h : pmP left ie v le) (hv : v = (n : Int)) (hi : inP F T left (n : Int) ie m) (hle : 0 ≤ le) (hl : left.toNat < 2 ^ n) : Me left le.toNat ∧ (∀ u, Me left u → enC F T left le.toNat m ≤ enC F T left u m) ∧ ie le.toNat = (enC F T left le.toNat m : Int) := by
  rcases h with ⟨q1, -⟩ | ⟨q1, q2, q3, q4⟩
  · omega
  · have e1 := hi le.toNat (by omega)
    refine ⟨q3, fun u hu => ?_, e1⟩
    have hun := Me_bd hu hl
    have h1 := q4 u (by omega) hu
    have h2 := hi u (by omega)
    omega
/-- a number that counts down -/
theorem left_st {left z b : Int} {v n : Nat} (hz : ∀ i, Me z i ↔ Me left i ∧ ¬ Me b i) (hb : ∀ i, Me b i ↔ i = v) : ∀ i, Me z i ↔ Me left i ∧ i ≠ v := fun i => by rw [hz i, hb i]
theorem sub_lt {left z : Int} {v n : Nat} (hz : ∀ i, Me z i ↔ Me left i ∧ i ≠ v) (h1 : left.toNat < 2 ^ n) : z.toNat < 2 ^ n := by
  apply Nat.lt_pow_two_of_testBit
  intro i hi
  cases h : z.toNat.testBit i
  · rfl
  · have := Me_bd ((hz i).mp h).1 h1
    omega
theorem cpJ_all {f g : Nat → Int64} {n : Nat} : eqB (cpJ f g (Int.toNat 0) (Int.toNat 0) (Int.toNat (n : Int))) f (n : Int) := by
  intro u hu
  show (if (Int.toNat 0) ≤ u ∧ u < Int.toNat 0 + Int.toNat (n : Int) then f (Int.toNat 0 + (u - Int.toNat 0)) else g u) = f u
  rw [if_pos (by omega)]
  congr 1; omega
theorem eqB_tr {f g h : Nat → Int64} {v : Int} (h1 : eqB f g v) (h2 : eqB g h v) : eqB f h v := fun u hu => (h1 u hu).trans (h2 u hu)
/-- messages over goings: what came so far -/
def pgA (Tl Hd By W : Nat → Int) (kind j : Int) (c : Nat → Int64) (v : Nat) (s0 : Option Int64) : Nat → Option Int64
  | 0 => s0
  | k + 1 => if Hd k = (v : Int) then some (match pgA Tl Hd By W kind j c v s0 k with | none => mgV kind (c (Tl k).toNat) (iv (W (By k).toNat)).toInt64 | some a => jnV j a (mgV kind (c (Tl k).toNat) (iv (W (By k).toNat)).toInt64)) else pgA Tl Hd By W kind j c v s0 k
theorem pg_hd {m q : Nat} {d : Int} {F T Tl Hd By W : Nat → Int} {pos : Nat → Nat} {kind j : Int} {c : Nat → Int64} (h : GoS m q d F T Tl Hd By pos) (v : Nat) : pgA Tl Hd By W kind j c v none q = hdA d F T W kind j c v m := by
  have key : ∀ i, i ≤ m → pgA Tl Hd By W kind j c v none (pos i) = hdA d F T W kind j c v i := by
    intro i
    induction i with
    | zero => intro _; rw [h.1]; rfl
    | succ i ih =>
      intro hi
      have e := ih (by omega)
      obtain ⟨h2, h3, h4, h5, h6⟩ := h.2.2 i (by omega)
      have es : pgA Tl Hd By W kind j c v none (pos i + 1) = if T i = (v : Int) then some (match hdA d F T W kind j c v i with | none => mgV kind (c (F i).toNat) (iv (W i)).toInt64 | some a => jnV j a (mgV kind (c (F i).toNat) (iv (W i)).toInt64)) else hdA d F T W kind j c v i := by
        simp only [pgA]
        rw [e, h2, h3, h4, Int.toNat_natCast]
      simp only [hdA]
      by_cases hc : d = 0 ∧ F i ≠ T i
      · obtain ⟨g1, g2, g3, g4⟩ := h5 hc
        rw [g1]
        have e2 : pgA Tl Hd By W kind j c v none (pos i + 2) = if F i = (v : Int) then some (match pgA Tl Hd By W kind j c v none (pos i + 1) with | none => mgV kind (c (T i).toNat) (iv (W i)).toInt64 | some a => jnV j a (mgV kind (c (T i).toNat) (iv (W i)).toInt64)) else pgA Tl Hd By W kind j c v none (pos i + 1) := by
          show pgA Tl Hd By W kind j c v none (pos i + 1 + 1) = _
          conv => lhs; simp only [pgA]
          rw [g2, g3, g4, Int.toNat_natCast, es]
          simp only [pgA] at es
          rw [es]
        rw [e2, es]
        by_cases hF : F i = (v : Int)
        · rw [if_pos hF, if_neg (show ¬ T i = (v : Int) from fun e9 => hc.2 (hF.trans e9.symm)), if_neg (show ¬ T i = (v : Int) from fun e9 => hc.2 (hF.trans e9.symm)), if_pos ⟨hc.1, hF⟩]; first | rfl | (cases hdA d F T W kind j c v i <;> rfl) | (split <;> first | rfl | (cases hdA d F T W kind j c v i <;> rfl))
        · rw [if_neg hF, if_neg (show ¬ (d = 0 ∧ F i = (v : Int)) from fun q => hF q.2)]; first | rfl | (cases hdA d F T W kind j c v i <;> rfl) | (split <;> first | rfl | (cases hdA d F T W kind j c v i <;> rfl))
      · rw [h6 hc, es]
        by_cases hT : T i = (v : Int)
        · rw [if_pos hT, if_pos hT]; first | rfl | (cases hdA d F T W kind j c v i <;> rfl) | (split <;> first | rfl | (cases hdA d F T W kind j c v i <;> rfl))
        · rw [if_neg hT, if_neg hT]
          have hn : ¬ (d = 0 ∧ F i = (v : Int)) := fun q => hc ⟨q.1, fun e9 => hT (e9 ▸ q.2)⟩
          rw [if_neg hn]
  have := key m (Nat.le_refl _)
  rw [h.2.1] at this; exact this
theorem jn_comm (j : Int) (a b : Int64) : jnV j a b = jnV j b a := by
  unfold jnV
  split
  · (repeat' split) <;> first | rfl | (exfalso; omega) | (apply Int64.toInt_inj.mp; omega)
  · split
    · (repeat' split) <;> first | rfl | (exfalso; omega) | (apply Int64.toInt_inj.mp; omega)
    · split
      · exact Int64.add_comm a b
      · exact Int64.xor_comm a b
theorem jn_assoc (j : Int) (a b c : Int64) : jnV j (jnV j a b) c = jnV j a (jnV j b c) := by
  unfold jnV
  by_cases h0 : j = 0
  · simp only [if_pos h0]
    (repeat' split) <;> first | rfl | (exfalso; omega) | (apply Int64.toInt_inj.mp; omega)
  · by_cases h1 : j = 1
    · simp only [if_neg h0, if_pos h1]
      (repeat' split) <;> first | rfl | (exfalso; omega) | (apply Int64.toInt_inj.mp; omega)
    · by_cases h2 : j = 2
      · simp only [if_neg h0, if_neg h1, if_pos h2]; exact Int64.add_assoc a b c
      · simp only [if_neg h0, if_neg h1, if_neg h2]; exact Int64.xor_assoc a b c
/-- to begin with one's own number is as good as to join it at the end -/
theorem pg_own {Tl Hd By W : Nat → Int} {kind j : Int} {c : Nat → Int64} {v : Nat} {x : Int64} : ∀ k, pgA Tl Hd By W kind j c v (some x) k = some (match pgA Tl Hd By W kind j c v none k with | none => x | some a => jnV j a x) := by
  intro k
  induction k with
  | zero => rfl
  | succ k ih =>
    simp only [pgA]
    by_cases hh : Hd k = (v : Int)
    · rw [if_pos hh, if_pos hh, ih]
      cases pgA Tl Hd By W kind j c v none k with
      | none => show some (jnV j x _) = some (jnV j _ x); rw [jn_comm]
      | some a =>
        show some (jnV j (jnV j a x) _) = some (jnV j (jnV j a _) x)
        rw [jn_assoc, jn_assoc, jn_comm j x]
    · rw [if_neg hh, if_neg hh, ih]
theorem Tw.lt9 {Γ : TG} {hp : MH} {a n : Nat} {T : va_E → Prop} (ht : Tw Γ hp) (bd : ∀ (q : Nat) (e : va_E), hp q = some e → q < n) (h : rd Γ a T) : a < n := by
  obtain ⟨e, h1, -⟩ := rd_at ht h
  exact bd a e h1
/-- a round of a program, in its midst -/
def plP (Tl Hd By W : Nat → Int) (kind j own : Int) (c nx : Nat → Int64) (n : Nat) (got : Int) (k : Nat) : Prop := ∀ v, v < n → match pgA Tl Hd By W kind j c v (if own = 0 then none else some (c v)) k with | none => ¬ Me got v ∧ nx v = c v | some a => Me got v ∧ nx v = a
theorem pl_0 {Tl Hd By W : Nat → Int} {kind j own got : Int} {c nx : Nat → Int64} {n : Nat} (h : eqB nx c (n : Int)) (h0 : own = 0 → ∀ v, v < n → ¬ Me got v) (h1 : own ≠ 0 → ∀ v, v < n → Me got v) : plP Tl Hd By W kind j own c nx n got 0 := by
  intro v hv
  have e := h v (by omega)
  by_cases ho : own = 0
  · rw [if_pos ho]; exact ⟨h0 ho v hv, e⟩
  · rw [if_neg ho]; exact ⟨h1 ho v hv, e⟩
theorem pl_up {Tl Hd By W : Nat → Int} {kind j own got got' : Int} {c nx : Nat → Int64} {n : Nat} {k : Int} {news x : Int64} (h : plP Tl Hd By W kind j own c nx n got k.toNat) (h0 : 0 ≤ k) (hv : 0 ≤ Hd k.toNat ∧ Hd k.toNat < (n : Int)) (hm : news = mgV kind (c (Tl k.toNat).toNat) (iv (W (By k.toNat).toNat)).toInt64) (hx : (¬ Me got (Hd k.toNat).toNat ∧ x = news) ∨ (Me got (Hd k.toNat).toNat ∧ x = jnV j (nx (Hd k.toNat).toNat) news)) (hg : ∀ i, Me got' i ↔ Me got i ∨ i = (Hd k.toNat).toNat) : plP Tl Hd By W kind j own c (fuj nx (Hd k.toNat).toNat x) n got' (k + 1).toNat := by
  intro u hu
  have hh := h u hu
  rw [tn1 h0]
  simp only [pgA]
  by_cases e : u = (Hd k.toNat).toNat
  · rw [if_pos (show Hd k.toNat = (u : Int) by omega)]
    refine ⟨(hg u).mpr (Or.inr e), ?_⟩
    rw [e, fuj_s]
    rw [← e] at hx ⊢
    cases hp : pgA Tl Hd By W kind j c u (if own = 0 then none else some (c u)) k.toNat with
    | none =>
      rw [hp] at hh
      rcases hx with q | q
      · rw [q.2, hm]
      · exact absurd q.1 hh.1
    | some a =>
      rw [hp] at hh
      rcases hx with q | q
      · exact absurd hh.1 q.1
      · rw [q.2, hm, hh.2]
  · rw [if_neg (show ¬ Hd k.toNat = (u : Int) by omega), fuj_o _ _ e]
    cases hp : pgA Tl Hd By W kind j c u (if own = 0 then none else some (c u)) k.toNat with
    | none =>
      rw [hp] at hh
      exact ⟨fun h9 => ((hg u).mp h9).elim hh.1 e, hh.2⟩
    | some a =>
      rw [hp] at hh
      exact ⟨(hg u).mpr (Or.inl hh.1), hh.2⟩
theorem pl_end {m q n : Nat} {d : Int} {F T Tl Hd By W : Nat → Int} {pos : Nat → Nat} {kind j own got : Int} {c nx : Nat → Int64} (h : plP Tl Hd By W kind j own c nx n got q) (hgo : GoS m q d F T Tl Hd By pos) : ∀ v, v < n → nx v = hdV m d F T W kind j own c v := by
  intro v hv
  have hh := h v hv
  unfold hdV
  by_cases ho : own = 0
  · rw [if_pos ho, pg_hd hgo v] at hh
    cases hp : hdA d F T W kind j c v m with
    | none => rw [hp] at hh; exact hh.2
    | some a => rw [hp] at hh; show nx v = if own = 0 then a else _; rw [if_pos ho]; exact hh.2
  · rw [if_neg ho, pg_own, pg_hd hgo v] at hh
    cases hp : hdA d F T W kind j c v m with
    | none => rw [hp] at hh; exact hh.2
    | some a => rw [hp] at hh; show nx v = if own = 0 then a else _; rw [if_neg ho]; exact hh.2
/-- a round's end: the numbers are the next round's -/
theorem pl_rn {m q n : Nat} {d : Int} {F T Tl Hd By W : Nat → Int} {pos : Nat → Nat} {kind j own got r k : Int} {c c0 nx : Nat → Int64} (h : plP Tl Hd By W kind j own c nx n got k.toNat) (hk : k = (q : Int)) (hgo : GoS m q d F T Tl Hd By pos) (hc : eqB c (rnC m d F T W kind j own c0 r.toNat) (n : Int)) (h0 : 0 ≤ r) (hF : ∀ k, k < m → (0 ≤ F k ∧ F k < (n : Int)) ∧ (0 ≤ T k ∧ T k < (n : Int))) : eqB (cpJ nx c (Int.toNat 0) (Int.toNat 0) (Int.toNat (n : Int))) (rnC m d F T W kind j own c0 (r + 1).toNat) (n : Int) := by
  subst hk
  rw [Int.toNat_natCast] at h
  refine eqB_tr cpJ_all (fun u hu => ?_)
  rw [pl_end h hgo u (by omega), hdV_eq hc hu hF, tn1 h0]
  rfl
/-- a round of walks ends -/
theorem wg_rn {m q n : Nat} {d : Int} {F T Tl Hd By : Nat → Int} {pos : Nat → Nat} {r k : Int} {c nx : Nat → Int64} (h : nx = wgF Tl Hd c k.toNat) (hk : k = (q : Int)) (hgo : GoS m q d F T Tl Hd By pos) (hc : eqB c (wkC m d F T r.toNat) (n : Int)) (h0 : 0 ≤ r) (hF : ∀ k, k < m → (0 ≤ F k ∧ F k < (n : Int)) ∧ (0 ≤ T k ∧ T k < (n : Int))) : eqB (cpJ nx c (Int.toNat 0) (Int.toNat 0) (Int.toNat (n : Int))) (wkC m d F T (r + 1).toNat) (n : Int) := by
  subst hk
  rw [Int.toNat_natCast] at h
  refine eqB_tr cpJ_all (fun u hu => ?_)
  rw [h, wg_wk hgo (fun k hk => ⟨(hF k hk).1.1, (hF k hk).2.1⟩) u, tn1 h0]
  exact wkA_eq hc u hF
theorem got_up {got z b : Int} {v : Nat} (hz : ∀ i, Me z i ↔ Me got i ∨ Me b i) (hb : ∀ i, Me b i ↔ i = v) : ∀ i, Me z i ↔ Me got i ∨ i = v := fun i => by rw [hz i, hb i]
theorem and2_me {x : Int} {a b : Nat} (h1 : Me x a) (h2 : Me x b) : (((x.toNat >>> a) &&& (x.toNat >>> b) : Nat) : Int) % 2 ≠ 0 := by
  have h : ((x.toNat >>> a) &&& (x.toNat >>> b)).testBit 0 = true := by
    rw [Nat.testBit_and, Nat.testBit_shiftRight, Nat.testBit_shiftRight, Nat.add_zero, Nat.add_zero, show x.toNat.testBit a = true from h1, show x.toNat.testBit b = true from h2]; rfl
  rw [Nat.testBit_zero] at h
  have := of_decide_eq_true h
  omega

