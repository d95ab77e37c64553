section K1
variable {m n s : Nat} {d : Int} {F T W : Nat → Int}
theorem su_c {f g : Nat → Int64} : ∀ {k : Nat}, (∀ i, i < k → f i = g i) → suA f k = suA g k := by
  intro k
  induction k with
  | zero => intro _; rfl
  | succ k ih =>
    intro h
    show suA f k + f k = suA g k + g k
    rw [ih (fun i hi => h i (by omega)), h k (by omega)]
theorem prA_bd {kind : Int} (hW : ∀ e, e < m → -1000 ≤ W e ∧ W e ≤ 1000) : ∀ e, e < m → -1000 ≤ prA kind W e ∧ prA kind W e ≤ 1000 := fun e he => by
  have := hW e he
  unfold prA
  split <;> omega
theorem one_bd : ∀ e, e < m → -1000 ≤ (fun _ => 1 : Nat → Int) e ∧ (fun _ => 1 : Nat → Int) e ≤ 1000 := fun e _ => ⟨by show (-1000 : Int) ≤ 1; decide, by show (1 : Int) ≤ 1000; decide⟩
theorem w1_fin {k v : Nat} (hW : ∀ e, e < m → -1000 ≤ W e ∧ W e ≤ 1000) (hk : k ≤ 1000000) : bT m d F T (fun _ => 1) 0 0 s k v < 1000000000000 ↔ bT m d F T W 1 0 s k v < 1000000000000 := by
  constructor
  · intro h
    obtain ⟨x, hx⟩ := wk_re (pr' := prA 1 W) (ok' := okA 1 0 W) (fun _ _ => Or.inl (by decide)) (bT_wk h)
    have h1 := wk_bT hW hk hx
    have h2 := wk_bd (prA_bd hW) hx
    omega
  · intro h
    obtain ⟨x, hx⟩ := wk_re (pr' := prA 0 (fun _ => 1)) (ok' := okA 0 0 (fun _ => 1)) (fun _ _ => Or.inl (by decide)) (bT_wk h)
    have h1 := wk_bT one_bd hk hx
    have h2 := wk_bd (prA_bd one_bd) hx
    omega
theorem w1_val {k v : Nat} (h : bT m d F T (fun _ => 1) 0 0 s k v < 1000000000000) : bT m d F T (fun _ => 1) 0 0 s k v = (k : Int) := by
  have := wk_cst (bT_w0 h)
  omega
theorem us_1 {k e : Nat} {v : Int} (hW : ∀ e, e < m → -1000 ≤ W e ∧ W e ≤ 1000) (hk : k ≤ 1000000) : usA d F T (fun _ => 1) 0 0 (bT m d F T (fun _ => 1) 0 0 s k) v e ↔ usA d F T W 1 0 (bT m d F T W 1 0 s k) v e := ⟨fun h => ⟨h.1, Or.inl (by decide), (w1_fin hW hk).mp h.2.2⟩, fun h => ⟨h.1, Or.inl (by decide), (w1_fin hW hk).mpr h.2.2⟩⟩
theorem va_1 {k e v : Nat} (hk : k + 1 ≤ 1000000) (he : e < m) (hu : usA d F T (fun _ => 1) 0 0 (bT m d F T (fun _ => 1) 0 0 s k) (v : Int) e) : vaA d F T (fun _ => 1) 0 (bT m d F T (fun _ => 1) 0 0 s k) (v : Int) e = bT m d F T (fun _ => 1) 0 0 s (k + 1) v := by
  have h1 : bT m d F T (fun _ => 1) 0 0 s (k + 1) v ≤ vaA d F T (fun _ => 1) 0 (bT m d F T (fun _ => 1) 0 0 s k) (v : Int) e := mnS_le he hu
  have h2 : vaA d F T (fun _ => 1) 0 (bT m d F T (fun _ => 1) 0 0 s k) (v : Int) e = (k : Int) + 1 := by
    unfold vaA
    rw [w1_val hu.2.2, prA_0]
  have h3 := w1_val (m := m) (d := d) (F := F) (T := T) (s := s) (k := k + 1) (v := v) (by omega)
  omega
theorem va_2 {kind bd : Int} {k e v : Nat} (h0 : kind ≠ 0) (he : e < m) (hu : usA d F T W kind bd (bT m d F T W kind bd s k) (v : Int) e) : vaA d F T W kind (bT m d F T W kind bd s k) (v : Int) e = bT m d F T W kind bd s (k + 1) v := by
  have h1 : bT m d F T W kind bd s (k + 1) v ≤ vaA d F T W kind (bT m d F T W kind bd s k) (v : Int) e := mnS_le he hu
  have h2 : vaA d F T W kind (bT m d F T W kind bd s k) (v : Int) e = 0 := by
    have h3 := bT_k0 (m := m) (d := d) (F := F) (T := T) (W := W) (bd := bd) (s := s) h0 k (itV d F T e (v : Int)).toNat
    have h4 := hu.2.2
    unfold vaA prA
    rw [if_neg h0]
    omega
  have h3 := bT_k0 (m := m) (d := d) (F := F) (T := T) (W := W) (bd := bd) (s := s) h0 (k + 1) v
  omega
/-- where prices don't count a last arc is one that can be gone -/
theorem la_us {kind bd q : Int} {v e : Nat} (h0 : kind ≠ 0) (hq : 1 ≤ q) (he : e < m) : laB m d F T W kind bd s q (v : Int) e ↔ usA d F T W kind bd (bT m d F T W kind bd s (q - 1).toNat) (v : Int) e := by
  refine ⟨fun h => h.1, fun h => ⟨h, ?_⟩⟩
  have e1 : q.toNat = (q - 1).toNat + 1 := by omega
  rw [e1]
  exact va_2 h0 he h
theorem la_1 {q : Int} {v e : Nat} (hW : ∀ e, e < m → -1000 ≤ W e ∧ W e ≤ 1000) (hq : 1 ≤ q ∧ q ≤ 1000) (he : e < m) : laB m d F T (fun _ => 1) 0 0 s q (v : Int) e ↔ laB m d F T W 1 0 s q (v : Int) e := by
  have e1 : q.toNat = (q - 1).toNat + 1 := by omega
  rw [la_us (W := W) (kind := 1) (by decide) hq.1 he]
  constructor
  · intro h
    exact (us_1 hW (by omega)).mp h.1
  · intro h
    have hu := (us_1 (m := m) (d := d) (F := F) (T := T) (s := s) (k := (q - 1).toNat) (e := e) (v := (v : Int)) hW (by omega)).mpr h
    refine ⟨hu, ?_⟩
    rw [e1]
    exact va_1 (by omega) he hu
theorem tc_1 (hW : ∀ e, e < m → -1000 ≤ W e ∧ W e ≤ 1000) : ∀ {k v : Nat} {r : Nat → Int}, k ≤ 1000 → tcP m d F T (fun _ => 1) 0 0 s k (v : Int) r → tcP m d F T W 1 0 s k (v : Int) r := by
  intro k
  induction k with
  | zero => intro v r _ _; exact trivial
  | succ k ih =>
    intro v r hk h
    obtain ⟨a1, a2, a3, a4, a5⟩ := h
    have hi := a3.1.1
    refine ⟨a1, a2, (la_1 hW (by omega) a2).mp a3, fun e he h9 => a4 e he ((la_1 hW (by omega) (by omega)).mpr h9), ?_⟩
    rw [← Int.toNat_of_nonneg hi] at a5 ⊢
    exact ih (by omega) a5
theorem n_1 (hW : ∀ e, e < m → -1000 ≤ W e ∧ W e ≤ 1000) : ∀ (k : Nat), k ≤ 1000 → ∀ v : Nat, nT m d F T (fun _ => 1) 0 0 s k v = nT m d F T W 1 0 s k v := by
  intro k
  induction k with
  | zero => intro _ v; rfl
  | succ k ih =>
    intro hk v
    have e1 := ih (by omega)
    show suA (ctA d F T (fun _ => 1) 0 0 (bT m d F T (fun _ => 1) 0 0 s k) (nT m d F T (fun _ => 1) 0 0 s k) (v : Int) (bT m d F T (fun _ => 1) 0 0 s (k + 1) v)) m = suA (ctA d F T W 1 0 (bT m d F T W 1 0 s k) (nT m d F T W 1 0 s k) (v : Int) (bT m d F T W 1 0 s (k + 1) v)) m
    refine su_c (fun e he => ?_)
    by_cases hu : usA d F T (fun _ => 1) 0 0 (bT m d F T (fun _ => 1) 0 0 s k) (v : Int) e
    · have hu2 := (us_1 hW (by omega)).mp hu
      rw [ctA_y hu (va_1 (by omega) he hu), ctA_y hu2 (va_2 (by decide) he hu2)]
      exact e1 _
    · rw [ctA_n (fun h9 => hu h9.1), ctA_n (fun h9 => hu ((us_1 hW (by omega)).mpr h9.1))]
theorem fi_1 {v : Nat} {st lg : Int} {wr hm : Int64} {r : Nat → Int} (hW : ∀ e, e < m → -1000 ≤ W e ∧ W e ≤ 1000) (hn : n ≤ 16) (hs : s < n) (hF : ∀ k, k < m → (0 ≤ F k ∧ F k < (n : Int)) ∧ (0 ≤ T k ∧ T k < (n : Int))) (h : fiP m d F T (fun _ => 1) 0 0 s (n : Int) (v : Int) st wr lg hm r) : fiP m d F T W 1 0 s (n : Int) (v : Int) st wr lg hm r := by
  obtain ⟨k, k1, k2⟩ := h
  have hkn : k < (n : Int) := by
    rcases k1 with ⟨a, -⟩ | ⟨-, b, -⟩ <;> omega
  have hk1 : kbP (fun i => bT m d F T W 1 0 s i v) (n : Int) k := by
    rcases k1 with ⟨a, b⟩ | ⟨a, b, c, e⟩
    · exact Or.inl ⟨a, fun i hi h9 => b i hi ((w1_fin hW (by omega)).mpr h9)⟩
    · have c0 : bT m d F T (fun _ => 1) 0 0 s k.toNat v < 1000000000000 := c
      have c1 := (w1_fin hW (by omega)).mp c0
      have z := bT_k0 (m := m) (d := d) (F := F) (T := T) (W := W) (bd := 0) (s := s) (show (1 : Int) ≠ 0 by decide) k.toNat v
      refine Or.inr ⟨a, b, c1, fun i hi => ?_⟩
      have zi := bT_k0 (m := m) (d := d) (F := F) (T := T) (W := W) (bd := 0) (s := s) (show (1 : Int) ≠ 0 by decide) i v
      have ei : bT m d F T (fun _ => 1) 0 0 s k.toNat v ≤ bT m d F T (fun _ => 1) 0 0 s i v := (e i hi).1
      show bT m d F T W 1 0 s k.toNat v ≤ bT m d F T W 1 0 s i v ∧ (bT m d F T W 1 0 s i v = bT m d F T W 1 0 s k.toNat v → k ≤ (i : Int))
      refine ⟨by omega, fun h9 => ?_⟩
      have v1 := w1_val ((w1_fin hW (by omega)).mpr (show bT m d F T W 1 0 s i v < 1000000000000 by omega))
      have v2 := w1_val c0
      omega
  refine ⟨k, hk1, ?_⟩
  rcases k2 with g | ⟨g1, g2, g3⟩ | ⟨g1, g2, g3, g4, g5, g6, g7⟩
  · exact Or.inl g
  · obtain ⟨c, l, y, h1, h2, h3, h4, -⟩ := (ed_W one_bd hn hs hF).mp g2.2
    have := wk_cst h3
    omega
  · refine Or.inr (Or.inr ⟨g1, fun h9 => absurd h9.1 (by decide), g3, ?_, g5, g6.trans (n_1 hW _ (by omega) _), tc_1 hW (by omega) g7⟩)
    rw [if_neg (by decide), if_pos rfl]
    rw [if_pos rfl] at g4
    rcases k1 with ⟨a, -⟩ | ⟨a, -, c, -⟩
    · omega
    · have v2 : bT m d F T (fun _ => 1) 0 0 s k.toNat v = ((k.toNat : Nat) : Int) := w1_val c
      have g5 : wr.toInt = bT m d F T (fun _ => 1) 0 0 s k.toNat v := g4
      omega
end K1
def wE (each : Int) (W : Nat → Int) : Nat → Int := fun e => if each = 0 then W e else 1
theorem wE_b {m : Nat} {each : Int} {W : Nat → Int} (hW : ∀ e, e < m → -1000 ≤ W e ∧ W e ≤ 1000) : ∀ e, e < m → -1000 ≤ wE each W e ∧ wE each W e ≤ 1000 := fun e he => by
  have := hW e he
  unfold wE
  split <;> omega
theorem prI_wE {each : Int} {W By : Nat → Int} : ∀ k, prI each W By k = wE each W (By k).toNat := fun _ => rfl
theorem wy_low {m n s v : Nat} {d kind each : Int} {F T W : Nat → Int} {st lg : Int} {wr hm : Int64} {r : Nat → Int} (hk : (kind = 0 ∧ each = 0) ∨ (kind = 1 ∧ each = 1)) (hW : ∀ e, e < m → -1000 ≤ W e ∧ W e ≤ 1000) (hn : n ≤ 16) (hs : s < n) (hF : ∀ k, k < m → (0 ≤ F k ∧ F k < (n : Int)) ∧ (0 ≤ T k ∧ T k < (n : Int))) (h : fiP m d F T (wE each W) 0 0 s (n : Int) (v : Int) st wr lg hm r) : wyP m d F T W kind s (n : Int) v st wr lg hm r := by
  rcases hk with ⟨e1, e2⟩ | ⟨e1, e2⟩
  · subst e1 e2
    have e : wE 0 W = W := funext (fun e => if_pos rfl)
    rw [e] at h
    exact ⟨0, Or.inr ⟨by decide, rfl⟩, h⟩
  · subst e1 e2
    have e : wE 1 W = (fun _ => 1) := funext (fun e => if_neg (by decide))
    rw [e] at h
    exact ⟨0, Or.inr ⟨by decide, rfl⟩, fi_1 hW hn hs hF h⟩
section WD
variable {m q n s : Nat} {d : Int} {F T W Tl Hd By S S' : Nat → Int} {Wo Wo' : Nat → Int64} {pos : Nat → Nat}
theorem rcW_wk {w : Int} {v : Nat} (h : RC (stW m d F T W w) (fun y => y = s) v) : ∃ (j : Nat) (x : Int), WkF m d F T (fun _ => 0) (fun e => w ≤ W e) s j v x := by
  refine h (fun v => ∃ (j : Nat) (x : Int), WkF m d F T (fun _ => 0) (fun e => w ≤ W e) s j v x) (fun i hi => ?_) (fun i j hi hj => ?_)
  · show ∃ (j : Nat) (x : Int), WkF m d F T (fun _ => 0) (fun e => w ≤ W e) s j i x
    rw [hi]
    exact ⟨0, 0, wk_0⟩
  · obtain ⟨a, x, hw⟩ := hi
    obtain ⟨e, he, ho, hg⟩ := hj
    exact ⟨a + 1, _, wk_up hw he ho hg⟩
theorem wkW_rc {w : Int} {pr : Nat → Int} {ok : Nat → Prop} (ho : ∀ e, e < m → ok e → w ≤ W e) : ∀ {j v : Nat} {x : Int}, WkF m d F T pr ok s j v x → RC (stW m d F T W w) (fun y => y = s) v := by
  intro j
  induction j with
  | zero => intro v x h; exact RC_in (wk_z h).1
  | succ j ih =>
    intro v x h
    obtain ⟨e, u, he, h1, hg, hw⟩ := wk_dn h
    exact RC_st (ih hw) ⟨e, he, ho e he h1, hg⟩
theorem wk_sh0 {pr : Nat → Int} {ok : Nat → Prop} (hs : s < n) (hF : ∀ k, k < m → (0 ≤ F k ∧ F k < (n : Int)) ∧ (0 ≤ T k ∧ T k < (n : Int))) : ∀ (j : Nat) {v : Nat} {x : Int}, WkF m d F T pr ok s j v x → ∃ (j' : Nat) (x' : Int), j' < n ∧ WkF m d F T pr ok s j' v x' := by
  intro j
  induction j using Nat.strongRecOn with
  | _ j ih =>
    intro v x h
    by_cases hj : j < n
    · exact ⟨j, x, hj, h⟩
    · obtain ⟨c, l, a, y, l1, l2, l3, w1, w2, -, -⟩ := wk_cut h (by omega) hs hF
      exact ih (j - l) (by omega) w2
end WD
def wnW (m : Nat) (d : Int) (F T W : Nat → Int) (s n : Nat) (S : Nat → Int) (Wo : Nat → Int64) : Prop := ∀ i : Nat, i < n → (S i = 0 ∧ Wo i = 0 ∧ i ≠ s) ∨ (S i = 1 ∧ i = s ∧ (Wo i).toInt = 1001) ∨ (S i = 1 ∧ i ≠ s ∧ (-1000 ≤ (Wo i).toInt ∧ (Wo i).toInt ≤ 1000) ∧ RC (stW m d F T W (Wo i).toInt) (fun x => x = s) i)
def wnB (m : Nat) (d : Int) (F T W : Nat → Int) (s : Nat) (S : Nat → Int) (Wo : Nat → Int64) (r : Int) : Prop := ∀ (w : Int) (j v : Nat) (x : Int), w ≤ 1001 → (j : Int) ≤ r → WkF m d F T (fun _ => 0) (fun e => w ≤ W e) s j v x → S v ≠ 0 ∧ w ≤ (Wo v).toInt
def wnG (m : Nat) (d : Int) (F T W : Nat → Int) (s : Nat) (Tl Hd By S : Nat → Int) (Wo : Nat → Int64) (r k : Int) : Prop := ∀ (w : Int) (k' j : Nat) (x : Int), w ≤ 1001 → (k' : Int) < k → (j : Int) ≤ r → w ≤ W (By k').toNat → WkF m d F T (fun _ => 0) (fun e => w ≤ W e) s j (Tl k').toNat x → S (Hd k').toNat ≠ 0 ∧ w ≤ (Wo (Hd k').toNat).toInt
def wnL (Tl Hd By W S : Nat → Int) (Wo : Nat → Int64) (k : Nat) : Prop := S (Tl k).toNat ≠ 0 ∧ (S (Hd k).toNat = 0 ∨ ((Wo (Hd k).toNat).toInt < (Wo (Tl k).toNat).toInt ∧ (Wo (Hd k).toNat).toInt < W (By k).toNat))
def wnC (Tl Hd By W S : Nat → Int) (Wo : Nat → Int64) (c k : Int) : Prop := c = 0 → ∀ k' : Nat, (k' : Int) < k → ¬ wnL Tl Hd By W S Wo k'
section WN9
variable {m q n s : Nat} {d : Int} {F T W Tl Hd By S S' : Nat → Int} {Wo Wo' : Nat → Int64} {pos : Nat → Nat}
theorem wnW_0 {x : Int64} (hx : x.toInt = 1001) : wnW m d F T W s n (fup (fun _ => 0) s 1) (fuj (fun _ => 0) s x) := by
  intro i hi
  by_cases e : i = s
  · right; left
    rw [e, fup_s, fuj_s]
    exact ⟨rfl, rfl, hx⟩
  · left
    rw [fup_o _ _ e, fuj_o _ _ e]
    exact ⟨rfl, rfl, e⟩
theorem wnB_0 (h : S s ≠ 0) (h1 : (Wo s).toInt = 1001) : wnB m d F T W s S Wo 0 := by
  intro w j v x hw hj hk
  have ej : j = 0 := by omega
  subst ej
  rw [(wk_z hk).1, h1]
  exact ⟨h, hw⟩
theorem wnC_1 {k : Int} : wnC Tl Hd By W S Wo 1 k := fun h => absurd h (by decide)
theorem wnC_0 {c : Int} : wnC Tl Hd By W S Wo c 0 := fun _ k' hk => by omega
theorem wnC_n {c k : Int} (h : wnC Tl Hd By W S Wo c k) (h0 : 0 ≤ k) (hn : ¬ wnL Tl Hd By W S Wo k.toNat) : wnC Tl Hd By W S Wo c (k + 1) := by
  intro hc k' hk
  by_cases e : k' = k.toNat
  · rw [e]; exact hn
  · exact h hc k' (by omega)
theorem wnG_0 {r : Int} : wnG m d F T W s Tl Hd By S Wo r 0 := fun w k' j x _ hk => by omega
theorem wn_W {k : Nat} {x : Int64} (hgo : GoS m q d F T Tl Hd By pos) (hF : ∀ k, k < m → (0 ≤ F k ∧ F k < (n : Int)) ∧ (0 ≤ T k ∧ T k < (n : Int))) (hW : ∀ e, e < m → -1000 ≤ W e ∧ W e ≤ 1000) (h : wnW m d F T W s n S Wo) (hk : k < q) (hl : wnL Tl Hd By W S Wo k) (hx : x.toInt = (Wo (Tl k).toNat).toInt ∨ x.toInt = W (By k).toNat) (hx1 : x.toInt ≤ (Wo (Tl k).toNat).toInt ∧ x.toInt ≤ W (By k).toNat) : wnW m d F T W s n (fup S (Hd k).toNat 1) (fuj Wo (Hd k).toNat x) := by
  obtain ⟨e0, g1, g2, g3⟩ := go_goP hgo k hk
  have hb := hF e0 g1
  have hw0 := hW e0 g1
  have ht : 0 ≤ Tl k ∧ Tl k < (n : Int) ∧ 0 ≤ Hd k ∧ Hd k < (n : Int) := by rcases g3 with ⟨a, b⟩ | ⟨-, a, b⟩ <;> omega
  have e2 : (By k).toNat = e0 := by omega
  rw [e2] at hx hx1
  have hg4 : goP d F T e0 ((Tl k).toNat : Int) ((Hd k).toNat : Int) := by rw [Int.toNat_of_nonneg ht.1, Int.toNat_of_nonneg ht.2.2.1]; exact g3
  intro i hi
  by_cases e : i = (Hd k).toNat
  · have l2 := hl.2
    rw [e2] at l2
    right; right
    rw [e, fup_s, fuj_s]
    have hne : (Hd k).toNat ≠ s := fun h9 => by
      rw [h9] at l2
      rcases h s (by omega) with ⟨-, -, a⟩ | ⟨a1, -, a2⟩ | ⟨-, a, -⟩
      · exact a rfl
      · omega
      · exact a rfl
    have hr : -1000 ≤ (Wo (Tl k).toNat).toInt ∧ RC (stW m d F T W x.toInt) (fun y => y = s) (Tl k).toNat := by
      rcases h (Tl k).toNat (by omega) with ⟨a, -, -⟩ | ⟨-, a, a2⟩ | ⟨-, -, a, b⟩
      · exact absurd a hl.1
      · exact ⟨by omega, RC_in a⟩
      · exact ⟨a.1, RC_mono (fun i j ⟨k, q1, q2, q3⟩ => ⟨k, q1, by omega, q3⟩) (fun _ q => q) b⟩
    exact ⟨rfl, hne, by omega, RC_st hr.2 ⟨e0, g1, hx1.2, hg4⟩⟩
  · rw [fup_o _ _ e, fuj_o _ _ e]
    exact h i hi
theorem wn_y {r k : Int} {x : Int64} (hB : wnB m d F T W s S Wo r) (hG : wnG m d F T W s Tl Hd By S Wo r k) (h0 : 0 ≤ k) (hl : wnL Tl Hd By W S Wo k.toNat) (hx : x.toInt = (Wo (Tl k.toNat).toNat).toInt ∨ x.toInt = W (By k.toNat).toNat) : wnB m d F T W s (fup S (Hd k.toNat).toNat 1) (fuj Wo (Hd k.toNat).toNat x) r ∧ wnG m d F T W s Tl Hd By (fup S (Hd k.toNat).toNat 1) (fuj Wo (Hd k.toNat).toNat x) r (k + 1) := by
  have hd : ∀ v : Nat, S v ≠ 0 → fup S (Hd k.toNat).toNat 1 v ≠ 0 ∧ (Wo v).toInt ≤ (fuj Wo (Hd k.toNat).toNat x v).toInt := by
    intro v hv
    by_cases e : v = (Hd k.toNat).toNat
    · have l2 := hl.2
      rw [e] at hv ⊢
      rw [fup_s, fuj_s]
      exact ⟨by decide, by omega⟩
    · rw [fup_o _ _ e, fuj_o _ _ e]
      exact ⟨hv, Int.le_refl _⟩
  refine ⟨fun w j v y hw hj hk => ?_, fun w k' j y hw hk hj he hk' => ?_⟩
  · obtain ⟨h1, h2⟩ := hB w j v y hw hj hk
    obtain ⟨h3, h4⟩ := hd v h1
    exact ⟨h3, by omega⟩
  · by_cases e : k' = k.toNat
    · subst e
      obtain ⟨h1, h2⟩ := hB w j _ y hw hj hk'
      rw [fup_s, fuj_s]
      exact ⟨by decide, by omega⟩
    · obtain ⟨h1, h2⟩ := hG w k' j y hw (by omega) hj he hk'
      obtain ⟨h3, h4⟩ := hd _ h1
      exact ⟨h3, by omega⟩
theorem wn_n {r k : Int} (hB : wnB m d F T W s S Wo r) (hG : wnG m d F T W s Tl Hd By S Wo r k) (h0 : 0 ≤ k) (hl : ¬ wnL Tl Hd By W S Wo k.toNat) : wnG m d F T W s Tl Hd By S Wo r (k + 1) := by
  intro w k' j y hw hk hj he hk'
  by_cases e : k' = k.toNat
  · subst e
    obtain ⟨h1, h2⟩ := hB w j _ y hw hj hk'
    unfold wnL at hl
    omega
  · exact hG w k' j y hw (by omega) hj he hk'
theorem wn_rd {r k : Int} (hgo : GoS m q d F T Tl Hd By pos) (h0 : 0 ≤ r) (hB : wnB m d F T W s S Wo r) (hG : wnG m d F T W s Tl Hd By S Wo r k) (hk : k = (q : Int)) : wnB m d F T W s S Wo (r + 1) := by
  intro w j v x hw hj hk'
  match j, hj, hk' with
  | 0, hj, hk' => exact hB w 0 v x hw (by omega) hk'
  | j + 1, hj, hk' =>
    obtain ⟨e, u, he, ho, hg, hw'⟩ := wk_dn hk'
    obtain ⟨k', g1, g2, g3, g4⟩ := arc_go hgo he hg
    have e1 : (Tl k').toNat = u := by omega
    have e2 : (Hd k').toNat = v := by omega
    have e3 : (By k').toNat = e := by omega
    have h := hG w k' j _ hw (by omega) (by omega) (by rw [e3]; exact ho) (by rw [e1]; exact hw')
    rw [e2] at h
    exact h
theorem wn_no (hgo : GoS m q d F T Tl Hd By pos) (hB : wnB m d F T W s S Wo 0) (hC : ∀ k, k < q → ¬ wnL Tl Hd By W S Wo k) : ∀ (j v : Nat) (w x : Int), w ≤ 1001 → WkF m d F T (fun _ => 0) (fun e => w ≤ W e) s j v x → S v ≠ 0 ∧ w ≤ (Wo v).toInt := by
  intro j
  induction j with
  | zero => intro v w x hw h; exact hB w 0 v x hw (by omega) h
  | succ j ih =>
    intro v w x hw h
    obtain ⟨e, u, he, ho, hg, hw'⟩ := wk_dn h
    have ho' : w ≤ W e := ho
    obtain ⟨k', g1, g2, g3, g4⟩ := arc_go hgo he hg
    have e1 : (Tl k').toNat = u := by omega
    have e2 : (Hd k').toNat = v := by omega
    have e3 : (By k').toNat = e := by omega
    obtain ⟨h1, h2⟩ := ih u w _ hw hw'
    have h3 := hC k' g1
    unfold wnL at h3
    rw [e1, e2, e3] at h3
    omega
theorem wn_end {r c : Int} (hgo : GoS m q d F T Tl Hd By pos) (h0 : 0 ≤ r) (hB : wnB m d F T W s S Wo r) (hC : wnC Tl Hd By W S Wo c (q : Int)) (hr : (n : Int) ≤ r ∨ c = 0) : wnB m d F T W s S Wo (n : Int) := by
  rcases hr with h | h
  · intro w j v x hw hj hk
    exact hB w j v x hw (by omega) hk
  · intro w j v x hw _ hk
    exact wn_no hgo (fun w j v x hw hj hk => hB w j v x hw (by omega) hk) (fun k hk => hC h k (by omega)) j v w x hw hk
/-- how things stand when all is widened -/
def wfP (m : Nat) (d : Int) (F T W : Nat → Int) (s : Nat) (S : Nat → Int) (Wo : Nat → Int64) (v : Nat) : Prop := (v = s ∧ S v = 1 ∧ (Wo v).toInt = 1001) ∨ (v ≠ s ∧ S v = 1 ∧ (-1000 ≤ (Wo v).toInt ∧ (Wo v).toInt ≤ 1000) ∧ RC (stW m d F T W (Wo v).toInt) (fun x => x = s) v ∧ wdP m d F T W s v (Wo v).toInt) ∨ (v ≠ s ∧ S v = 0 ∧ Wo v = 0 ∧ wdP m d F T W s v (-5000))
theorem wf_end {v : Nat} (hs : s < n) (hF : ∀ k, k < m → (0 ≤ F k ∧ F k < (n : Int)) ∧ (0 ≤ T k ∧ T k < (n : Int))) (hW : wnW m d F T W s n S Wo) (hB : wnB m d F T W s S Wo (n : Int)) (hv : v < n) : wfP m d F T W s S Wo v := by
  have all : ∀ w, w ≤ 1000 → RC (stW m d F T W w) (fun y => y = s) v → S v ≠ 0 ∧ w ≤ (Wo v).toInt := by
    intro w hw h
    obtain ⟨j, x, hk⟩ := rcW_wk h
    obtain ⟨j', x', q1, q2⟩ := wk_sh0 hs hF j hk
    exact hB w j' v x' (by omega) (by omega) q2
  rcases hW v hv with ⟨a, b, c⟩ | ⟨a, b, c⟩ | ⟨a, b, c, e⟩
  · exact Or.inr (Or.inr ⟨c, a, b, Or.inr (Or.inr ⟨fun h => c h.symm, rfl, fun w _ h2 h3 => (all w h2 h3).1 a⟩)⟩)
  · exact Or.inl ⟨b, a, c⟩
  · exact Or.inr (Or.inl ⟨b, a, c, e, Or.inr (Or.inl ⟨fun h => b h.symm, c.1, c.2, e, fun w h1 h2 h3 => by have := (all w h2 h3).2; omega⟩)⟩)
end WN9
/-- levels and numbers of ways over arcs that are wide enough -/
def cwP (m : Nat) (d : Int) (F T W : Nat → Int) (bd : Int) (s n : Nat) (Lv : Nat → Int) (Su : Nat → Int64) (r : Int) : Prop := ∀ u : Nat, u < n → (Lv u = -1 ∧ Su u = 0 ∧ ∀ i : Nat, (i : Int) ≤ r → ¬ bT m d F T W 2 bd s i u < 1000000000000) ∨ ((0 ≤ Lv u ∧ Lv u ≤ r) ∧ bT m d F T W 2 bd s (Lv u).toNat u < 1000000000000 ∧ (∀ i : Nat, (i : Int) < Lv u → ¬ bT m d F T W 2 bd s i u < 1000000000000) ∧ Su u = nT m d F T W 2 bd s (Lv u).toNat u)
def cwQ (Tl Hd By W : Nat → Int) (bd : Int) (L0 : Nat → Int) (r : Int) (u k : Nat) : Prop := Hd k = (u : Int) ∧ L0 (Tl k).toNat = r ∧ bd ≤ W (By k).toNat
def cgP (n : Nat) (Tl Hd By W : Nat → Int) (bd : Int) (L0 : Nat → Int) (U0 : Nat → Int64) (Lv : Nat → Int) (Su : Nat → Int64) (r k : Int) : Prop := ∀ u : Nat, u < n → (0 ≤ L0 u → Lv u = L0 u ∧ Su u = U0 u) ∧ (L0 u < 0 → Su u = U0 u + tsG (cwQ Tl Hd By W bd L0 r u) (fun i => U0 (Tl i).toNat) k.toNat ∧ ((Lv u = L0 u ∧ ∀ k' : Nat, (k' : Int) < k → ¬ cwQ Tl Hd By W bd L0 r u k') ∨ (Lv u = r + 1 ∧ ∃ k' : Nat, (k' : Int) < k ∧ cwQ Tl Hd By W bd L0 r u k')))
theorem tsG_z {Q : Nat → Prop} {c : Nat → Int64} : ∀ {k : Nat}, (∀ i, i < k → ¬ Q i) → tsG Q c k = 0 := by
  intro k
  induction k with
  | zero => intro _; rfl
  | succ k ih => intro h; rw [tsG_n (h k (by omega)), ih (fun i hi => h i (by omega))]
section CW
variable {m q n s : Nat} {d bd : Int} {F T W Tl Hd By L0 Lv : Nat → Int} {U0 Su : Nat → Int64} {pos : Nat → Nat}
theorem us_f {kind : Int} {k e v : Nat} (h0 : kind ≠ 0) (he : e < m) (hu : usA d F T W kind bd (bT m d F T W kind bd s k) (v : Int) e) : bT m d F T W kind bd s (k + 1) v < 1000000000000 := by
  have h1 := va_2 h0 he hu
  have h3 := bT_k0 (m := m) (d := d) (F := F) (T := T) (W := W) (bd := bd) (s := s) h0 k (itV d F T e (v : Int)).toNat
  have h4 := hu.2.2
  unfold vaA prA at h1
  rw [if_neg h0] at h1
  omega
theorem cw_0 : cwP m d F T W bd s n (fup (fun _ => -1) s 0) (fuj (fun _ => 0) s 1) 0 := by
  intro u hu
  by_cases e : u = s
  · right
    rw [e, fup_s, fuj_s]
    refine ⟨by omega, ?_, fun i hi => by omega, (if_pos rfl).symm⟩
    show (if s = s then (0 : Int) else 1000000000000) < 1000000000000
    rw [if_pos rfl]; decide
  · left
    rw [fup_o _ _ e, fuj_o _ _ e]
    refine ⟨rfl, rfl, fun i hi => ?_⟩
    have ei : i = 0 := by omega
    subst ei
    show ¬ (if u = s then (0 : Int) else 1000000000000) < 1000000000000
    rw [if_neg e]; decide
/-- a going is last on a best way: told by levels, told by the tables -/
theorem cw_la {r q9 : Int} {u k : Nat} (hgo : GoS m q d F T Tl Hd By pos) (hF : ∀ k, k < m → (0 ≤ F k ∧ F k < (n : Int)) ∧ (0 ≤ T k ∧ T k < (n : Int))) (hc : cwP m d F T W bd s n L0 U0 r) (hq : 1 ≤ q9 ∧ q9 ≤ r + 1) (hn : ∀ i : Nat, (i : Int) < q9 → ¬ bT m d F T W 2 bd s i u < 1000000000000) (hk : k < q) (hh : Hd k = (u : Int)) : cwQ Tl Hd By W bd L0 (q9 - 1) u k ↔ laB m d F T W 2 bd s q9 (u : Int) (By k).toNat := by
  obtain ⟨e0, g1, g2, g3⟩ := go_goP hgo k hk
  have hb := hF e0 g1
  have ht : 0 ≤ Tl k ∧ Tl k < (n : Int) := by rcases g3 with ⟨a, b⟩ | ⟨-, a, b⟩ <;> omega
  have e2 : (By k).toNat = e0 := by omega
  have hi : itV d F T e0 (u : Int) = Tl k := go_itV (by rw [← hh]; exact g3)
  unfold cwQ
  rw [e2, la_us (by decide) hq.1 g1]
  constructor
  · rintro ⟨-, h1, h2⟩
    refine ⟨by rw [hi]; exact ht.1, Or.inr h2, ?_⟩
    rw [hi]
    rcases hc (Tl k).toNat (by omega) with ⟨a, -, -⟩ | ⟨-, b, -, -⟩
    · omega
    · rw [h1] at b; exact b
  · rintro ⟨-, h2, h3⟩
    rw [hi] at h3
    have hw : bd ≤ W e0 := by
      rcases h2 with g | g
      · exact absurd rfl g
      · exact g
    refine ⟨hh, ?_, hw⟩
    rcases hc (Tl k).toNat (by omega) with ⟨-, -, a⟩ | ⟨a, b, c, -⟩
    · exact absurd h3 (a _ (by omega))
    · refine Classical.byContradiction (fun hne => ?_)
      by_cases hlt : L0 (Tl k).toNat < q9 - 1
      · have hf := us_f (m := m) (d := d) (F := F) (T := T) (W := W) (bd := bd) (s := s) (k := (L0 (Tl k).toNat).toNat) (v := u) (show (2 : Int) ≠ 0 by decide) g1 ⟨by rw [hi]; exact ht.1, Or.inr hw, by rw [hi]; exact b⟩
        exact hn _ (by omega) hf
      · exact c _ (by omega) h3
theorem cg_0 {r : Int} : cgP n Tl Hd By W bd L0 U0 L0 U0 r 0 := fun u _ => ⟨fun _ => ⟨rfl, rfl⟩, fun _ => ⟨(i64_o _).symm, Or.inl ⟨rfl, fun k' hk => by omega⟩⟩⟩
theorem cg_n {r k : Int} (hq : cgP n Tl Hd By W bd L0 U0 Lv Su r k) (h0 : 0 ≤ k) (hr : 0 ≤ r) (ha : (Tl k.toNat).toNat < n) (hn : ¬ (Lv (Tl k.toNat).toNat = r ∧ bd ≤ W (By k.toNat).toNat)) : cgP n Tl Hd By W bd L0 U0 Lv Su r (k + 1) := by
  have hnq : ∀ u, ¬ cwQ Tl Hd By W bd L0 r u k.toNat := by
    rintro u ⟨-, h1, h2⟩
    obtain ⟨a, -⟩ := hq (Tl k.toNat).toNat ha
    exact hn ⟨by rw [(a (by omega)).1]; exact h1, h2⟩
  intro u hu
  obtain ⟨a, b⟩ := hq u hu
  refine ⟨a, fun h => ?_⟩
  obtain ⟨b1, b2⟩ := b h
  refine ⟨by rw [tn1 h0, tsG_n (hnq u)]; exact b1, ?_⟩
  rcases b2 with ⟨c1, c2⟩ | ⟨c1, k', c2, c3⟩
  · refine Or.inl ⟨c1, fun k' hk => ?_⟩
    by_cases e : k' = k.toNat
    · rw [e]; exact hnq u
    · exact c2 k' (by omega)
  · exact Or.inr ⟨c1, k', by omega, c3⟩
theorem cg_y {r k z : Int} {y : Int64} {b : Nat} (hc : cwP m d F T W bd s n L0 U0 r) (hq : cgP n Tl Hd By W bd L0 U0 Lv Su r k) (h0 : 0 ≤ k) (hr : 0 ≤ r) (ha : (Tl k.toNat).toNat < n) (hb : Hd k.toNat = (b : Int)) (h1 : Lv (Tl k.toNat).toNat = r) (h2 : bd ≤ W (By k.toNat).toNat) (hz : (Lv b < 0 ∧ z = r + 1) ∨ (0 ≤ Lv b ∧ z = Lv b)) (hy : (z = r + 1 ∧ y = Su (Tl k.toNat).toNat) ∨ (z ≠ r + 1 ∧ y = 0)) : cgP n Tl Hd By W bd L0 U0 (fup Lv b z) (fuj Su b (Su b + y)) r (k + 1) := by
  have hla : L0 (Tl k.toNat).toNat = r ∧ Su (Tl k.toNat).toNat = U0 (Tl k.toNat).toNat := by
    obtain ⟨a1, a2⟩ := hq (Tl k.toNat).toNat ha
    by_cases h : 0 ≤ L0 (Tl k.toNat).toNat
    · obtain ⟨c1, c2⟩ := a1 h
      exact ⟨by omega, c2⟩
    · obtain ⟨-, c2⟩ := a2 (by omega)
      rcases c2 with ⟨c3, -⟩ | ⟨c3, -⟩ <;> omega
  intro u hu
  obtain ⟨a1, a2⟩ := hq u hu
  by_cases e : u = b
  · subst e
    rw [fup_s, fuj_s]
    have hQ : cwQ Tl Hd By W bd L0 r u k.toNat := ⟨hb, hla.1, h2⟩
    refine ⟨fun h => ?_, fun h => ?_⟩
    · obtain ⟨c1, c2⟩ := a1 h
      rcases hc u hu with ⟨g, -⟩ | ⟨g, -⟩
      · omega
      · have ey : y = 0 := by
          rcases hy with ⟨y1, -⟩ | ⟨-, y2⟩
          · omega
          · exact y2
        rw [ey, i64_o]
        exact ⟨by omega, c2⟩
    · obtain ⟨b1, b2⟩ := a2 h
      have ez : z = r + 1 := by
        rcases b2 with ⟨c1, -⟩ | ⟨c1, -⟩ <;> omega
      have ey : y = Su (Tl k.toNat).toNat := by
        rcases hy with ⟨-, y2⟩ | ⟨y1, -⟩
        · exact y2
        · exact absurd ez y1
      refine ⟨?_, Or.inr ⟨ez, k.toNat, by omega, hQ⟩⟩
      rw [tn1 h0, tsG_y hQ, b1, ey, hla.2, Int64.add_assoc]
  · have hnq : ¬ cwQ Tl Hd By W bd L0 r u k.toNat := fun h => by have := h.1; omega
    rw [fup_o _ _ e, fuj_o _ _ e]
    refine ⟨a1, fun h => ?_⟩
    obtain ⟨b1, b2⟩ := a2 h
    refine ⟨by rw [tn1 h0, tsG_n hnq]; exact b1, ?_⟩
    rcases b2 with ⟨c1, c2⟩ | ⟨c1, k', c2, c3⟩
    · refine Or.inl ⟨c1, fun k' hk => ?_⟩
      by_cases e : k' = k.toNat
      · rw [e]; exact hnq
      · exact c2 k' (by omega)
    · exact Or.inr ⟨c1, k', by omega, c3⟩
theorem cw_rd {r k : Int} (hgo : GoS m q d F T Tl Hd By pos) (hF : ∀ k, k < m → (0 ≤ F k ∧ F k < (n : Int)) ∧ (0 ≤ T k ∧ T k < (n : Int))) (hr : 0 ≤ r) (hc : cwP m d F T W bd s n L0 U0 r) (hg : cgP n Tl Hd By W bd L0 U0 Lv Su r k) (hk : k = (q : Int)) : cwP m d F T W bd s n Lv Su (r + 1) := by
  have er : r + 1 - 1 = r := by omega
  have er2 : (r + 1).toNat = r.toNat + 1 := by omega
  have ek : k.toNat = q := by omega
  intro u hu
  obtain ⟨a1, a2⟩ := hg u hu
  rcases hc u hu with ⟨g1, g2, g3⟩ | ⟨g1, g2, g3, g4⟩
  · obtain ⟨b1, b2⟩ := a2 (by omega)
    rw [g2, i64_z, ek] at b1
    have hn : ∀ i : Nat, (i : Int) < r + 1 → ¬ bT m d F T W 2 bd s i u < 1000000000000 := fun i hi => g3 i (by omega)
    have hQ2 : ∀ k, k < q → Hd k = (u : Int) → (cwQ Tl Hd By W bd L0 r u k ↔ laB m d F T W 2 bd s (r + 1) (u : Int) (By k).toNat) := fun k hk hh => by
      have h9 := cw_la hgo hF hc (q9 := r + 1) (by omega) hn hk hh
      rw [er] at h9
      exact h9
    rcases b2 with ⟨c1, c2⟩ | ⟨c1, k', c2, c3⟩
    · left
      refine ⟨by omega, by rw [b1]; exact tsG_z (fun i hi => c2 i (by omega)), fun i hi h9 => ?_⟩
      by_cases e : (i : Int) ≤ r
      · exact g3 i e h9
      · have ei : i = (r + 1).toNat := by omega
        rw [ei] at h9
        obtain ⟨e, q1, q2⟩ := laB_ex (m := m) (d := d) (F := F) (T := T) (W := W) (kind := 2) (bd := bd) (s := s) (q := r + 1) (v := (u : Int)) (by omega) (by omega) h9
        obtain ⟨k', p1, p2, p3, p4⟩ := arc_go hgo q1 (itV_go q2.1.1)
        have e3 : (By k').toNat = e := by omega
        exact c2 k' (by omega) ((hQ2 k' p1 p4).mpr (by rw [e3]; exact q2))
    · right
      obtain ⟨e0, p1, p2, p3⟩ := go_goP hgo k' (by omega)
      have e2 : (By k').toNat = e0 := by omega
      have hla := (hQ2 k' (by omega) c3.1).mp c3
      rw [e2] at hla
      have hu9 := hla.1
      rw [er] at hu9
      have hf := us_f (show (2 : Int) ≠ 0 by decide) p1 hu9
      rw [c1]
      refine ⟨by omega, by rw [er2]; exact hf, hn, ?_⟩
      rw [b1, er2]
      show _ = suA (ctA d F T W 2 bd (bT m d F T W 2 bd s r.toNat) (nT m d F T W 2 bd s r.toNat) (u : Int) (bT m d F T W 2 bd s (r.toNat + 1) u)) m
      refine ts_su (L := laB m d F T W 2 bd s (r + 1) (u : Int)) (N := nT m d F T W 2 bd s r.toNat) hgo (fun k hk hne hb => hne hb.1) hQ2 (fun k hk hb => ?_) (fun e he => he.1.1) (fun e => ?_)
      · obtain ⟨x0, x1, x2, x3⟩ := go_goP hgo k hk
        have hb2 := hF x0 x1
        have hT : 0 ≤ Tl k ∧ Tl k < (n : Int) := by rcases x3 with ⟨a, b⟩ | ⟨-, a, b⟩ <;> omega
        have hb3 := hb.2.1
        rcases hc (Tl k).toNat (by omega) with ⟨a, -, -⟩ | ⟨-, -, -, a⟩
        · omega
        · rw [hb3] at a; exact a
      · by_cases hla : laB m d F T W 2 bd s (r + 1) (u : Int) e
        · rw [if_pos hla]
          have h1 := hla.1
          rw [er] at h1
          have h2 := hla.2
          rw [er, er2] at h2
          exact ctA_y h1 h2
        · rw [if_neg hla]
          refine ctA_n (fun h9 => hla ⟨by rw [er]; exact h9.1, by rw [er, er2]; exact h9.2⟩)
  · obtain ⟨c1, c2⟩ := a1 (by omega)
    right
    rw [c1, c2]
    exact ⟨by omega, g2, g3, g4⟩
/-- going back: the first going that fits -/
def fbQ (Tl Hd By W : Nat → Int) (bd : Int) (Lv : Nat → Int) (u : Nat) (pl la k : Int) : Prop := (la = -1 ∧ ∀ i : Nat, (i : Int) < k → ¬ cwQ Tl Hd By W bd Lv pl u i) ∨ ((0 ≤ la ∧ la < k) ∧ cwQ Tl Hd By W bd Lv pl u la.toNat ∧ ∀ i : Nat, (i : Int) < la → ¬ cwQ Tl Hd By W bd Lv pl u i)
theorem fbq_0 {u : Nat} {pl : Int} : fbQ Tl Hd By W bd Lv u pl (-1) 0 := Or.inl ⟨rfl, fun i hi => by omega⟩
theorem fbq_n {u : Nat} {pl la k : Int} (h : fbQ Tl Hd By W bd Lv u pl la k) (hl : la < 0) (h0 : 0 ≤ k) (hn : ¬ cwQ Tl Hd By W bd Lv pl u k.toNat) : fbQ Tl Hd By W bd Lv u pl la (k + 1) := by
  rcases h with ⟨a, b⟩ | ⟨a, -⟩
  · refine Or.inl ⟨a, fun i hi => ?_⟩
    by_cases e : i = k.toNat
    · rw [e]; exact hn
    · exact b i (by omega)
  · omega
theorem fbq_y {u : Nat} {pl la k : Int} (h : fbQ Tl Hd By W bd Lv u pl la k) (hl : la < 0) (h0 : 0 ≤ k) (hy : cwQ Tl Hd By W bd Lv pl u k.toNat) : fbQ Tl Hd By W bd Lv u pl k (k + 1) := by
  rcases h with ⟨a, b⟩ | ⟨a, -⟩
  · exact Or.inr ⟨by omega, hy, fun i hi => b i hi⟩
  · omega
theorem fbq_end {u : Nat} {pl la k r : Int} (hgo : GoS m q d F T Tl Hd By pos) (hF : ∀ k, k < m → (0 ≤ F k ∧ F k < (n : Int)) ∧ (0 ≤ T k ∧ T k < (n : Int))) (hc : cwP m d F T W bd s n Lv Su r) (hu : u < n) (hpl : 0 ≤ pl) (hL : Lv u = pl + 1) (h : fbQ Tl Hd By W bd Lv u pl la k) (hk : k ≤ (q : Int)) (he : (q : Int) ≤ k ∨ 0 ≤ la) : (0 ≤ la ∧ la < (q : Int)) ∧ (0 ≤ By la.toNat ∧ (By la.toNat).toNat < m) ∧ laB m d F T W 2 bd s (pl + 1) (u : Int) (By la.toNat).toNat ∧ (∀ e' : Nat, (e' : Int) < By la.toNat → ¬ laB m d F T W 2 bd s (pl + 1) (u : Int) e') ∧ Tl la.toNat = itV d F T (By la.toNat).toNat (u : Int) ∧ (0 ≤ Tl la.toNat ∧ Tl la.toNat < (n : Int)) ∧ Lv (Tl la.toNat).toNat = pl := by
  have ep : pl + 1 - 1 = pl := by omega
  rcases hc u hu with ⟨a, -⟩ | ⟨a1, a2, a3, -⟩
  · omega
  · rw [hL] at a2 a3
    have hQ : ∀ k, k < q → Hd k = (u : Int) → (cwQ Tl Hd By W bd Lv pl u k ↔ laB m d F T W 2 bd s (pl + 1) (u : Int) (By k).toNat) := fun k hk hh => by
      have h9 := cw_la hgo hF hc (q9 := pl + 1) (by omega) a3 hk hh
      rw [ep] at h9
      exact h9
    rcases h with ⟨b1, b2⟩ | ⟨b1, b2, b3⟩
    · obtain ⟨e, q1, q2⟩ := laB_ex (m := m) (d := d) (F := F) (T := T) (W := W) (kind := 2) (bd := bd) (s := s) (q := pl + 1) (v := (u : Int)) (by omega) (by omega) a2
      obtain ⟨k', p1, p2, p3, p4⟩ := arc_go hgo q1 (itV_go q2.1.1)
      have e3 : (By k').toNat = e := by omega
      exact absurd ((hQ k' p1 p4).mpr (by rw [e3]; exact q2)) (b2 k' (by omega))
    · have hlq : la.toNat < q := by omega
      obtain ⟨e0, g1, g2, g3⟩ := go_goP hgo la.toNat hlq
      have hb := hF e0 g1
      have ht : 0 ≤ Tl la.toNat ∧ Tl la.toNat < (n : Int) := by rcases g3 with ⟨a, b⟩ | ⟨-, a, b⟩ <;> omega
      have e2 : (By la.toNat).toNat = e0 := by omega
      refine ⟨by omega, by omega, (hQ _ hlq b2.1).mp b2, fun e' he' hla => ?_, ?_, ht, b2.2.1⟩
      · obtain ⟨k', p1, p2, p3, p4⟩ := arc_go hgo (show e' < m by omega) (itV_go hla.1.1)
        have e3 : (By k').toNat = e' := by omega
        have hlt := by_mo hgo hlq p1 (by omega)
        exact b3 k' (by omega) ((hQ k' p1 p4).mpr (by rw [e3]; exact hla))
      · rw [e2]
        exact (go_itV (by rw [← b2.1]; exact g3)).symm
/-- a node that can be reached has its level -/
theorem cw_lv {r : Int} {v : Nat} (hs : s < n) (hF : ∀ k, k < m → (0 ≤ F k ∧ F k < (n : Int)) ∧ (0 ≤ T k ∧ T k < (n : Int))) (hW : ∀ e, e < m → -1000 ≤ W e ∧ W e ≤ 1000) (hn : n ≤ 16) (hc : cwP m d F T W bd s n Lv Su r) (hv : v < n) (hr : RC (stW m d F T W bd) (fun x => x = s) v) (he : (n : Int) - 1 ≤ r ∨ 0 ≤ Lv v) : 0 ≤ Lv v ∧ Lv v < (n : Int) := by
  obtain ⟨j, x, hk⟩ := rcW_wk hr
  obtain ⟨j', x', q1, q2⟩ := wk_sh0 hs hF j hk
  obtain ⟨x2, hx2⟩ := wk_re (pr' := prA 2 W) (ok' := okA 2 bd W) (fun _ h => Or.inr h) q2
  have h1 := wk_bT hW (by omega) hx2
  have h2 := wk_bd (prA_bd hW) hx2
  have h3 : bT m d F T W 2 bd s j' v < 1000000000000 := by omega
  rcases hc v hv with ⟨a, -, b⟩ | ⟨a, -, b, -⟩
  · rcases he with g | g
    · exact absurd h3 (b j' (by omega))
    · omega
  · refine ⟨a.1, Classical.byContradiction (fun h9 => ?_)⟩
    exact b j' (by omega) h3
theorem fi_w {v : Nat} {r : Int} {Wo : Int64} {R : Nat → Int} (hv : v < n) (hc : cwP m d F T W bd s n Lv Su r) (hL : 0 ≤ Lv v ∧ Lv v < (n : Int)) (hw : Wo.toInt = bd) (ht : tcP m d F T W 2 bd s (Lv v).toNat (v : Int) R) : fiP m d F T W 2 bd s (n : Int) (v : Int) 1 Wo (Lv v) (Su v) R := by
  rcases hc v hv with ⟨a, -⟩ | ⟨a, b, c, e⟩
  · omega
  · have z := bT_k0 (m := m) (d := d) (F := F) (T := T) (W := W) (bd := bd) (s := s) (show (2 : Int) ≠ 0 by decide) (Lv v).toNat v
    refine ⟨Lv v, Or.inr ⟨hL.1, hL.2, b, fun i hi => ?_⟩, Or.inr (Or.inr ⟨hL.1, fun h9 => absurd h9.1 (by decide), rfl, ?_, rfl, e, ht⟩)⟩
    · have zi := bT_k0 (m := m) (d := d) (F := F) (T := T) (W := W) (bd := bd) (s := s) (show (2 : Int) ≠ 0 by decide) i v
      show bT m d F T W 2 bd s (Lv v).toNat v ≤ bT m d F T W 2 bd s i v ∧ (bT m d F T W 2 bd s i v = bT m d F T W 2 bd s (Lv v).toNat v → Lv v ≤ (i : Int))
      refine ⟨by omega, fun h9 => Classical.byContradiction (fun h8 => ?_)⟩
      exact c i (by omega) (by omega)
    · rw [if_neg (by decide), if_neg (by decide)]; exact hw
theorem fi_ws {Wo : Int64} {R : Nat → Int} (hs : s < n) (hw : Wo.toInt = 1001) : wyP m d F T W 2 s (n : Int) s 1 Wo 0 1 R := by
  refine ⟨1001, Or.inl ⟨rfl, Or.inl ⟨rfl, rfl⟩⟩, 0, Or.inr ⟨by omega, by omega, ?_, fun i hi => ?_⟩, Or.inr (Or.inr ⟨by omega, fun h9 => absurd h9.1 (by decide), rfl, ?_, rfl, (if_pos rfl).symm, trivial⟩)⟩
  · show (if s = s then (0 : Int) else 1000000000000) < 1000000000000
    rw [if_pos rfl]; decide
  · have zi := bT_k0 (m := m) (d := d) (F := F) (T := T) (W := W) (bd := 1001) (s := s) (show (2 : Int) ≠ 0 by decide) i s
    have z0 : bT m d F T W 2 1001 s 0 s = 0 := if_pos rfl
    show bT m d F T W 2 1001 s 0 s ≤ bT m d F T W 2 1001 s i s ∧ (bT m d F T W 2 1001 s i s = bT m d F T W 2 1001 s 0 s → (0 : Int) ≤ (i : Int))
    exact ⟨by omega, fun _ => by omega⟩
  · rw [if_neg (by decide), if_neg (by decide)]; exact hw
theorem fi_wn {v : Nat} {R : Nat → Int} (hW : ∀ e, e < m → -1000 ≤ W e ∧ W e ≤ 1000) (hvs : v ≠ s) (h : wdP m d F T W s v (-5000)) : wyP m d F T W 2 s (n : Int) v 0 0 (-1) 0 R := by
  refine ⟨-5000, Or.inl ⟨rfl, h⟩, -1, Or.inl ⟨rfl, fun i hi h9 => ?_⟩, Or.inl ⟨by decide, rfl, rfl, rfl, rfl⟩⟩
  have hr : RC (stW m d F T W (-1000)) (fun y => y = s) v := wkW_rc (fun e he _ => (hW e he).1) (bT_wk h9)
  rcases h with ⟨a, -⟩ | ⟨-, b, -⟩ | ⟨-, -, c⟩
  · exact hvs a.symm
  · omega
  · exact c (-1000) (by decide) (by decide) hr
end CW
/-- wide ways up to node v -/
def twR (m : Nat) (d : Int) (F T W : Nat → Int) (s n : Nat) (S : Nat → Int) (Wo : Nat → Int64) (Lf : Nat → Int) (Mn : Nat → Int64) (R : Nat → Int) (v : Int) : Prop := ∀ w : Nat, w < n → ((w : Int) < v → wyP m d F T W 2 s (n : Int) w (S w) (Wo w) (Lf w) (Mn w) (fun i => R (w * n + i))) ∧ (v ≤ (w : Int) → Lf w = (if w = s then 0 else -1) ∧ Mn w = (if w = s then 1 else 0))
theorem wnC_le {Tl Hd By W S : Nat → Int} {Wo : Nat → Int64} {c k K : Int} (h : wnC Tl Hd By W S Wo c k) (hk : K ≤ k) : wnC Tl Hd By W S Wo c K := fun hc k' h9 => h hc k' (by omega)
section TYW
variable {G : MG} {M : MM} {d pc : Nat} {lv : List (Nat × Value)} {st : List Value} {hp : MH} {n kr wr : Nat} {Po : Option Value → MH → Nat → Prop}
theorem t_copyIX {Γ : TG} {ix t0 a0 a L0 L : Nat} {c0 : ClassId} {sp dp x : Int} {f g : Nat → Int} (ht : Tw Γ hp) (h0 : rd Γ a0 (xI c0 L0 f)) (hΓ : rd Γ a (xI c0 L g)) (F : lkA G M.1.cls ix) (hd : decode M.2.1 pc = .ok (.invokestatic ix, 3)) (hty : (g_ty G)[t0]? = some (c0, .int)) (hL : L0 ≤ 2147483647 ∧ L ≤ 2147483647) (hx : 0 ≤ x ∧ 0 ≤ sp ∧ 0 ≤ dp ∧ sp + x ≤ (L0 : Int) ∧ dp + x ≤ (L : Int)) (hst : (st.map fun v => v.category).sum ≤ 8) (kk : ∀ hp1 : MH, Tw (ov Γ a (xI c0 L (cpI f g sp.toNat dp.toNat x.toNat))) hp1 → Rn G M d (pc + 3) lv st hp1 n kr wr Po) : Rn G M d pc lv (.int (iv x) :: .int (iv dp) :: .ref a :: .int (iv sp) :: .ref a0 :: st) hp n kr wr Po := by
  obtain ⟨e, h1, f', rfl, h2⟩ := rd_at ht h0
  obtain ⟨e', h3, g', rfl, h4⟩ := rd_at ht hΓ
  have nn : ∀ z : Int, 0 ≤ z ∧ z ≤ 2147483647 → iv z = nI z.toNat := fun z hz => by rw [nI_iv]; congr 1; omega
  refine w_copyi (s0 := sp.toNat) (d0 := dp.toNat) (N := x.toNat) (g' := va_cpy f' g' sp.toNat dp.toNat x.toNat) F hd hty hty h1 h3 (nn _ (by omega)) (nn _ (by omega)) (nn _ (by omega)) (by omega) (by omega) (by omega) (by omega) hst rfl (fun hp1 h5 h6 => kk hp1 (ht.up h5 ⟨_, rfl, fun i hj => ?_⟩ h6))
  show (va_cpy f' g' sp.toNat dp.toNat x.toNat i).toInt = cpI f g sp.toNat dp.toNat x.toNat i
  unfold va_cpy cpI
  split
  · exact h2 _ (by omega)
  · exact h4 i hj
end TYW
theorem li_le {n q : Nat} {s : Int} {Tl Hd p S : Nat → Int} {Wo : Nat → Int64} {Lf : Nat → Int} {B : Int} {i : Nat} (h : liP n q s Tl Hd p S Wo Lf B) (hi : i < n) (hS : S i ≠ 0) : Lf i ≤ B := by
  rcases h i hi with ⟨a, -⟩ | ⟨-, -, a, -⟩
  · exact absurd a hS
  · exact a
theorem lmin_i {x y : Int64} : (if y < x then y else x).toInt ≤ x.toInt ∧ (if y < x then y else x).toInt ≤ y.toInt ∧ ((if y < x then y else x).toInt = x.toInt ∨ (if y < x then y else x).toInt = y.toInt) := by
  by_cases h : y < x
  · rw [if_pos h]
    have := Int64.lt_iff_toInt_lt.mp h
    omega
  · rw [if_neg h]
    have h9 : ¬ y.toInt < x.toInt := fun h9 => h (Int64.lt_iff_toInt_lt.mpr h9)
    omega
/-- rows of other nodes stay -/
def rwO (n : Nat) (R0 R : Nat → Int) (v : Nat) : Prop := ∀ w i : Nat, w ≠ v → i < n → R (w * n + i) = R0 (w * n + i)
theorem rwO_0 {n v : Nat} {R : Nat → Int} : rwO n R R v := fun _ _ _ _ => rfl
theorem rwO_up {n : Nat} {R0 R : Nat → Int} {v i e : Int} {ix : Nat} (h : rwO n R0 R v.toNat) (hv : 0 ≤ v) (hi : 0 ≤ i ∧ i < (n : Int)) (hix : ix = Int.toNat (v * (n : Int) + i)) : rwO n R0 (fup R ix e) v.toNat := by
  intro w j hw hj
  rw [hix, idx_e hv hi.1, fup_o _ _ (row_ne hw hj (by omega))]
  exact h w j hw hj
theorem tcc_up {m n : Nat} {d : Int} {F T W : Nat → Int} {kind bd : Int} {s : Nat} {k v u w pl x e : Int} {R : Nat → Int} {ix : Nat} (h : tcC m d F T W kind bd s k v (pl + 1) u (fun i => R (x.toNat * n + i))) (hp : 0 ≤ pl ∧ pl < k) (hx : 0 ≤ x) (he : 0 ≤ e ∧ e.toNat < m) (hl : laB m d F T W kind bd s (pl + 1) u e.toNat) (hn : ∀ e' : Nat, (e' : Int) < e → ¬ laB m d F T W kind bd s (pl + 1) u e') (hix : ix = Int.toNat (x * (n : Int) + pl)) (hw : w = itV d F T e.toNat u) : tcC m d F T W kind bd s k v (pl - 1 + 1) w (fun i => fup R ix e (x.toNat * n + i)) := by
  have h1 : pl + 1 - 1 = pl - 1 + 1 := by omega
  have h2 := tcc_st (r2 := fun i => fup R ix e (x.toNat * n + i)) h (by omega) he hl hn (by
    show fup R ix e (x.toNat * n + (pl + 1 - 1).toNat) = e
    rw [hix, idx_e hx hp.1, show (pl + 1 - 1).toNat = pl.toNat by omega]
    exact fup_s _ _ _) (fun i a b => by
    show fup R ix e (x.toNat * n + i) = R (x.toNat * n + i)
    rw [hix, idx_e hx hp.1]
    exact fup_o _ _ (by omega)) hw
  rw [h1] at h2
  exact h2
section TW9
variable {m n s : Nat} {d : Int} {F T W S Lf R R' : Nat → Int} {Wo Mn : Nat → Int64} {v L1 : Int} {M1 : Int64}
theorem wy_r {kind : Int} {u : Nat} {st lg : Int} {wr hm : Int64} {r r' : Nat → Int} (h : wyP m d F T W kind s (n : Int) u st wr lg hm r) (hr : ∀ i : Nat, (i : Int) < (n : Int) → r i = r' i) : wyP m d F T W kind s (n : Int) u st wr lg hm r' := by
  obtain ⟨bd, h1, h2⟩ := h
  exact ⟨bd, h1, fi_r h2 hr⟩
theorem tw_0 (hL : ∀ w, Lf w = if w = s then 0 else -1) (hM : ∀ w, Mn w = if w = s then 1 else 0) : twR m d F T W s n S Wo Lf Mn R 0 := fun w _ => ⟨fun h => by omega, fun _ => ⟨hL w, hM w⟩⟩
theorem tw_y (h : twR m d F T W s n S Wo Lf Mn R v) (h0 : 0 ≤ v) (hy : wyP m d F T W 2 s (n : Int) v.toNat (S v.toNat) (Wo v.toNat) L1 M1 (fun i => R' (v.toNat * n + i))) (hR : rwO n R R' v.toNat) : twR m d F T W s n S Wo (fup Lf v.toNat L1) (fuj Mn v.toNat M1) R' (v + 1) := by
  intro w hw
  obtain ⟨h1, h2⟩ := h w hw
  by_cases e : w = v.toNat
  · subst e
    rw [fup_s, fuj_s]
    exact ⟨fun _ => hy, fun h9 => by omega⟩
  · rw [fup_o _ _ e, fuj_o _ _ e]
    exact ⟨fun h9 => wy_r (h1 (by omega)) (fun i hi => (hR w i e (by omega)).symm), fun h9 => h2 (by omega)⟩
theorem tw_n (h : twR m d F T W s n S Wo Lf Mn R v) (h0 : 0 ≤ v) (hy : v < (n : Int) → wyP m d F T W 2 s (n : Int) v.toNat (S v.toNat) (Wo v.toNat) (Lf v.toNat) (Mn v.toNat) (fun i => R (v.toNat * n + i))) : twR m d F T W s n S Wo Lf Mn R (v + 1) := by
  intro w hw
  obtain ⟨h1, h2⟩ := h w hw
  by_cases e : w = v.toNat
  · subst e
    exact ⟨fun _ => hy (by omega), fun h9 => by omega⟩
  · exact ⟨fun h9 => h1 (by omega), fun h9 => h2 (by omega)⟩
theorem tw_s (hs : s < n) (h : twR m d F T W s n S Wo Lf Mn R v) (h0 : 0 ≤ v) (hv : v = (s : Int)) (hf : wfP m d F T W s S Wo s) : twR m d F T W s n S Wo Lf Mn R (v + 1) := by
  have ev : v.toNat = s := by omega
  obtain ⟨h1, h2⟩ := (h s hs).2 (by omega)
  rw [if_pos rfl] at h1 h2
  refine tw_n h h0 (fun _ => ?_)
  rw [ev, h1, h2]
  rcases hf with ⟨-, a, b⟩ | ⟨a, -⟩ | ⟨a, -⟩
  · rw [a]; exact fi_ws hs b
  · exact absurd rfl a
  · exact absurd rfl a
theorem tw_u (hW : ∀ e, e < m → -1000 ≤ W e ∧ W e ≤ 1000) (h : twR m d F T W s n S Wo Lf Mn R v) (h0 : 0 ≤ v ∧ v < (n : Int)) (hv : v ≠ (s : Int)) (hS : S v.toNat ≠ 1) (hf : wfP m d F T W s S Wo v.toNat) : twR m d F T W s n S Wo Lf Mn R (v + 1) := by
  have ev : v.toNat ≠ s := by omega
  obtain ⟨h1, h2⟩ := (h v.toNat (by omega)).2 (by omega)
  rw [if_neg ev] at h1 h2
  refine tw_n h h0.1 (fun _ => ?_)
  rw [h1, h2]
  rcases hf with ⟨a, -⟩ | ⟨-, a, -⟩ | ⟨a, b, c, e⟩
  · exact absurd a ev
  · exact absurd a hS
  · rw [b, c]; exact fi_wn hW a e
end TW9
theorem cw_00 {m n s : Nat} {d bd R : Int} {F T W : Nat → Int} (hR : R = 0) : cwP m d F T W bd s n (fup (fun _ => -1) s 0) (fuj (fun _ => 0) s 1) R := by
  subst hR
  exact cw_0
theorem cw_rd2 {m q n s : Nat} {d bd : Int} {F T W Tl Hd By L0 Lv : Nat → Int} {U0 Su : Nat → Int64} {pos : Nat → Nat} {r k R : Int} (hgo : GoS m q d F T Tl Hd By pos) (hF : ∀ k, k < m → (0 ≤ F k ∧ F k < (n : Int)) ∧ (0 ≤ T k ∧ T k < (n : Int))) (hr : 0 ≤ r) (hc : cwP m d F T W bd s n L0 U0 r) (hg : cgP n Tl Hd By W bd L0 U0 Lv Su r k) (hk : k = (q : Int)) (hR : R = r + 1) : cwP m d F T W bd s n Lv Su R := by
  subst hR
  exact cw_rd hgo hF hr hc hg hk
theorem tcc_00 {m : Nat} {d : Int} {F T W : Nat → Int} {kind bd : Int} {s : Nat} {k v q : Int} {r : Nat → Int} (hq : q = k) : tcC m d F T W kind bd s k v q v r := by
  subst hq
  exact tcc_0
theorem wf_1 {m s v : Nat} {d : Int} {F T W S : Nat → Int} {Wo : Nat → Int64} (h : wfP m d F T W s S Wo v) (hv : v ≠ s) (hS : S v = 1) : (-1000 ≤ (Wo v).toInt ∧ (Wo v).toInt ≤ 1000) ∧ RC (stW m d F T W (Wo v).toInt) (fun x => x = s) v ∧ wdP m d F T W s v (Wo v).toInt := by
  rcases h with ⟨a, -⟩ | ⟨-, -, a, b, c⟩ | ⟨-, a, -⟩
  · exact absurd a hv
  · exact ⟨a, b, c⟩
  · omega
theorem tw_f {m n s : Nat} {d : Int} {F T W S Lf R R' Lv : Nat → Int} {Wo Mn Su : Nat → Int64} {v r : Int} (h : twR m d F T W s n S Wo Lf Mn R v) (h0 : 0 ≤ v ∧ v < (n : Int)) (hv : v ≠ (s : Int)) (hS : S v.toNat = 1) (hf : wfP m d F T W s S Wo v.toNat) (hc : cwP m d F T W (Wo v.toNat).toInt s n Lv Su r) (hL : 0 ≤ Lv v.toNat ∧ Lv v.toNat < (n : Int)) (ht : tcP m d F T W 2 (Wo v.toNat).toInt s (Lv v.toNat).toNat v (fun i => R' (v.toNat * n + i))) (hR : rwO n R R' v.toNat) : twR m d F T W s n S Wo (fup Lf v.toNat (Lv v.toNat)) (fuj Mn v.toNat (Su v.toNat)) R' (v + 1) := by
  have hvs : v.toNat ≠ s := by omega
  obtain ⟨-, -, w3⟩ := wf_1 hf hvs hS
  rw [← Int.toNat_of_nonneg h0.1] at ht
  have ht2 : tcP m d F T W 2 (Wo v.toNat).toInt s (Lv v.toNat).toNat ((v.toNat : Nat) : Int) (fun i => R' (v.toNat * n + i)) := ht
  refine tw_y h h0.1 ?_ hR
  rw [hS]
  exact ⟨(Wo v.toNat).toInt, Or.inl ⟨rfl, w3⟩, fi_w (by omega) hc hL rfl ht2⟩
/-- what ways hold, told by their cells -/
def pWx (Γ : TG) (cI cJ cZ : ClassId) (wa gn gm : Nat) (gdr : Int) (F T W : Nat → Int) (kind : Int) (s n : Nat) : Option Value → MH → Nat → Prop := fun r hp1 n1 => n ≤ n1 ∧ r = none ∧ ∃ (Γ1 : TG) (vs vl vr : Nat → Int) (vo vm : Nat → Int64), Ext Γ Γ1 ∧ Tw Γ1 hp1 ∧ TyW Γ1 cI cJ cZ wa gn ∧ rd Γ1 (wa + 1) (xI cI gn vs) ∧ rd Γ1 (wa + 2) (xJ cJ gn vo) ∧ rd Γ1 (wa + 3) (xI cI gn vl) ∧ rd Γ1 (wa + 4) (xJ cJ gn vm) ∧ rd Γ1 (wa + 5) (xI cI (gn * gn) vr) ∧ ∀ v, v < gn → wyP gm gdr F T W kind s (gn : Int) v (vs v) (vo v) (vl v) (vm v) (fun i => vr (v * gn + i))
theorem tw_end {m n s : Nat} {d : Int} {F T W S Lf R : Nat → Int} {Wo Mn : Nat → Int64} {v : Int} (h : twR m d F T W s n S Wo Lf Mn R v) (hv : (n : Int) ≤ v) : ∀ v, v < n → wyP m d F T W 2 s (n : Int) v (S v) (Wo v) (Lf v) (Mn v) (fun i => R (v * n + i)) := fun w hw => (h w hw).1 (by omega)
theorem lwB_00 {m s : Nat} {d R : Int} {F T Wt S Lf : Nat → Int} {Wo : Nat → Int64} (hR : R = 0) (h : S s ≠ 0) (h1 : Wo s = 0) (h2 : Lf s = 0) : lwB m d F T Wt s S Wo Lf R := by
  subst hR
  exact lwB_0 h h1 h2
theorem lf_rs {m n s : Nat} {d : Int} {F T Wt S Lf : Nat → Int} {Wo : Nat → Int64} (h : ∀ v, v < n → lwF m d F T Wt s n S Wo Lf v) : Rfx n 0 2 S := by
  intro i hi
  rcases h i hi with ⟨a, -⟩ | ⟨a, -⟩ | ⟨a, -⟩ <;> omega

