/-- the table from a row and its column on -/
def blk (tb : Nat → Int64) (k : Nat) : Nat → Nat → Int := fun a b => (tb (16 * (k + a) + (k + b))).toInt
/-- entries lie below the prime -/
def tbR (tb : Nat → Int64) (n : Nat) : Prop := ∀ i j, i < n → j < n → 0 ≤ (tb (16 * i + j)).toInt ∧ (tb (16 * i + j)).toInt < 1000000007
/-- multiples of the first row are taken from the others -/
theorem dt_els {n : Nat} {M : Nat → Nat → Int} {f : Nat → Int} (hn : 0 < n) : dtm n (fun i j => if i = 0 then M 0 j else M i j - f i * M 0 j) = dtm n M := by
  have key : ∀ k, k ≤ n → dtm n (fun i j => if 0 < i ∧ i < k then M i j - f i * M 0 j else M i j) = dtm n M := by
    intro k
    induction k with
    | zero => intro _; exact dt_cg (fun i j _ _ => if_neg (fun q => absurd q.2 (Nat.not_lt_zero i)))
    | succ k ih =>
      intro hk
      rw [← ih (by omega)]
      by_cases e : k = 0
      · exact dt_cg (fun i j _ _ => by
          show (if 0 < i ∧ i < k + 1 then M i j - f i * M 0 j else M i j) = (if 0 < i ∧ i < k then M i j - f i * M 0 j else M i j)
          rw [if_neg (show ¬ (0 < i ∧ i < k + 1) by omega), if_neg (show ¬ (0 < i ∧ i < k) by omega)])
      · rw [← dt_ad (n := n) (A := fun i j => if 0 < i ∧ i < k then M i j - f i * M 0 j else M i j) (q := k) (r := 0) (c := - f k) (by omega) hn e]
        exact dt_cg (fun i j hi hj => by
          show (if 0 < i ∧ i < k + 1 then M i j - f i * M 0 j else M i j) = rpl (fun i j => if 0 < i ∧ i < k then M i j - f i * M 0 j else M i j) k (fun j => (if 0 < k ∧ k < k then M k j - f k * M 0 j else M k j) + - f k * (if 0 < 0 ∧ 0 < k then M 0 j - f 0 * M 0 j else M 0 j)) i j
          by_cases e1 : i = k
          · rw [e1, rpl_s, if_pos (show 0 < k ∧ k < k + 1 by omega), if_neg (show ¬ (0 < k ∧ k < k) by omega), if_neg (show ¬ (0 < 0 ∧ 0 < k) by omega), Int.neg_mul]; omega
          · rw [rpl_o e1]
            by_cases e2 : 0 < i ∧ i < k
            · rw [if_pos e2, if_pos (show 0 < i ∧ i < k + 1 by omega)]
            · rw [if_neg e2, if_neg (show ¬ (0 < i ∧ i < k + 1) by omega)])
  rw [← key n (Nat.le_refl n)]
  exact dt_cg (fun i j hi _ => by
    show (if i = 0 then M 0 j else M i j - f i * M 0 j) = (if 0 < i ∧ i < n then M i j - f i * M 0 j else M i j)
    by_cases e : i = 0
    · rw [if_pos e, if_neg (show ¬ (0 < i ∧ i < n) by omega), e]
    · rw [if_neg e, if_pos (show 0 < i ∧ i < n by omega)])
/-- the rows between k and r are cleared -/
def elI (tb0 tb : Nat → Int64) (k n r : Nat) : Prop := (∃ f : Nat → Int, ∀ i c, k < i → i < r → i < n → k ≤ c → c < n → (tb (16 * i + c)).toInt % 1000000007 = ((tb0 (16 * i + c)).toInt - f i * (tb0 (16 * k + c)).toInt) % 1000000007) ∧ (∀ i, k < i → i < r → i < n → (tb (16 * i + k)).toInt = 0) ∧ (∀ i c, i < n → c < n → (i ≤ k ∨ r ≤ i) → tb (16 * i + c) = tb0 (16 * i + c)) ∧ tbR tb n
theorem el_0 {tb : Nat → Int64} {k n : Nat} (h : tbR tb n) : elI tb tb k n (k + 1) := ⟨⟨fun _ => 0, fun i c h1 h2 => by omega⟩, fun i h1 h2 => by omega, fun _ _ _ _ _ => rfl, h⟩
/-- within a row: the columns from k to c are done -/
def eiI (tb tb1 : Nat → Int64) (k n r : Nat) (fc : Int) (c : Nat) : Prop := (∀ x, k ≤ x → x < c → x < n → (tb1 (16 * r + x)).toInt % 1000000007 = ((tb (16 * r + x)).toInt - fc * (tb (16 * k + x)).toInt) % 1000000007) ∧ (∀ i x, i < n → x < n → ¬ (i = r ∧ k ≤ x ∧ x < c) → tb1 (16 * i + x) = tb (16 * i + x)) ∧ tbR tb1 n
theorem ei_0 {tb : Nat → Int64} {k n r : Nat} {fc : Int} (h : tbR tb n) : eiI tb tb k n r fc k := ⟨fun x h1 h2 => by omega, fun _ _ _ _ _ => rfl, h⟩
theorem ei_st {tb tb1 : Nat → Int64} {k n r c a : Nat} {fc ls : Int} {w : Int64} (h : eiI tb tb1 k n r fc c) (hn : n ≤ 16) (hkr : k < r) (hr : r < n) (hc : k ≤ c ∧ c < n) (ha : a = 16 * r + c) (hls : ls = fc * (tb1 (16 * k + c)).toInt % 1000000007) (hw : w.toInt = ((tb1 a).toInt + 1000000007 - ls) % 1000000007) : eiI tb (fuj tb1 a w) k n r fc (c + 1) := by
  subst ha
  have hwb : 0 ≤ w.toInt ∧ w.toInt < 1000000007 := by rw [hw]; exact ⟨Int.emod_nonneg _ (by decide), Int.emod_lt_of_pos _ (by decide)⟩
  have ek : tb1 (16 * k + c) = tb (16 * k + c) := h.2.1 k c (by omega) hc.2 (by omega)
  have er : tb1 (16 * r + c) = tb (16 * r + c) := h.2.1 r c hr hc.2 (by omega)
  have hne : ∀ i x, i < n → x < n → ¬ (i = r ∧ x = c) → fuj tb1 (16 * r + c) w (16 * i + x) = tb1 (16 * i + x) := fun i x hi hx q => if_neg (by omega)
  refine ⟨fun x h1 h2 h3 => ?_, fun i x hi hx q => ?_, fun i x hi hx => ?_⟩
  · by_cases e : x = c
    · rw [e, show fuj tb1 (16 * r + c) w (16 * r + c) = w from if_pos rfl, hw, hls, er, ek, Int.emod_emod_of_dvd _ (Int.dvd_refl _)]
      generalize fc * (tb (16 * k + c)).toInt = z
      omega
    · rw [hne r x hr h3 (by omega)]; exact h.1 x h1 (by omega) h3
  · rw [hne i x hi hx (by omega)]; exact h.2.1 i x hi hx (by omega)
  · by_cases e : i = r ∧ x = c
    · rw [e.1, e.2, show fuj tb1 (16 * r + c) w (16 * r + c) = w from if_pos rfl]; exact hwb
    · rw [hne i x hi hx e]; exact h.2.2 i x hi hx
theorem md_inv {t h v fc : Int} (hi : (h * v) % 1000000007 = 1) (hf : fc = t * v % 1000000007) : (t - fc * h) % 1000000007 = 0 := by
  have e1 : (fc * h) % 1000000007 = (t * (h * v)) % 1000000007 := by
    rw [hf, Int.mul_emod, Int.emod_emod_of_dvd _ (Int.dvd_refl _), ← Int.mul_emod, Int.mul_assoc, Int.mul_comm v h]
  have e2 : (t * (h * v)) % 1000000007 = t % 1000000007 := by
    rw [Int.mul_emod, hi, Int.mul_one, Int.emod_emod_of_dvd _ (Int.dvd_refl _)]
  rw [e2] at e1
  generalize fc * h = z at e1 ⊢
  omega
theorem el_st {tb0 tb tb1 : Nat → Int64} {k n r c : Nat} {fc v : Int} (h : elI tb0 tb k n r) (hkr : k < r) (hr : r < n) (he : eiI tb tb1 k n r fc c) (hc : n ≤ c ∨ fc = 0) (hi : ((tb0 (16 * k + k)).toInt * v) % 1000000007 = 1) (hf : fc = (tb (16 * r + k)).toInt * v % 1000000007) : elI tb0 tb1 k n (r + 1) := by
  obtain ⟨⟨f, f1⟩, f2, f3, f4⟩ := h
  have hrow : ∀ x, k ≤ x → x < n → (tb1 (16 * r + x)).toInt % 1000000007 = ((tb (16 * r + x)).toInt - fc * (tb (16 * k + x)).toInt) % 1000000007 := fun x h1 h2 => by
    by_cases e : x < c
    · exact he.1 x h1 e h2
    · have h0 := hc.resolve_left (by omega)
      rw [he.2.1 r x hr h2 (by omega), h0, Int.zero_mul, Int.sub_zero]
  have hoth : ∀ i x, i < n → x < n → i ≠ r → tb1 (16 * i + x) = tb (16 * i + x) := fun i x h1 h2 h3 => he.2.1 i x h1 h2 (by omega)
  have ekk : ∀ x, x < n → tb (16 * k + x) = tb0 (16 * k + x) := fun x hx => f3 k x (by omega) hx (Or.inl (Nat.le_refl k))
  have err : ∀ x, x < n → tb (16 * r + x) = tb0 (16 * r + x) := fun x hx => f3 r x hr hx (Or.inr (Nat.le_refl r))
  refine ⟨⟨fup f r fc, fun i x h1 h2 h3 h4 h5 => ?_⟩, fun i h1 h2 h3 => ?_, fun i x h1 h2 h3 => ?_, he.2.2⟩
  · by_cases e : i = r
    · rw [e, show fup f r fc r = fc from if_pos rfl, hrow x h4 h5, ekk x h5, err x h5]
    · rw [hoth i x h3 h5 e, show fup f r fc i = f i from if_neg e]; exact f1 i x h1 (by omega) h3 h4 h5
  · by_cases e : i = r
    · have q1 := hrow k (Nat.le_refl k) (by omega)
      rw [ekk k (by omega), md_inv hi hf] at q1
      have q2 := he.2.2 r k hr (by omega)
      rw [e]; omega
    · rw [hoth i k h3 (by omega) e]; exact f2 i h1 (by omega) h3
  · rw [hoth i x h1 h2 (by omega)]; exact f3 i x h1 h2 (by omega)
theorem el_dt {tb0 tb : Nat → Int64} {k n r : Nat} (h : elI tb0 tb k n r) (hk : k < n) (hr : n ≤ r) : dtm (n - k) (blk tb0 k) % 1000000007 = ((tb0 (16 * k + k)).toInt * dtm (n - (k + 1)) (blk tb (k + 1))) % 1000000007 := by
  obtain ⟨⟨f, f1⟩, f2, f3, f4⟩ := h
  have e0 : tb (16 * k + k) = tb0 (16 * k + k) := f3 k k hk hk (Or.inl (Nat.le_refl k))
  rw [← dt_els (n := n - k) (M := blk tb0 k) (f := fun i => f (k + i)) (by omega)]
  have e1 : dtm (n - k) (fun i j => if i = 0 then blk tb0 k 0 j else blk tb0 k i j - f (k + i) * blk tb0 k 0 j) % 1000000007 = dtm (n - k) (blk tb k) % 1000000007 := dt_md (fun i j hi hj => by
    show (if i = 0 then blk tb0 k 0 j else blk tb0 k i j - f (k + i) * blk tb0 k 0 j) % 1000000007 = (tb (16 * (k + i) + (k + j))).toInt % 1000000007
    by_cases e : i = 0
    · rw [if_pos e, e]
      show (tb0 (16 * (k + 0) + (k + j))).toInt % 1000000007 = _
      rw [f3 (k + 0) (k + j) (by omega) (by omega) (Or.inl (by omega))]
    · rw [if_neg e, f1 (k + i) (k + j) (by omega) (by omega) (by omega) (by omega) (by omega)]
      rfl)
  rw [e1, show n - k = (n - (k + 1)) + 1 by omega, dt_c0 (fun i h1 h2 => by
    show (tb (16 * (k + i) + (k + 0))).toInt = 0
    exact f2 (k + i) (by omega) (by omega) (by omega))]
  rw [show blk tb k 0 0 = (tb0 (16 * k + k)).toInt from congrArg Int64.toInt e0]
  rw [dt_cg (A := fun a b => blk tb k (a + 1) (b + 1)) (B := blk tb (k + 1)) (fun a b _ _ => by
    show (tb (16 * (k + (a + 1)) + (k + (b + 1)))).toInt = (tb (16 * (k + 1 + a) + (k + 1 + b))).toInt
    rw [show 16 * (k + (a + 1)) + (k + (b + 1)) = 16 * (k + 1 + a) + (k + 1 + b) by omega])]
/-- two rows are being exchanged -/
def xcI (tb tb1 : Nat → Int64) (n a b c : Nat) : Prop := ∀ i x, i < n → x < n → tb1 (16 * i + x) = if x < c then (if i = a then tb (16 * b + x) else if i = b then tb (16 * a + x) else tb (16 * i + x)) else tb (16 * i + x)
theorem ex_0 {tb : Nat → Int64} {n a b : Nat} : xcI tb tb n a b 0 := fun i x _ _ => (if_neg (Nat.not_lt_zero x)).symm
theorem exi_up {tb tb1 : Nat → Int64} {n a b c p q : Nat} (h : xcI tb tb1 n a b c) (hn : n ≤ 16) (ha : a < n) (hb : b < n) (hne : a ≠ b) (hc : c < n) (hp : p = 16 * a + c) (hq : q = 16 * b + c) : xcI tb (fuj (fuj tb1 p (tb1 q)) q (tb1 p)) n a b (c + 1) := fun i x hi hx => by
  subst hp hq
  show (if 16 * i + x = 16 * b + c then tb1 (16 * a + c) else if 16 * i + x = 16 * a + c then tb1 (16 * b + c) else tb1 (16 * i + x)) = _
  have ha0 : tb1 (16 * a + c) = tb (16 * a + c) := by rw [h a c ha hc, if_neg (Nat.lt_irrefl c)]
  have hb0 : tb1 (16 * b + c) = tb (16 * b + c) := by rw [h b c hb hc, if_neg (Nat.lt_irrefl c)]
  rw [ha0, hb0]
  by_cases e : x = c
  · rw [if_pos (show x < c + 1 by omega)]
    by_cases e1 : i = b
    · rw [if_pos (by omega), if_neg (by omega), if_pos e1, e]
    · rw [if_neg (by omega)]
      by_cases e2 : i = a
      · rw [if_pos (by omega), if_pos e2, e]
      · rw [if_neg (by omega), if_neg e2, if_neg e1, h i x hi hx, if_neg (by omega)]
  · rw [if_neg (by omega), if_neg (by omega), h i x hi hx]
    by_cases e3 : x < c
    · rw [if_pos e3, if_pos (show x < c + 1 by omega)]
    · rw [if_neg e3, if_neg (show ¬ x < c + 1 by omega)]
theorem ex_dt {tb tb1 : Nat → Int64} {n k row c : Nat} (h : xcI tb tb1 n row k c) (hc : n ≤ c) (hk : k < row) (hr : row < n) : dtm (n - k) (blk tb1 k) = - dtm (n - k) (blk tb k) := by
  rw [← dt_ex (n := n - k) (A := blk tb k) (a := 0) (b := row - k) (by omega) (by omega) (by omega)]
  refine dt_cg (fun i j hi hj => ?_)
  show (tb1 (16 * (k + i) + (k + j))).toInt = _
  rw [h (k + i) (k + j) (by omega) (by omega), if_pos (by omega)]
  by_cases e : i = row - k
  · rw [e, rpl_s, if_pos (by omega)]
    show (tb (16 * k + (k + j))).toInt = (tb (16 * (k + 0) + (k + j))).toInt
    rfl
  · rw [rpl_o e, if_neg (by omega)]
    by_cases e1 : i = 0
    · rw [e1, rpl_s, if_pos (by omega)]
      show (tb (16 * row + (k + j))).toInt = (tb (16 * (k + (row - k)) + (k + j))).toInt
      rw [show k + (row - k) = row by omega]
    · rw [rpl_o e1, if_neg (by omega)]; rfl
theorem ex_R {tb tb1 : Nat → Int64} {n a b c : Nat} (h : xcI tb tb1 n a b c) (ha : a < n) (hb : b < n) (hR : tbR tb n) : tbR tb1 n := fun i x hi hx => by
  rw [h i x hi hx]
  split
  · split
    · exact hR b x hb hx
    · split
      · exact hR a x ha hx
      · exact hR i x hi hx
  · exact hR i x hi hx
/-- looking for a row that has something in column k -/
def pvI (tb : Nat → Int64) (k n : Nat) (row r : Int) : Prop := ((k : Int) ≤ row ∧ row < (n : Int)) ∧ ((k : Int) ≤ r ∧ r ≤ (n : Int)) ∧ (r = (k : Int) → row = (k : Int)) ∧ ((k : Int) < r → row = r - 1) ∧ ∀ i : Nat, k ≤ i → (i : Int) < row → (tb (16 * i + k)).toInt = 0
theorem pv_0 {tb : Nat → Int64} {k n : Nat} (hk : k < n) : pvI tb k n (k : Int) (k : Int) := ⟨by omega, by omega, fun _ => rfl, fun h => by omega, fun i h1 h2 => by omega⟩
theorem pv_st {tb : Nat → Int64} {k n : Nat} {row r : Int} (h : pvI tb k n row r) (hr : r < (n : Int)) (hz : (tb (16 * row.toNat + k)).toInt = 0) : pvI tb k n r (r + 1) := by
  obtain ⟨h1, h2, h3, h4, h5⟩ := h
  refine ⟨by omega, by omega, fun _ => by omega, fun _ => by omega, fun i i1 i2 => ?_⟩
  by_cases e : (i : Int) < row
  · exact h5 i i1 e
  · by_cases g : (k : Int) < r
    · have := h4 g
      rw [show i = row.toNat by omega]; exact hz
    · omega
theorem pv_no {tb : Nat → Int64} {k n : Nat} {row r : Int} (h : pvI tb k n row r) (hr : (n : Int) ≤ r) (hz : (tb (16 * row.toNat + k)).toInt = 0) (hk : k < n) : dtm (n - k) (blk tb k) = 0 := by
  obtain ⟨h1, h2, h3, h4, h5⟩ := h
  rw [show n - k = (n - (k + 1)) + 1 by omega]
  refine dt_00 (fun i hi => ?_)
  show (tb (16 * (k + i) + (k + 0))).toInt = 0
  by_cases g : (k : Int) < r
  · have := h4 g
    by_cases e : ((k + i : Nat) : Int) < row
    · exact h5 (k + i) (by omega) e
    · rw [show k + i = row.toNat by omega]; exact hz
  · omega
/-- the product so far, and the table that is left -/
def tpI (D : Int) (tb : Nat → Int64) (n : Nat) (pd : Int) (k : Nat) : Prop := (0 ≤ pd ∧ pd < 1000000007) ∧ tbR tb n ∧ k ≤ n ∧ D % 1000000007 = (pd * dtm (n - k) (blk tb k)) % 1000000007
theorem tp_up {D : Int} {tb tb1 : Nat → Int64} {n k : Nat} {pd v pd1 : Int} (h : tpI D tb n pd k) (hk : k < n) (hR : tbR tb1 n) (hv : dtm (n - k) (blk tb k) % 1000000007 = (v * dtm (n - (k + 1)) (blk tb1 (k + 1))) % 1000000007) (hp : pd1 = pd * v % 1000000007) : tpI D tb1 n pd1 (k + 1) := by
  refine ⟨by rw [hp]; exact ⟨Int.emod_nonneg _ (by decide), Int.emod_lt_of_pos _ (by decide)⟩, hR, by omega, ?_⟩
  rw [h.2.2.2, Int.mul_emod, hv, ← Int.mul_emod, hp, ← Int.mul_assoc, Int.mul_emod (pd * v % 1000000007), Int.emod_emod_of_dvd _ (Int.dvd_refl _), ← Int.mul_emod]
theorem tp_e {D : Int} {tb : Nat → Int64} {n k : Nat} {pd : Int} (h : tpI D tb n pd k) (he : n ≤ k ∨ pd = 0) : pd = D % 1000000007 := by
  obtain ⟨h1, h2, h3, h4⟩ := h
  rcases he with e | e
  · rw [h4, show n - k = 0 by omega]
    show pd = (pd * 1) % 1000000007
    rw [Int.mul_one]
    exact (Int.emod_eq_of_lt h1.1 h1.2).symm
  · rw [h4, e, Int.zero_mul]; rfl
/-- what an arc adds to an entry -/
def cfF (F T : Nat → Int) (i j : Nat) (k : Nat) : Int := if F k = T k then 0 else (if F k = (i : Int) ∧ F k = (j : Int) then 1 else 0) + (if T k = (i : Int) ∧ T k = (j : Int) then 1 else 0) - (if F k = (i : Int) ∧ T k = (j : Int) then 1 else 0) - (if T k = (i : Int) ∧ F k = (j : Int) then 1 else 0)
/-- what addTo leaves -/
def adQ (tb tb1 : Nat → Int64) (n : Nat) (a b x : Int) : Prop := ∀ i j, i < n → j < n → (((i : Int) = a ∧ (j : Int) = b) → (tb1 (16 * i + j)).toInt = ((tb (16 * i + j)).toInt + x) % 1000000007) ∧ (¬ ((i : Int) = a ∧ (j : Int) = b) → tb1 (16 * i + j) = tb (16 * i + j))
def ftI (F T : Nat → Int) (tb : Nat → Int64) (n k : Nat) : Prop := ∀ i j, i < n → j < n → (0 ≤ (tb (16 * i + j)).toInt ∧ (tb (16 * i + j)).toInt < 1000000007) ∧ (tb (16 * i + j)).toInt % 1000000007 = sgm (cfF F T i j) k % 1000000007
theorem ft_0 {F T : Nat → Int} {n : Nat} {tb : Nat → Int64} (h : ∀ i, tb i = 0) : ftI F T tb n 0 := fun i j _ _ => by
  rw [h]
  exact ⟨by decide, rfl⟩
theorem ad_b {tb tb1 : Nat → Int64} {n : Nat} {a b x : Int} (h : adQ tb tb1 n a b x) (hR : tbR tb n) : tbR tb1 n := fun i j hi hj => by
  by_cases c : (i : Int) = a ∧ (j : Int) = b
  · rw [(h i j hi hj).1 c]; exact ⟨Int.emod_nonneg _ (by decide), Int.emod_lt_of_pos _ (by decide)⟩
  · rw [(h i j hi hj).2 c]; exact hR i j hi hj
theorem ft_R {F T : Nat → Int} {tb : Nat → Int64} {n k : Nat} (h : ftI F T tb n k) : tbR tb n := fun i j hi hj => (h i j hi hj).1
theorem ft_eq {F T : Nat → Int} {tb : Nat → Int64} {n k : Nat} (h : ftI F T tb n k) (e : F k = T k) : ftI F T tb n (k + 1) := fun i j hi hj => by
  refine ⟨(h i j hi hj).1, ?_⟩
  show _ = (sgm (cfF F T i j) k + cfF F T i j k) % 1000000007
  rw [show cfF F T i j k = 0 from if_pos e, Int.add_zero]
  exact (h i j hi hj).2
theorem ft_st {F T : Nat → Int} {tb t1 t2 t3 t4 : Nat → Int64} {n k : Nat} (h : ftI F T tb n k) (e : F k ≠ T k) (h1 : adQ tb t1 n (F k) (F k) 1) (h2 : adQ t1 t2 n (T k) (T k) 1) (h3 : adQ t2 t3 n (F k) (T k) 1000000006) (h4 : adQ t3 t4 n (T k) (F k) 1000000006) : ftI F T t4 n (k + 1) := fun i j hi hj => by
  have R1 := ad_b h1 (ft_R h)
  have R4 := ad_b h4 (ad_b h3 (ad_b h2 R1))
  refine ⟨R4 i j hi hj, ?_⟩
  show _ = (sgm (cfF F T i j) k + cfF F T i j k) % 1000000007
  have hb := (h i j hi hj).2
  have a1 := h1 i j hi hj
  have a2 := h2 i j hi hj
  have a3 := h3 i j hi hj
  have a4 := h4 i j hi hj
  rw [show cfF F T i j k = (if F k = (i : Int) ∧ F k = (j : Int) then 1 else 0) + (if T k = (i : Int) ∧ T k = (j : Int) then 1 else 0) - (if F k = (i : Int) ∧ T k = (j : Int) then 1 else 0) - (if T k = (i : Int) ∧ F k = (j : Int) then 1 else 0) from if_neg e]
  generalize sgm (cfF F T i j) k = z at hb ⊢
  by_cases c1 : (i : Int) = F k ∧ (j : Int) = F k
  · rw [if_pos (show F k = (i : Int) ∧ F k = (j : Int) by omega), if_neg (show ¬ (T k = (i : Int) ∧ T k = (j : Int)) by omega), if_neg (show ¬ (F k = (i : Int) ∧ T k = (j : Int)) by omega), if_neg (show ¬ (T k = (i : Int) ∧ F k = (j : Int)) by omega), a4.2 (by omega), a3.2 (by omega), a2.2 (by omega), a1.1 c1]; omega
  · by_cases c2 : (i : Int) = T k ∧ (j : Int) = T k
    · rw [if_neg (show ¬ (F k = (i : Int) ∧ F k = (j : Int)) by omega), if_pos (show T k = (i : Int) ∧ T k = (j : Int) by omega), if_neg (show ¬ (F k = (i : Int) ∧ T k = (j : Int)) by omega), if_neg (show ¬ (T k = (i : Int) ∧ F k = (j : Int)) by omega), a4.2 (by omega), a3.2 (by omega), a2.1 c2, a1.2 c1]; omega
    · by_cases c3 : (i : Int) = F k ∧ (j : Int) = T k
      · rw [if_neg (show ¬ (F k = (i : Int) ∧ F k = (j : Int)) by omega), if_neg (show ¬ (T k = (i : Int) ∧ T k = (j : Int)) by omega), if_pos (show F k = (i : Int) ∧ T k = (j : Int) by omega), if_neg (show ¬ (T k = (i : Int) ∧ F k = (j : Int)) by omega), a4.2 (by omega), a3.1 c3, a2.2 c2, a1.2 c1]; omega
      · by_cases c4 : (i : Int) = T k ∧ (j : Int) = F k
        · rw [if_neg (show ¬ (F k = (i : Int) ∧ F k = (j : Int)) by omega), if_neg (show ¬ (T k = (i : Int) ∧ T k = (j : Int)) by omega), if_neg (show ¬ (F k = (i : Int) ∧ T k = (j : Int)) by omega), if_pos (show T k = (i : Int) ∧ F k = (j : Int) by omega), a4.1 c4, a3.2 c3, a2.2 c2, a1.2 c1]; omega
        · rw [if_neg (show ¬ (F k = (i : Int) ∧ F k = (j : Int)) by omega), if_neg (show ¬ (T k = (i : Int) ∧ T k = (j : Int)) by omega), if_neg (show ¬ (F k = (i : Int) ∧ T k = (j : Int)) by omega), if_neg (show ¬ (T k = (i : Int) ∧ F k = (j : Int)) by omega), a4.2 c4, a3.2 c3, a2.2 c2, a1.2 c1]; omega
theorem cf_la {m N i j : Nat} {F T : Nat → Int} (hFT : ∀ k, k < m → (0 ≤ F k ∧ F k < (N : Int)) ∧ 0 ≤ T k ∧ T k < (N : Int)) (hi : i < N) : sgm (cfF F T i j) m = lapF m F T N i j := by
  unfold lapF
  by_cases e : i = j
  · subst e
    rw [if_pos rfl]
    have e1 : sgm (fun q => if q ≠ i then wB m F T i q else 0) N = sgm (fun q => sgm (fun k => if q ≠ i then bwF F T (i : Int) (q : Int) k else 0) m) N := sgm_cg (fun q _ => by
      show (if q ≠ i then wB m F T i q else 0) = sgm (fun k => if q ≠ i then bwF F T (i : Int) (q : Int) k else 0) m
      by_cases c : q ≠ i
      · rw [if_pos c]
        exact sgm_cg (fun k _ => (if_pos c).symm)
      · rw [if_neg c, sgm_cg (g := fun _ => 0) (fun k _ => if_neg c), sgm_0])
    rw [e1, sgm_sw]
    refine sgm_cg (fun k hk => ?_)
    have hk9 := hFT k hk
    have one : ∀ x, x < N → x ≠ i → (∀ q : Nat, q < N → q ≠ i → ((F k = (i : Int) ∧ T k = (q : Int)) ∨ (F k = (q : Int) ∧ T k = (i : Int)) ↔ q = x)) → sgm (fun q => if q ≠ i then bwF F T (i : Int) (q : Int) k else 0) N = 1 := fun x hx hxi hu => by
      rw [sgm_one (a := x) hx (fun q hq hne => by
        show (if q ≠ i then bwF F T (i : Int) (q : Int) k else 0) = 0
        by_cases c : q ≠ i
        · rw [if_pos c]; exact if_neg (fun g => hne ((hu q hq c).mp g))
        · rw [if_neg c])]
      show (if x ≠ i then bwF F T (i : Int) (x : Int) k else 0) = 1
      rw [if_pos hxi]; exact if_pos ((hu x hx hxi).mpr rfl)
    have non : (∀ q : Nat, q < N → q ≠ i → ¬ ((F k = (i : Int) ∧ T k = (q : Int)) ∨ (F k = (q : Int) ∧ T k = (i : Int)))) → sgm (fun q => if q ≠ i then bwF F T (i : Int) (q : Int) k else 0) N = 0 := fun hu => by
      rw [sgm_cg (g := fun _ => 0) (fun q hq => by
        show (if q ≠ i then bwF F T (i : Int) (q : Int) k else 0) = 0
        by_cases c : q ≠ i
        · rw [if_pos c]; exact if_neg (hu q hq c)
        · rw [if_neg c]), sgm_0]
    unfold cfF
    by_cases c : F k = T k
    · rw [if_pos c, non (fun q _ hq => by omega)]
    · rw [if_neg c]
      by_cases c1 : F k = (i : Int)
      · rw [one (T k).toNat (by omega) (by omega) (fun q _ _ => by omega), if_pos (show F k = (i : Int) ∧ F k = (i : Int) by omega), if_neg (show ¬ (T k = (i : Int) ∧ T k = (i : Int)) by omega), if_neg (show ¬ (F k = (i : Int) ∧ T k = (i : Int)) by omega), if_neg (show ¬ (T k = (i : Int) ∧ F k = (i : Int)) by omega)]; rfl
      · by_cases c2 : T k = (i : Int)
        · rw [one (F k).toNat (by omega) (by omega) (fun q _ _ => by omega), if_neg (show ¬ (F k = (i : Int) ∧ F k = (i : Int)) by omega), if_pos (show T k = (i : Int) ∧ T k = (i : Int) by omega), if_neg (show ¬ (F k = (i : Int) ∧ T k = (i : Int)) by omega), if_neg (show ¬ (T k = (i : Int) ∧ F k = (i : Int)) by omega)]; rfl
        · rw [non (fun q _ _ => by omega), if_neg (show ¬ (F k = (i : Int) ∧ F k = (i : Int)) by omega), if_neg (show ¬ (T k = (i : Int) ∧ T k = (i : Int)) by omega), if_neg (show ¬ (F k = (i : Int) ∧ T k = (i : Int)) by omega), if_neg (show ¬ (T k = (i : Int) ∧ F k = (i : Int)) by omega)]; rfl
  · rw [if_neg e, show - wB m F T i j = - sgm (bwF F T (i : Int) (j : Int)) m from rfl, ← sgm_neg]
    refine sgm_cg (fun k hk => ?_)
    show cfF F T i j k = - (if (F k = (i : Int) ∧ T k = (j : Int)) ∨ (F k = (j : Int) ∧ T k = (i : Int)) then (1 : Int) else 0)
    unfold cfF
    by_cases c : F k = T k
    · rw [if_pos c, if_neg (by omega)]; rfl
    · rw [if_neg c, if_neg (show ¬ (F k = (i : Int) ∧ F k = (j : Int)) by omega), if_neg (show ¬ (T k = (i : Int) ∧ T k = (j : Int)) by omega)]
      by_cases c1 : F k = (i : Int) ∧ T k = (j : Int)
      · rw [if_pos c1, if_neg (show ¬ (T k = (i : Int) ∧ F k = (j : Int)) by omega), if_pos (Or.inl c1)]; rfl
      · by_cases c2 : T k = (i : Int) ∧ F k = (j : Int)
        · rw [if_neg c1, if_pos c2, if_pos (Or.inr (And.intro c2.2 c2.1))]; rfl
        · rw [if_neg c1, if_neg c2, if_neg (fun q => q.elim c1 (fun g => c2 ⟨g.2, g.1⟩))]; rfl
theorem ft_la {m n : Nat} {F T : Nat → Int} {tb : Nat → Int64} {k : Nat} (hFT : ∀ k, k < m → (0 ≤ F k ∧ F k < ((n + 1 : Nat) : Int)) ∧ 0 ≤ T k ∧ T k < ((n + 1 : Nat) : Int)) (h : ftI F T tb n k) (hk : k = m) : tpI (dtm n (lapF m F T (n + 1))) tb n 1 0 := by
  subst hk
  refine ⟨by decide, ft_R h, Nat.zero_le n, ?_⟩
  rw [Int.one_mul]
  refine dt_md (fun i j hi hj => ?_)
  show lapF k F T (n + 1) i j % 1000000007 = (tb (16 * (0 + i) + (0 + j))).toInt % 1000000007
  rw [show 16 * (0 + i) + (0 + j) = 16 * i + j by omega, (h i j hi hj).2, cf_la hFT (by omega)]
theorem ad_mk {tb : Nat → Int64} {n p : Nat} {a b x : Int} {w : Int64} (hn : n ≤ 16) (ha : 0 ≤ a ∧ a < (n : Int)) (hb : 0 ≤ b ∧ b < (n : Int)) (hp : (p : Int) = a * 16 + b) (hw : w.toInt = ((tb p).toInt + x) % 1000000007) : adQ tb (fuj tb p w) n a b x := fun i j hi hj => by
  refine ⟨fun h => ?_, fun h => if_neg (by omega)⟩
  have e : 16 * i + j = p := by omega
  rw [e, show fuj tb p w p = w from if_pos rfl]; exact hw
def pvE (tb : Nat → Int64) (k n : Nat) (row : Int) : Prop := ∃ r, pvI tb k n row r ∧ ((n : Int) ≤ r ∨ (tb (16 * row.toNat + k)).toInt ≠ 0)
theorem pve_b {tb : Nat → Int64} {k n : Nat} {row : Int} (h : pvE tb k n row) : (k : Int) ≤ row ∧ row < (n : Int) := by
  obtain ⟨r, h1, -⟩ := h
  exact h1.1
theorem pve_0 {tb : Nat → Int64} {k n : Nat} {row : Int} (h : pvE tb k n row) (hz : (tb (16 * row.toNat + k)).toInt = 0) (hk : k < n) : dtm (n - k) (blk tb k) = 0 := by
  obtain ⟨r, h1, h2⟩ := h
  exact pv_no h1 (h2.resolve_right (fun q => q hz)) hz hk
/-- the row with the head lies at k -/
def pzI (tb tb1 : Nat → Int64) (k n : Nat) (row h : Int) : Prop := tbR tb1 n ∧ (tb1 (16 * k + k)).toInt = h ∧ (0 < h ∧ h < 1000000007) ∧ (row = (k : Int) → dtm (n - k) (blk tb1 k) = dtm (n - k) (blk tb k)) ∧ (row ≠ (k : Int) → dtm (n - k) (blk tb1 k) = - dtm (n - k) (blk tb k))
theorem pz_eq {tb : Nat → Int64} {k n : Nat} {row h : Int} (hR : tbR tb n) (hk : k < n) (he : row = (k : Int)) (hh : (tb (16 * row.toNat + k)).toInt = h) (h0 : h ≠ 0) : pzI tb tb k n row h := by
  have e : row.toNat = k := by omega
  rw [e] at hh
  have := hR k k hk hk
  exact ⟨hR, hh, by omega, fun _ => rfl, fun q => absurd he q⟩
theorem pz_ne {tb tb1 : Nat → Int64} {k n c : Nat} {row h : Int} (hR : tbR tb n) (hb : (k : Int) ≤ row ∧ row < (n : Int)) (hne : row ≠ (k : Int)) (hx : xcI tb tb1 n row.toNat k c) (hc : n ≤ c) (hh : (tb (16 * row.toNat + k)).toInt = h) (h0 : h ≠ 0) : pzI tb tb1 k n row h := by
  have e : (tb1 (16 * k + k)).toInt = h := by
    rw [hx k k (by omega) (by omega), if_pos (by omega), if_neg (by omega), if_pos rfl]; exact hh
  have := hR row.toNat k (by omega) (by omega)
  exact ⟨ex_R hx (by omega) (by omega) hR, e, by omega, fun q => absurd q hne, fun _ => ex_dt hx hc (by omega) (by omega)⟩
theorem pz_end {tb tb1 tb2 : Nat → Int64} {k n r : Nat} {row h v : Int} (hz : pzI tb tb1 k n row h) (he : elI tb1 tb2 k n r) (hk : k < n) (hr : n ≤ r) (hv : (row = (k : Int) ∧ v = h) ∨ (row ≠ (k : Int) ∧ v = 1000000007 - h)) : dtm (n - k) (blk tb k) % 1000000007 = (v * dtm (n - (k + 1)) (blk tb2 (k + 1))) % 1000000007 := by
  have e := el_dt he hk hr
  rw [hz.2.1] at e
  rcases hv with ⟨h1, h2⟩ | ⟨h1, h2⟩
  · rw [← hz.2.2.2.1 h1, e, h2]
  · have e1 := hz.2.2.2.2 h1
    rw [e1] at e
    rw [h2, Int.sub_mul]
    generalize dtm (n - k) (blk tb k) = x at e ⊢
    generalize dtm (n - (k + 1)) (blk tb2 (k + 1)) = y at e ⊢
    generalize h * y = z at e ⊢
    omega
theorem el_R {tb0 tb : Nat → Int64} {k n r : Nat} (h : elI tb0 tb k n r) : tbR tb n := h.2.2.2
