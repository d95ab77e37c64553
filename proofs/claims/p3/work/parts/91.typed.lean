def iv (x : Int) : Int32 := Int32.ofInt x
theorem iv_add (x y : Int) : iv x + iv y = iv (x + y) := (Int32.ofInt_add x y).symm
theorem iv_sub (x y : Int) : iv x - iv y = iv (x - y) := (Int32.ofInt_sub x y).symm
theorem iv_mul (x y : Int) : iv x * iv y = iv (x * y) := (Int32.ofInt_mul x y).symm
theorem iv_neg (x : Int) : - iv x = iv (-x) := (Int32.ofInt_neg x).symm
theorem iv_toInt {x : Int} (h0 : -2147483648 ≤ x) (h1 : x ≤ 2147483647) : (iv x).toInt = x := Int32.toInt_ofInt_of_le (by omega) (by omega)
theorem iv_of (x : Int32) : iv x.toInt = x := Int32.ofInt_toInt x
theorem iv_lo (x : Int32) : -2147483648 ≤ x.toInt := by have := Int32.le_toInt x; omega
theorem iv_hi (x : Int32) : x.toInt ≤ 2147483647 := by have := Int32.toInt_lt x; omega
theorem iv_lt {x y : Int} (hx : -2147483648 ≤ x ∧ x ≤ 2147483647) (hy : -2147483648 ≤ y ∧ y ≤ 2147483647) : iv x < iv y ↔ x < y := by rw [Int32.lt_iff_toInt_lt, iv_toInt hx.1 hx.2, iv_toInt hy.1 hy.2]
theorem iv_le {x y : Int} (hx : -2147483648 ≤ x ∧ x ≤ 2147483647) (hy : -2147483648 ≤ y ∧ y ≤ 2147483647) : iv x ≤ iv y ↔ x ≤ y := by rw [Int32.le_iff_toInt_le, iv_toInt hx.1 hx.2, iv_toInt hy.1 hy.2]
theorem iv_eq {x y : Int} (hx : -2147483648 ≤ x ∧ x ≤ 2147483647) (hy : -2147483648 ≤ y ∧ y ≤ 2147483647) : iv x = iv y ↔ x = y := by rw [← Int32.toInt_inj, iv_toInt hx.1 hx.2, iv_toInt hy.1 hy.2]
theorem iv_bv (a : Nat) : (iv (a : Int)).toBitVec = BitVec.ofNat 32 a := by
  show (Int32.ofInt (a : Int)).toBitVec = _
  rw [Int32.toBitVec_ofInt, BitVec.ofInt_natCast]
theorem iv_ofbv {x : Int32} {a : Nat} (h : x.toBitVec = BitVec.ofNat 32 a) : x = iv (a : Int) := by
  rw [← Int32.toBitVec_inj, h, iv_bv]
theorem iv_and {a b : Nat} (ha : a < 2 ^ 32) (hb : b < 2 ^ 32) : iv (a : Int) &&& iv (b : Int) = iv ((a &&& b : Nat) : Int) := by
  apply iv_ofbv
  rw [Int32.toBitVec_and, iv_bv, iv_bv]
  apply BitVec.eq_of_toNat_eq
  have h3 : a &&& b < 2 ^ 32 := Nat.lt_of_le_of_lt Nat.and_le_left ha
  simp only [BitVec.toNat_and, BitVec.toNat_ofNat, Nat.mod_eq_of_lt ha, Nat.mod_eq_of_lt hb, Nat.mod_eq_of_lt h3]
theorem iv_or {a b : Nat} (ha : a < 2 ^ 32) (hb : b < 2 ^ 32) : iv (a : Int) ||| iv (b : Int) = iv ((a ||| b : Nat) : Int) := by
  apply iv_ofbv
  rw [Int32.toBitVec_or, iv_bv, iv_bv]
  apply BitVec.eq_of_toNat_eq
  have h3 : a ||| b < 2 ^ 32 := Nat.or_lt_two_pow ha hb
  simp only [BitVec.toNat_or, BitVec.toNat_ofNat, Nat.mod_eq_of_lt ha, Nat.mod_eq_of_lt hb, Nat.mod_eq_of_lt h3]
theorem iv_xor {a b : Nat} (ha : a < 2 ^ 32) (hb : b < 2 ^ 32) : iv (a : Int) ^^^ iv (b : Int) = iv ((a ^^^ b : Nat) : Int) := by
  apply iv_ofbv
  rw [Int32.toBitVec_xor, iv_bv, iv_bv]
  apply BitVec.eq_of_toNat_eq
  have h3 : a ^^^ b < 2 ^ 32 := Nat.xor_lt_two_pow ha hb
  simp only [BitVec.toNat_xor, BitVec.toNat_ofNat, Nat.mod_eq_of_lt ha, Nat.mod_eq_of_lt hb, Nat.mod_eq_of_lt h3]
theorem iv_m31 {k : Nat} (hk : k < 32) : iv (k : Int) &&& 31 = iv (k : Int) := by
  have h : (31 : Int32) = iv ((31 : Nat) : Int) := by decide
  rw [h, iv_and (by omega) (by omega)]
  congr 2
  have : k &&& 31 = k % 32 := Nat.and_two_pow_sub_one_eq_mod k 5
  omega
theorem iv_smod {k : Nat} (hk : k < 32) : ((iv (k : Int)).toBitVec.smod 32) = BitVec.ofNat 32 k := by
  rw [iv_bv]
  have h : ∀ j : Fin 32, (BitVec.ofNat 32 j.val).smod 32 = BitVec.ofNat 32 j.val := by decide
  exact h ⟨k, hk⟩
theorem iv_shr {a k : Nat} (ha : a < 2 ^ 31) (hk : k < 32) : iv (a : Int) >>> (iv (k : Int) &&& 31) = iv ((a >>> k : Nat) : Int) := by
  rw [iv_m31 hk]
  apply iv_ofbv
  rw [Int32.toBitVec_shiftRight, iv_smod hk, iv_bv]
  have h1 : (BitVec.ofNat 32 a).msb = false := by
    rw [BitVec.msb_eq_false_iff_two_mul_lt, BitVec.toNat_ofNat, Nat.mod_eq_of_lt (by omega)]; omega
  apply BitVec.eq_of_toNat_eq
  show ((BitVec.ofNat 32 a).sshiftRight (BitVec.ofNat 32 k).toNat).toNat = _
  rw [BitVec.sshiftRight_eq_of_msb_false h1]
  have h3 : a >>> k < 2 ^ 32 := Nat.lt_of_le_of_lt (by rw [Nat.shiftRight_eq_div_pow]; exact Nat.div_le_self _ _) (by omega : a < 2 ^ 32)
  rw [BitVec.toNat_ushiftRight, BitVec.toNat_ofNat, BitVec.toNat_ofNat, BitVec.toNat_ofNat, Nat.mod_eq_of_lt (by omega : a < 2 ^ 32), Nat.mod_eq_of_lt (by omega : k < 2 ^ 32), Nat.mod_eq_of_lt h3]
theorem iv_shl {k : Nat} (hk : k < 32) : iv 1 <<< (iv (k : Int) &&& 31) = iv ((2 ^ k : Nat) : Int) := by
  rw [iv_m31 hk]
  have h : ∀ j : Fin 32, iv 1 <<< iv ((j.val : Nat) : Int) = iv ((2 ^ j.val : Nat) : Int) := by decide
  exact h ⟨k, hk⟩
theorem iv_not (x : Int) : iv x ^^^ iv (-1) = iv (-x - 1) := by
  rw [← Int32.toBitVec_inj, Int32.toBitVec_xor]
  have h1 : (iv (-1)).toBitVec = BitVec.allOnes 32 := by decide
  have h2 : iv (-x - 1) = - iv x - 1 := by
    show Int32.ofInt (-x - 1) = - Int32.ofInt x - 1
    rw [Int32.ofInt_sub, Int32.ofInt_neg]; rfl
  rw [h1, h2, BitVec.xor_allOnes, Int32.toBitVec_sub, Int32.toBitVec_neg, BitVec.neg_eq_not_add]
  exact (BitVec.add_sub_cancel _ _).symm
theorem and_r (x y : Int) (h0 : 0 ≤ y) (h1 : y ≤ 2147483647) : ∃ z : Int, iv x &&& iv y = iv z ∧ 0 ≤ z ∧ z ≤ y := by
  obtain ⟨b, rfl⟩ := Int.eq_ofNat_of_zero_le h0
  refine ⟨(((iv x).toBitVec.toNat &&& b : Nat) : Int), ?_, by omega, ?_⟩
  · have e : iv x = iv ((iv x).toBitVec.toNat : Int) := iv_ofbv (by simp)
    have hlt : (iv x).toBitVec.toNat < 2 ^ 32 := (iv x).toBitVec.isLt
    exact (congrArg (· &&& iv (b : Int)) e).trans (iv_and hlt (by omega))
  · exact Int.ofNat_le.mpr Nat.and_le_right
theorem and_l (x y : Int) (h0 : 0 ≤ x) (h1 : x ≤ 2147483647) : ∃ z : Int, iv x &&& iv y = iv z ∧ 0 ≤ z ∧ z ≤ x := by
  obtain ⟨z, h, h2⟩ := and_r y x h0 h1
  exact ⟨z, by rw [Int32.and_comm]; exact h, h2⟩
theorem and_2 (x y : Int) (h0 : 0 ≤ x ∧ 0 ≤ y) (h1 : x ≤ 2147483647 ∧ y ≤ 2147483647) : ∃ z : Int, iv x &&& iv y = iv z ∧ 0 ≤ z ∧ z ≤ x ∧ z ≤ y := by
  obtain ⟨a, rfl⟩ := Int.eq_ofNat_of_zero_le h0.1
  obtain ⟨b, rfl⟩ := Int.eq_ofNat_of_zero_le h0.2
  exact ⟨((a &&& b : Nat) : Int), iv_and (by omega) (by omega), by omega, Int.ofNat_le.mpr Nat.and_le_left, Int.ofNat_le.mpr Nat.and_le_right⟩
theorem or_2 (k : Nat) (x y : Int) (h0 : 0 ≤ x ∧ 0 ≤ y) (h1 : x < 2 ^ k ∧ y < 2 ^ k) (hk : k ≤ 31) : ∃ z : Int, iv x ||| iv y = iv z ∧ x ≤ z ∧ y ≤ z ∧ z < 2 ^ k := by
  obtain ⟨a, rfl⟩ := Int.eq_ofNat_of_zero_le h0.1
  obtain ⟨b, rfl⟩ := Int.eq_ofNat_of_zero_le h0.2
  have h2 : a < 2 ^ k := by exact_mod_cast h1.1
  have h3 : b < 2 ^ k := by exact_mod_cast h1.2
  have h4 : 2 ^ k ≤ 2 ^ 31 := Nat.pow_le_pow_right (by omega) hk
  refine ⟨((a ||| b : Nat) : Int), iv_or (by omega) (by omega), Int.ofNat_le.mpr Nat.left_le_or, Int.ofNat_le.mpr Nat.right_le_or, ?_⟩
  exact_mod_cast Nat.or_lt_two_pow h2 h3
theorem xor_2 (k : Nat) (x y : Int) (h0 : 0 ≤ x ∧ 0 ≤ y) (h1 : x < 2 ^ k ∧ y < 2 ^ k) (hk : k ≤ 31) : ∃ z : Int, iv x ^^^ iv y = iv z ∧ 0 ≤ z ∧ z < 2 ^ k := by
  obtain ⟨a, rfl⟩ := Int.eq_ofNat_of_zero_le h0.1
  obtain ⟨b, rfl⟩ := Int.eq_ofNat_of_zero_le h0.2
  have h2 : a < 2 ^ k := by exact_mod_cast h1.1
  have h3 : b < 2 ^ k := by exact_mod_cast h1.2
  have h4 : 2 ^ k ≤ 2 ^ 31 := Nat.pow_le_pow_right (by omega) hk
  refine ⟨((a ^^^ b : Nat) : Int), iv_xor (by omega) (by omega), by omega, ?_⟩
  exact_mod_cast Nat.xor_lt_two_pow h2 h3
theorem m31 (y : Int) : ∃ k : Nat, k < 32 ∧ iv y &&& 31 = iv (k : Int) := by
  obtain ⟨z, h, h0, h1⟩ := and_r y 31 (by omega) (by omega)
  obtain ⟨k, rfl⟩ := Int.eq_ofNat_of_zero_le h0
  exact ⟨k, by omega, h⟩
theorem shr_x (x y : Int) (h0 : 0 ≤ x) (h1 : x ≤ 2147483647) : ∃ z : Int, iv x >>> (iv y &&& 31) = iv z ∧ 0 ≤ z ∧ z ≤ x := by
  obtain ⟨a, rfl⟩ := Int.eq_ofNat_of_zero_le h0
  obtain ⟨k, hk, e⟩ := m31 y
  refine ⟨((a >>> k : Nat) : Int), ?_, Int.natCast_nonneg _, ?_⟩
  · rw [e, ← iv_m31 hk]; exact iv_shr (by omega) hk
  · rw [Nat.shiftRight_eq_div_pow]; exact Int.ofNat_le.mpr (Nat.div_le_self _ _)
theorem shl_1 (lo hi : Nat) (y : Int) (h0 : lo ≤ y) (h1 : y ≤ hi) (h2 : hi < 31) : ∃ z : Int, iv 1 <<< (iv y &&& 31) = iv z ∧ 2 ^ lo ≤ z ∧ z ≤ 2 ^ hi := by
  obtain ⟨k, rfl⟩ := Int.eq_ofNat_of_zero_le (show (0 : Int) ≤ y by omega)
  refine ⟨((2 ^ k : Nat) : Int), iv_shl (by omega), ?_, ?_⟩
  · exact_mod_cast Nat.pow_le_pow_right (by omega) (by omega : lo ≤ k)
  · exact_mod_cast Nat.pow_le_pow_right (by omega) (by omega : k ≤ hi)
theorem any_i (x : Int32) : ∃ z : Int, x = iv z ∧ -2147483648 ≤ z ∧ z ≤ 2147483647 := ⟨x.toInt, (iv_of x).symm, iv_lo x, iv_hi x⟩
abbrev TG : Type := Nat → Option (va_E → Prop)
def Tw (Γ : TG) (hp : MH) : Prop := ∀ (a : Nat) (T : va_E → Prop), Γ a = some T → ∃ e : va_E, hp a = some e ∧ T e
def rd (Γ : TG) (a : Nat) (T : va_E → Prop) : Prop := ∃ T0, Γ a = some T0 ∧ ∀ e, T0 e → T e
theorem rd_of {Γ : TG} {a : Nat} {T : va_E → Prop} (h : Γ a = some T) : rd Γ a T := ⟨T, h, fun _ q => q⟩
theorem rd_at {Γ : TG} {hp : MH} {a : Nat} {T : va_E → Prop} (ht : Tw Γ hp) (h : rd Γ a T) : ∃ e, hp a = some e ∧ T e := by
  obtain ⟨T0, h0, h1⟩ := h
  obtain ⟨e, h2, h3⟩ := ht a T0 h0
  exact ⟨e, h2, h1 e h3⟩
theorem Tw.set {Γ : TG} {hp hp1 : MH} {a : Nat} {T : va_E → Prop} {e : va_E} (ht : Tw Γ hp) (hΓ : Γ a = some T) (he : hp1 a = some e) (hT : T e) (ho : ∀ q : Nat, q ≠ a → hp1 q = hp q) : Tw Γ hp1 := by
  intro q T' h
  by_cases hq : q = a
  · subst hq
    rw [hΓ] at h
    cases h
    exact ⟨e, he, hT⟩
  · rw [ho q hq]; exact ht q T' h
theorem Tw.up {Γ : TG} {hp hp1 : MH} {a : Nat} {T : va_E → Prop} {e : va_E} (ht : Tw Γ hp) (he : hp1 a = some e) (hT : T e) (ho : ∀ q : Nat, q ≠ a → hp1 q = hp q) : Tw (va_up Γ a (some T)) hp1 := by
  intro q T' h
  by_cases hq : q = a
  · subst hq
    simp [va_up] at h
    subst h
    exact ⟨e, he, hT⟩
  · simp [va_up, hq] at h
    rw [ho q hq]; exact ht q T' h
def rg (lo hi : Int) : Nat → Int → Prop := fun _ v => lo ≤ v ∧ v ≤ hi
def tI (cA : ClassId) (L : Nat) (P : Nat → Int → Prop) : va_E → Prop := fun e => ∃ f : Nat → Int32, e = .inl (cA, L, .inl f) ∧ ∀ i, i < L → P i (f i).toInt
def tJ (cA : ClassId) (L : Nat) (P : Nat → Int64 → Prop) : va_E → Prop := fun e => ∃ f : Nat → Int64, e = .inl (cA, L, .inr (.inl f)) ∧ ∀ i, i < L → P i (f i)
def tQ (cA : ClassId) (L : Nat) (P : Nat → Option Nat → Prop) : va_E → Prop := fun e => ∃ f : Nat → Option Nat, e = .inl (cA, L, .inr (.inr (.inr (.inr f)))) ∧ ∀ i, i < L → P i (f i)
def tO (ci : Nat) (Fs : List (Value → Prop)) : va_E → Prop := fun e => ∃ fs : List Value, e = .inr (ci, fs) ∧ fs.length = Fs.length ∧ ∀ (k : Nat) (T : Value → Prop), Fs[k]? = some T → ∃ v, fs[k]? = some v ∧ T v
def fI (lo hi : Int) : Value → Prop := fun v => ∃ y : Int, v = .int (iv y) ∧ lo ≤ y ∧ y ≤ hi
def fE (w : Value) : Value → Prop := fun v => v = w
def anyJ : Nat → Int64 → Prop := fun _ _ => True
theorem iv_clamp {x : Int} (h0 : 0 ≤ x) (h1 : x ≤ 2147483647) : (iv x).toNatClampNeg = x.toNat := by
  show (iv x).toInt.toNat = x.toNat
  rw [iv_toInt (by omega) h1]
theorem iv_in {x : Int} {L : Nat} (h : 0 ≤ x ∧ x < (L : Int)) (hL : L ≤ 2147483647) : vp_in (iv x) L := by
  have h0 : (0 : Int32) = iv 0 := rfl
  have h1 : ¬ iv x < 0 := by rw [h0, iv_lt (by omega) (by omega)]; omega
  have h2 : ¬ L ≤ (iv x).toNatClampNeg := by rw [iv_clamp h.1 (by omega)]; omega
  exact fun q => q.elim h1 h2
theorem nI_iv (N : Nat) : nI N = iv (N : Int) := by
  show Int32.ofNat N = Int32.ofInt (N : Int)
  exact (Int32.ofInt_eq_ofNat).symm
def pR (Γ : TG) (n : Nat) (lo hi : Int) : Option Value → MH → Nat → Prop := fun r hp1 n1 => n1 = n ∧ Tw Γ hp1 ∧ ∃ y : Int, r = some (.int (iv y)) ∧ lo ≤ y ∧ y ≤ hi
def pI (Γ : TG) (n : Nat) (Q : Int → Prop) : Option Value → MH → Nat → Prop := fun r hp1 n1 => n1 = n ∧ Tw Γ hp1 ∧ ∃ y : Int, r = some (.int (iv y)) ∧ Q y
def pJ (Γ : TG) (n : Nat) (Q : Int64 → Prop) : Option Value → MH → Nat → Prop := fun r hp1 n1 => n1 = n ∧ Tw Γ hp1 ∧ ∃ y : Int64, r = some (.long y) ∧ Q y
def pV (Γ : TG) (n : Nat) : Option Value → MH → Nat → Prop := fun r hp1 n1 => n1 = n ∧ Tw Γ hp1 ∧ r = none
def yes64 : Int64 → Prop := fun _ => True
theorem iv_nar {y : Int} (h : 0 ≤ y ∧ y ≤ 1) : narrow .boolean (.int (iv y)) = .int (iv y) := by
  have h1 : y = 0 ∨ y = 1 := by omega
  rcases h1 with rfl | rfl <;> decide
theorem iv_vnar {y : Int} (h : 0 ≤ y ∧ y ≤ 1) : vp_nar .boolean (iv y) = iv y := by
  have h1 : y = 0 ∨ y = 1 := by omega
  rcases h1 with rfl | rfl <;> decide
theorem lpS (P : Nat → Prop) (h : ∀ k, (∀ j, j < k → P j) → P k) : ∀ k, P k := fun k => Nat.strongRecOn k h
section TR
variable {G : MG} {M : MM} {d pc : Nat} {lv : List (Nat × Value)} {st : List Value} {hp : MH} {n kr wr : Nat} {Po : Option Value → MH → Nat → Prop}
theorem t_if_eq {x : Int} {off : Int} {tgt : Nat} (hd : decode M.2.1 pc = .ok (.ifCond .eq off, 3)) (ht : (pc : Int) + off = (tgt : Int)) (hx : -2147483648 ≤ x ∧ x ≤ 2147483647) (kt : x = 0 → Rn G M d tgt lv st hp n kr wr Po) (kf : ¬ (x = 0) → Rn G M d (pc + 3) lv st hp n kr wr Po) : Rn G M d pc lv (.int (iv x) :: st) hp n kr wr Po := by
  have z0 : (0 : Int32) = iv 0 := rfl
  exact r_if_eq hd ht (fun q => kt (by rw [z0, iv_eq hx (by omega)] at q; exact q)) (fun q => kf (by rw [z0, iv_eq hx (by omega)] at q; exact q))
theorem t_icmp_eq {x y : Int} {off : Int} {tgt : Nat} (hd : decode M.2.1 pc = .ok (.if_icmp .eq off, 3)) (ht : (pc : Int) + off = (tgt : Int)) (hx : -2147483648 ≤ x ∧ x ≤ 2147483647) (hy : -2147483648 ≤ y ∧ y ≤ 2147483647) (kt : x = y → Rn G M d tgt lv st hp n kr wr Po) (kf : ¬ (x = y) → Rn G M d (pc + 3) lv st hp n kr wr Po) : Rn G M d pc lv (.int (iv y) :: .int (iv x) :: st) hp n kr wr Po := by
  exact r_icmp_eq hd ht (fun q => kt (by rw [iv_eq hx hy] at q; exact q)) (fun q => kf (by rw [iv_eq hx hy] at q; exact q))
theorem t_if_ne {x : Int} {off : Int} {tgt : Nat} (hd : decode M.2.1 pc = .ok (.ifCond .ne off, 3)) (ht : (pc : Int) + off = (tgt : Int)) (hx : -2147483648 ≤ x ∧ x ≤ 2147483647) (kt : x ≠ 0 → Rn G M d tgt lv st hp n kr wr Po) (kf : ¬ (x ≠ 0) → Rn G M d (pc + 3) lv st hp n kr wr Po) : Rn G M d pc lv (.int (iv x) :: st) hp n kr wr Po := by
  have z0 : (0 : Int32) = iv 0 := rfl
  exact r_if_ne hd ht (fun q => kt (by rw [z0, Ne, iv_eq hx (by omega)] at q; exact q)) (fun q => kf (by rw [z0, Ne, iv_eq hx (by omega)] at q; exact q))
theorem t_icmp_ne {x y : Int} {off : Int} {tgt : Nat} (hd : decode M.2.1 pc = .ok (.if_icmp .ne off, 3)) (ht : (pc : Int) + off = (tgt : Int)) (hx : -2147483648 ≤ x ∧ x ≤ 2147483647) (hy : -2147483648 ≤ y ∧ y ≤ 2147483647) (kt : x ≠ y → Rn G M d tgt lv st hp n kr wr Po) (kf : ¬ (x ≠ y) → Rn G M d (pc + 3) lv st hp n kr wr Po) : Rn G M d pc lv (.int (iv y) :: .int (iv x) :: st) hp n kr wr Po := by
  exact r_icmp_ne hd ht (fun q => kt (by rw [Ne, iv_eq hx hy] at q; exact q)) (fun q => kf (by rw [Ne, iv_eq hx hy] at q; exact q))
theorem t_if_lt {x : Int} {off : Int} {tgt : Nat} (hd : decode M.2.1 pc = .ok (.ifCond .lt off, 3)) (ht : (pc : Int) + off = (tgt : Int)) (hx : -2147483648 ≤ x ∧ x ≤ 2147483647) (kt : x < 0 → Rn G M d tgt lv st hp n kr wr Po) (kf : ¬ (x < 0) → Rn G M d (pc + 3) lv st hp n kr wr Po) : Rn G M d pc lv (.int (iv x) :: st) hp n kr wr Po := by
  have z0 : (0 : Int32) = iv 0 := rfl
  exact r_if_lt hd ht (fun q => kt (by rw [z0, iv_lt hx (by omega)] at q; exact q)) (fun q => kf (by rw [z0, iv_lt hx (by omega)] at q; exact q))
theorem t_icmp_lt {x y : Int} {off : Int} {tgt : Nat} (hd : decode M.2.1 pc = .ok (.if_icmp .lt off, 3)) (ht : (pc : Int) + off = (tgt : Int)) (hx : -2147483648 ≤ x ∧ x ≤ 2147483647) (hy : -2147483648 ≤ y ∧ y ≤ 2147483647) (kt : x < y → Rn G M d tgt lv st hp n kr wr Po) (kf : ¬ (x < y) → Rn G M d (pc + 3) lv st hp n kr wr Po) : Rn G M d pc lv (.int (iv y) :: .int (iv x) :: st) hp n kr wr Po := by
  exact r_icmp_lt hd ht (fun q => kt (by rw [iv_lt hx hy] at q; exact q)) (fun q => kf (by rw [iv_lt hx hy] at q; exact q))
theorem t_if_ge {x : Int} {off : Int} {tgt : Nat} (hd : decode M.2.1 pc = .ok (.ifCond .ge off, 3)) (ht : (pc : Int) + off = (tgt : Int)) (hx : -2147483648 ≤ x ∧ x ≤ 2147483647) (kt : 0 ≤ x → Rn G M d tgt lv st hp n kr wr Po) (kf : ¬ (0 ≤ x) → Rn G M d (pc + 3) lv st hp n kr wr Po) : Rn G M d pc lv (.int (iv x) :: st) hp n kr wr Po := by
  have z0 : (0 : Int32) = iv 0 := rfl
  exact r_if_ge hd ht (fun q => kt (by rw [z0, iv_le (by omega) hx] at q; exact q)) (fun q => kf (by rw [z0, iv_le (by omega) hx] at q; exact q))
theorem t_icmp_ge {x y : Int} {off : Int} {tgt : Nat} (hd : decode M.2.1 pc = .ok (.if_icmp .ge off, 3)) (ht : (pc : Int) + off = (tgt : Int)) (hx : -2147483648 ≤ x ∧ x ≤ 2147483647) (hy : -2147483648 ≤ y ∧ y ≤ 2147483647) (kt : y ≤ x → Rn G M d tgt lv st hp n kr wr Po) (kf : ¬ (y ≤ x) → Rn G M d (pc + 3) lv st hp n kr wr Po) : Rn G M d pc lv (.int (iv y) :: .int (iv x) :: st) hp n kr wr Po := by
  exact r_icmp_ge hd ht (fun q => kt (by rw [iv_le hy hx] at q; exact q)) (fun q => kf (by rw [iv_le hy hx] at q; exact q))
theorem t_if_gt {x : Int} {off : Int} {tgt : Nat} (hd : decode M.2.1 pc = .ok (.ifCond .gt off, 3)) (ht : (pc : Int) + off = (tgt : Int)) (hx : -2147483648 ≤ x ∧ x ≤ 2147483647) (kt : 0 < x → Rn G M d tgt lv st hp n kr wr Po) (kf : ¬ (0 < x) → Rn G M d (pc + 3) lv st hp n kr wr Po) : Rn G M d pc lv (.int (iv x) :: st) hp n kr wr Po := by
  have z0 : (0 : Int32) = iv 0 := rfl
  exact r_if_gt hd ht (fun q => kt (by rw [z0, iv_lt (by omega) hx] at q; exact q)) (fun q => kf (by rw [z0, iv_lt (by omega) hx] at q; exact q))
theorem t_icmp_gt {x y : Int} {off : Int} {tgt : Nat} (hd : decode M.2.1 pc = .ok (.if_icmp .gt off, 3)) (ht : (pc : Int) + off = (tgt : Int)) (hx : -2147483648 ≤ x ∧ x ≤ 2147483647) (hy : -2147483648 ≤ y ∧ y ≤ 2147483647) (kt : y < x → Rn G M d tgt lv st hp n kr wr Po) (kf : ¬ (y < x) → Rn G M d (pc + 3) lv st hp n kr wr Po) : Rn G M d pc lv (.int (iv y) :: .int (iv x) :: st) hp n kr wr Po := by
  exact r_icmp_gt hd ht (fun q => kt (by rw [iv_lt hy hx] at q; exact q)) (fun q => kf (by rw [iv_lt hy hx] at q; exact q))
theorem t_if_le {x : Int} {off : Int} {tgt : Nat} (hd : decode M.2.1 pc = .ok (.ifCond .le off, 3)) (ht : (pc : Int) + off = (tgt : Int)) (hx : -2147483648 ≤ x ∧ x ≤ 2147483647) (kt : x ≤ 0 → Rn G M d tgt lv st hp n kr wr Po) (kf : ¬ (x ≤ 0) → Rn G M d (pc + 3) lv st hp n kr wr Po) : Rn G M d pc lv (.int (iv x) :: st) hp n kr wr Po := by
  have z0 : (0 : Int32) = iv 0 := rfl
  exact r_if_le hd ht (fun q => kt (by rw [z0, iv_le hx (by omega)] at q; exact q)) (fun q => kf (by rw [z0, iv_le hx (by omega)] at q; exact q))
theorem t_icmp_le {x y : Int} {off : Int} {tgt : Nat} (hd : decode M.2.1 pc = .ok (.if_icmp .le off, 3)) (ht : (pc : Int) + off = (tgt : Int)) (hx : -2147483648 ≤ x ∧ x ≤ 2147483647) (hy : -2147483648 ≤ y ∧ y ≤ 2147483647) (kt : x ≤ y → Rn G M d tgt lv st hp n kr wr Po) (kf : ¬ (x ≤ y) → Rn G M d (pc + 3) lv st hp n kr wr Po) : Rn G M d pc lv (.int (iv y) :: .int (iv x) :: st) hp n kr wr Po := by
  exact r_icmp_le hd ht (fun q => kt (by rw [iv_le hx hy] at q; exact q)) (fun q => kf (by rw [iv_le hx hy] at q; exact q))
theorem t_iald {Γ : TG} {a t0 L : Nat} {cA : ClassId} {P : Nat → Int → Prop} {x : Int} (ht : Tw Γ hp) (hΓ : rd Γ a (tI cA L P)) (hd : decode M.2.1 pc = .ok (.iaload, 1)) (hty : (g_ty G)[t0]? = some (cA, .int)) (hL : L ≤ 2147483647) (hx : 0 ≤ x ∧ x < (L : Int)) (kk : ∀ y : Int, -2147483648 ≤ y ∧ y ≤ 2147483647 → P x.toNat y → Rn G M d (pc + 1) lv (.int (iv y) :: st) hp n kr wr Po) : Rn G M d pc lv (.int (iv x) :: .ref a :: st) hp n kr wr Po := by
  obtain ⟨e, h1, f, rfl, h2⟩ := rd_at ht hΓ
  refine w_iald (v := iv (f x.toNat).toInt) hd hty h1 (iv_in hx hL) (by rw [iv_clamp hx.1 (by omega), iv_of]) (kk _ ⟨iv_lo _, iv_hi _⟩ (h2 _ (by omega)))
theorem t_zald {Γ : TG} {a t0 L : Nat} {cA : ClassId} {P : Nat → Int → Prop} {x : Int} (ht : Tw Γ hp) (hΓ : rd Γ a (tI cA L P)) (hd : decode M.2.1 pc = .ok (.baload, 1)) (hty : (g_ty G)[t0]? = some (cA, .boolean)) (hL : L ≤ 2147483647) (hx : 0 ≤ x ∧ x < (L : Int)) (kk : ∀ y : Int, -2147483648 ≤ y ∧ y ≤ 2147483647 → P x.toNat y → Rn G M d (pc + 1) lv (.int (iv y) :: st) hp n kr wr Po) : Rn G M d pc lv (.int (iv x) :: .ref a :: st) hp n kr wr Po := by
  obtain ⟨e, h1, f, rfl, h2⟩ := rd_at ht hΓ
  refine w_zald (v := iv (f x.toNat).toInt) hd hty h1 (iv_in hx hL) (by rw [iv_clamp hx.1 (by omega), iv_of]) (kk _ ⟨iv_lo _, iv_hi _⟩ (h2 _ (by omega)))
theorem t_lald {Γ : TG} {a t0 L : Nat} {cA : ClassId} {P : Nat → Int64 → Prop} {x : Int} (ht : Tw Γ hp) (hΓ : rd Γ a (tJ cA L P)) (hd : decode M.2.1 pc = .ok (.laload, 1)) (hty : (g_ty G)[t0]? = some (cA, .long)) (hL : L ≤ 2147483647) (hx : 0 ≤ x ∧ x < (L : Int)) (kk : ∀ y : Int64, P x.toNat y → Rn G M d (pc + 1) lv (.long y :: st) hp n kr wr Po) : Rn G M d pc lv (.int (iv x) :: .ref a :: st) hp n kr wr Po := by
  obtain ⟨e, h1, f, rfl, h2⟩ := rd_at ht hΓ
  refine w_lald (v := f x.toNat) hd hty h1 (iv_in hx hL) (by rw [iv_clamp hx.1 (by omega)]) (kk _ (h2 _ (by omega)))
theorem t_ialdR {Γ : TG} {a t0 L : Nat} {cA : ClassId} {lo hi : Int} {x : Int} (ht : Tw Γ hp) (hΓ : rd Γ a (tI cA L (rg lo hi))) (hd : decode M.2.1 pc = .ok (.iaload, 1)) (hty : (g_ty G)[t0]? = some (cA, .int)) (hL : L ≤ 2147483647) (hx : 0 ≤ x ∧ x < (L : Int)) (kk : ∀ y : Int, lo ≤ y ∧ y ≤ hi → Rn G M d (pc + 1) lv (.int (iv y) :: st) hp n kr wr Po) : Rn G M d pc lv (.int (iv x) :: .ref a :: st) hp n kr wr Po :=
  t_iald ht hΓ hd hty hL hx (fun y _ h => kk y h)
theorem t_zaldR {Γ : TG} {a t0 L : Nat} {cA : ClassId} {lo hi : Int} {x : Int} (ht : Tw Γ hp) (hΓ : rd Γ a (tI cA L (rg lo hi))) (hd : decode M.2.1 pc = .ok (.baload, 1)) (hty : (g_ty G)[t0]? = some (cA, .boolean)) (hL : L ≤ 2147483647) (hx : 0 ≤ x ∧ x < (L : Int)) (kk : ∀ y : Int, lo ≤ y ∧ y ≤ hi → Rn G M d (pc + 1) lv (.int (iv y) :: st) hp n kr wr Po) : Rn G M d pc lv (.int (iv x) :: .ref a :: st) hp n kr wr Po :=
  t_zald ht hΓ hd hty hL hx (fun y _ h => kk y h)
theorem t_iast {Γ : TG} {a t0 L : Nat} {cA : ClassId} {P : Nat → Int → Prop} {x y : Int} (ht : Tw Γ hp) (hΓ : Γ a = some (tI cA L P)) (hd : decode M.2.1 pc = .ok (.iastore, 1)) (hty : (g_ty G)[t0]? = some (cA, .int)) (hL : L ≤ 2147483647) (hx : 0 ≤ x ∧ x < (L : Int)) (hy : -2147483648 ≤ y ∧ y ≤ 2147483647) (hP : P x.toNat y) (kk : ∀ hp1 : MH, Tw Γ hp1 → Rn G M d (pc + 1) lv st hp1 n kr wr Po) : Rn G M d pc lv (.int (iv y) :: .int (iv x) :: .ref a :: st) hp n kr wr Po := by
  obtain ⟨e, h1, f, rfl, h2⟩ := rd_at ht (rd_of hΓ)
  refine w_iast (f' := upd f x.toNat (iv y)) hd hty h1 (iv_in hx hL) (by rw [iv_clamp hx.1 (by omega)]) (fun hp1 h3 h4 => kk hp1 (ht.set hΓ h3 ⟨_, rfl, fun i hi => ?_⟩ h4))
  by_cases hq : i = x.toNat
  · subst hq; simp only [upd, if_pos]; rw [iv_toInt hy.1 hy.2]; exact hP
  · simp only [upd, if_neg hq]; exact h2 i hi
theorem t_iastR {Γ : TG} {a t0 L : Nat} {cA : ClassId} {lo hi : Int} {x y : Int} (ht : Tw Γ hp) (hΓ : Γ a = some (tI cA L (rg lo hi))) (hd : decode M.2.1 pc = .ok (.iastore, 1)) (hty : (g_ty G)[t0]? = some (cA, .int)) (hL : L ≤ 2147483647) (hb : -2147483648 ≤ lo ∧ hi ≤ 2147483647) (hx : 0 ≤ x ∧ x < (L : Int)) (hP : lo ≤ y ∧ y ≤ hi) (kk : ∀ hp1 : MH, Tw Γ hp1 → Rn G M d (pc + 1) lv st hp1 n kr wr Po) : Rn G M d pc lv (.int (iv y) :: .int (iv x) :: .ref a :: st) hp n kr wr Po :=
  t_iast ht hΓ hd hty hL hx (by omega) hP kk
theorem t_zastR {Γ : TG} {a t0 L : Nat} {cA : ClassId} {x y : Int} (ht : Tw Γ hp) (hΓ : Γ a = some (tI cA L (rg 0 1))) (hd : decode M.2.1 pc = .ok (.bastore, 1)) (hty : (g_ty G)[t0]? = some (cA, .boolean)) (hL : L ≤ 2147483647) (hx : 0 ≤ x ∧ x < (L : Int)) (hP : 0 ≤ y ∧ y ≤ 1) (kk : ∀ hp1 : MH, Tw Γ hp1 → Rn G M d (pc + 1) lv st hp1 n kr wr Po) : Rn G M d pc lv (.int (iv y) :: .int (iv x) :: .ref a :: st) hp n kr wr Po := by
  obtain ⟨e, h1, f, rfl, h2⟩ := rd_at ht (rd_of hΓ)
  refine w_zast (f' := upd f x.toNat (iv y)) hd hty h1 (iv_in hx hL) (by rw [iv_clamp hx.1 (by omega), iv_vnar hP]) (fun hp1 h3 h4 => kk hp1 (ht.set hΓ h3 ⟨_, rfl, fun i hi => ?_⟩ h4))
  by_cases hq : i = x.toNat
  · subst hq; simp only [upd, if_pos]; rw [iv_toInt (by omega) (by omega)]; exact hP
  · simp only [upd, if_neg hq]; exact h2 i hi
theorem t_last {Γ : TG} {a t0 L : Nat} {cA : ClassId} {P : Nat → Int64 → Prop} {x : Int} {y : Int64} (ht : Tw Γ hp) (hΓ : Γ a = some (tJ cA L P)) (hd : decode M.2.1 pc = .ok (.lastore, 1)) (hty : (g_ty G)[t0]? = some (cA, .long)) (hL : L ≤ 2147483647) (hx : 0 ≤ x ∧ x < (L : Int)) (hP : P x.toNat y) (kk : ∀ hp1 : MH, Tw Γ hp1 → Rn G M d (pc + 1) lv st hp1 n kr wr Po) : Rn G M d pc lv (.long y :: .int (iv x) :: .ref a :: st) hp n kr wr Po := by
  obtain ⟨e, h1, f, rfl, h2⟩ := rd_at ht (rd_of hΓ)
  refine w_last (f' := vp_updL f x.toNat y) hd hty h1 (iv_in hx hL) (by rw [iv_clamp hx.1 (by omega)]) (fun hp1 h3 h4 => kk hp1 (ht.set hΓ h3 ⟨_, rfl, fun i hi => ?_⟩ h4))
  by_cases hq : i = x.toNat
  · subst hq; simp only [vp_updL, if_pos]; exact hP
  · simp only [vp_updL, if_neg hq]; exact h2 i hi
theorem t_lenI {Γ : TG} {a t0 L : Nat} {cA : ClassId} {P : Nat → Int → Prop} {ty : FieldType} (ht : Tw Γ hp) (hΓ : rd Γ a (tI cA L P)) (hd : decode M.2.1 pc = .ok (.arraylength, 1)) (hty : (g_ty G)[t0]? = some (cA, ty)) (kk : Rn G M d (pc + 1) lv (.int (iv (L : Int)) :: st) hp n kr wr Po) : Rn G M d pc lv (.ref a :: st) hp n kr wr Po := by
  obtain ⟨e, h1, f, rfl, h2⟩ := rd_at ht hΓ
  exact r_alen hd hty h1 (by rw [nI_iv]; exact kk)
theorem t_lenJ {Γ : TG} {a t0 L : Nat} {cA : ClassId} {P : Nat → Int64 → Prop} {ty : FieldType} (ht : Tw Γ hp) (hΓ : rd Γ a (tJ cA L P)) (hd : decode M.2.1 pc = .ok (.arraylength, 1)) (hty : (g_ty G)[t0]? = some (cA, ty)) (kk : Rn G M d (pc + 1) lv (.int (iv (L : Int)) :: st) hp n kr wr Po) : Rn G M d pc lv (.ref a :: st) hp n kr wr Po := by
  obtain ⟨e, h1, f, rfl, h2⟩ := rd_at ht hΓ
  exact r_alen hd hty h1 (by rw [nI_iv]; exact kk)
theorem t_getE {Γ : TG} {ix ci k a : Nat} {ref Cn : String} {T : u_T} {N : Nat} {Fs : List (Value → Prop)} (w : Value) (ht : Tw Γ hp) (hΓ : rd Γ a (tO ci Fs)) (F : lkF G M.1.cls ix ci k ref Cn T N) (hd : decode M.2.1 pc = .ok (.getfield ix, 3)) (hv : Fs[k]? = some (fE w)) (kk : Rn G M d (pc + 3) lv (w :: st) hp n kr wr Po) : Rn G M d pc lv (.ref a :: st) hp n kr wr Po := by
  obtain ⟨e, h1, fs, rfl, -, h3⟩ := rd_at ht hΓ
  obtain ⟨v, h4, h5⟩ := h3 k _ hv
  have h6 : v = w := h5
  subst h6
  exact r_get F hd h1 h4 kk
theorem t_getI {Γ : TG} {ix ci k a : Nat} {ref Cn : String} {T : u_T} {N : Nat} {Fs : List (Value → Prop)} {lo hi : Int} (ht : Tw Γ hp) (hΓ : rd Γ a (tO ci Fs)) (F : lkF G M.1.cls ix ci k ref Cn T N) (hd : decode M.2.1 pc = .ok (.getfield ix, 3)) (hv : Fs[k]? = some (fI lo hi)) (kk : ∀ y : Int, lo ≤ y ∧ y ≤ hi → Rn G M d (pc + 3) lv (.int (iv y) :: st) hp n kr wr Po) : Rn G M d pc lv (.ref a :: st) hp n kr wr Po := by
  obtain ⟨e, h1, fs, rfl, -, h3⟩ := rd_at ht hΓ
  obtain ⟨v, h4, y, rfl, h5⟩ := h3 k _ hv
  exact r_get F hd h1 h4 (kk y h5)
theorem t_obj {Γ : TG} {ci a : Nat} {Fs : List (Value → Prop)} (ht : Tw Γ hp) (hΓ : rd Γ a (tO ci Fs)) : ∃ fs : List Value, hp a = some (.inr (ci, fs)) := by
  obtain ⟨e, h1, fs, rfl, -⟩ := rd_at ht hΓ
  exact ⟨fs, h1⟩
theorem t_callVR {Γ : TG} {st0 : List Value} {ix d' na b ci : Nat} {q : vw_C} {Fs : List (Value → Prop)} {M' : MM} {as : List Value} {lo hi : Int} (ht : Tw Γ hp) (hΓ : rd Γ b (tO ci Fs)) (F : lkK G M.1.cls ix M' na ∧ Cond.instanceMethod M'.1 ∈ g_ws G ∧ Cond.selects q.1 M'.1 M'.1 ∈ g_ws G ∧ M'.1.cls = q.1) (hc : (g_cl G)[ci]? = some q) (hd : decode M.2.1 pc = .ok (.invokevirtual ix, 3)) (hm : Mt G M' d' 0 0 (.ref b :: as) hp n (pR Γ n lo hi)) (ha : as.length = na) (hdd : d' + 1 ≤ d) (hst : (st.map fun v => v.category).sum ≤ 8) (hs0 : st0 = as.reverse ++ .ref b :: st) (kk : ∀ (hp1 : MH) (y : Int), Tw Γ hp1 → lo ≤ y ∧ y ≤ hi → Rn G M d (pc + 3) lv (.int (iv y) :: st) hp1 n kr wr Po) : Rn G M d pc lv st0 hp n kr wr Po := by
  obtain ⟨fs, hb⟩ := t_obj ht hΓ
  refine r_callV F hc hd hb hm ha hdd hst (Nat.zero_le _) (Nat.zero_le _) hs0 (fun r hp1 n1 hq => ?_)
  obtain ⟨h1, h2, y, h3, h4⟩ := hq
  subst h1 h3
  exact kk hp1 y h2 h4
theorem t_callSR {Γ : TG} {st0 : List Value} {ix d' na : Nat} {M' : MM} {as : List Value} {lo hi : Int} (F : lkK G M.1.cls ix M' na ∧ Cond.static M'.1 ∈ g_ws G) (hd : decode M.2.1 pc = .ok (.invokestatic ix, 3)) (hm : Mt G M' d' 0 0 as hp n (pR Γ n lo hi)) (ha : as.length = na) (hdd : d' + 1 ≤ d) (hst : (st.map fun v => v.category).sum ≤ 8) (hs0 : st0 = as.reverse ++ st) (kk : ∀ (hp1 : MH) (y : Int), Tw Γ hp1 → lo ≤ y ∧ y ≤ hi → Rn G M d (pc + 3) lv (.int (iv y) :: st) hp1 n kr wr Po) : Rn G M d pc lv st0 hp n kr wr Po := by
  refine r_callS F hd hm ha hdd hst (Nat.zero_le _) (Nat.zero_le _) hs0 (fun r hp1 n1 hq => ?_)
  obtain ⟨h1, h2, y, h3, h4⟩ := hq
  subst h1 h3
  exact kk hp1 y h2 h4
theorem t_callVI {Γ : TG} {st0 : List Value} {ix d' na b ci : Nat} {q : vw_C} {Fs : List (Value → Prop)} {M' : MM} {as : List Value} {Q : Int → Prop} (ht : Tw Γ hp) (hΓ : rd Γ b (tO ci Fs)) (F : lkK G M.1.cls ix M' na ∧ Cond.instanceMethod M'.1 ∈ g_ws G ∧ Cond.selects q.1 M'.1 M'.1 ∈ g_ws G ∧ M'.1.cls = q.1) (hc : (g_cl G)[ci]? = some q) (hd : decode M.2.1 pc = .ok (.invokevirtual ix, 3)) (hm : Mt G M' d' 0 0 (.ref b :: as) hp n (pI Γ n Q)) (ha : as.length = na) (hdd : d' + 1 ≤ d) (hst : (st.map fun v => v.category).sum ≤ 8) (hs0 : st0 = as.reverse ++ .ref b :: st) (kk : ∀ (hp1 : MH) (y : Int), Tw Γ hp1 → Q y → Rn G M d (pc + 3) lv (.int (iv y) :: st) hp1 n kr wr Po) : Rn G M d pc lv st0 hp n kr wr Po := by
  obtain ⟨fs, hb⟩ := t_obj ht hΓ
  refine r_callV F hc hd hb hm ha hdd hst (Nat.zero_le _) (Nat.zero_le _) hs0 (fun r hp1 n1 hq => ?_)
  obtain ⟨h1, h2, y, h3, h4⟩ := hq
  subst h1 h3
  exact kk hp1 y h2 h4
theorem t_callSI {Γ : TG} {st0 : List Value} {ix d' na : Nat} {M' : MM} {as : List Value} {Q : Int → Prop} (F : lkK G M.1.cls ix M' na ∧ Cond.static M'.1 ∈ g_ws G) (hd : decode M.2.1 pc = .ok (.invokestatic ix, 3)) (hm : Mt G M' d' 0 0 as hp n (pI Γ n Q)) (ha : as.length = na) (hdd : d' + 1 ≤ d) (hst : (st.map fun v => v.category).sum ≤ 8) (hs0 : st0 = as.reverse ++ st) (kk : ∀ (hp1 : MH) (y : Int), Tw Γ hp1 → Q y → Rn G M d (pc + 3) lv (.int (iv y) :: st) hp1 n kr wr Po) : Rn G M d pc lv st0 hp n kr wr Po := by
  refine r_callS F hd hm ha hdd hst (Nat.zero_le _) (Nat.zero_le _) hs0 (fun r hp1 n1 hq => ?_)
  obtain ⟨h1, h2, y, h3, h4⟩ := hq
  subst h1 h3
  exact kk hp1 y h2 h4
theorem t_callVJ {Γ : TG} {st0 : List Value} {ix d' na b ci : Nat} {q : vw_C} {Fs : List (Value → Prop)} {M' : MM} {as : List Value} {Q : Int64 → Prop} (ht : Tw Γ hp) (hΓ : rd Γ b (tO ci Fs)) (F : lkK G M.1.cls ix M' na ∧ Cond.instanceMethod M'.1 ∈ g_ws G ∧ Cond.selects q.1 M'.1 M'.1 ∈ g_ws G ∧ M'.1.cls = q.1) (hc : (g_cl G)[ci]? = some q) (hd : decode M.2.1 pc = .ok (.invokevirtual ix, 3)) (hm : Mt G M' d' 0 0 (.ref b :: as) hp n (pJ Γ n Q)) (ha : as.length = na) (hdd : d' + 1 ≤ d) (hst : (st.map fun v => v.category).sum ≤ 8) (hs0 : st0 = as.reverse ++ .ref b :: st) (kk : ∀ (hp1 : MH) (y : Int64), Tw Γ hp1 → Q y → Rn G M d (pc + 3) lv (.long y :: st) hp1 n kr wr Po) : Rn G M d pc lv st0 hp n kr wr Po := by
  obtain ⟨fs, hb⟩ := t_obj ht hΓ
  refine r_callV F hc hd hb hm ha hdd hst (Nat.zero_le _) (Nat.zero_le _) hs0 (fun r hp1 n1 hq => ?_)
  obtain ⟨h1, h2, y, h3, h4⟩ := hq
  subst h1 h3
  exact kk hp1 y h2 h4
theorem t_callSJ {Γ : TG} {st0 : List Value} {ix d' na : Nat} {M' : MM} {as : List Value} {Q : Int64 → Prop} (F : lkK G M.1.cls ix M' na ∧ Cond.static M'.1 ∈ g_ws G) (hd : decode M.2.1 pc = .ok (.invokestatic ix, 3)) (hm : Mt G M' d' 0 0 as hp n (pJ Γ n Q)) (ha : as.length = na) (hdd : d' + 1 ≤ d) (hst : (st.map fun v => v.category).sum ≤ 8) (hs0 : st0 = as.reverse ++ st) (kk : ∀ (hp1 : MH) (y : Int64), Tw Γ hp1 → Q y → Rn G M d (pc + 3) lv (.long y :: st) hp1 n kr wr Po) : Rn G M d pc lv st0 hp n kr wr Po := by
  refine r_callS F hd hm ha hdd hst (Nat.zero_le _) (Nat.zero_le _) hs0 (fun r hp1 n1 hq => ?_)
  obtain ⟨h1, h2, y, h3, h4⟩ := hq
  subst h1 h3
  exact kk hp1 y h2 h4
theorem t_callVV {Γ : TG} {st0 : List Value} {ix d' na b ci : Nat} {q : vw_C} {Fs : List (Value → Prop)} {M' : MM} {as : List Value} (ht : Tw Γ hp) (hΓ : rd Γ b (tO ci Fs)) (F : lkK G M.1.cls ix M' na ∧ Cond.instanceMethod M'.1 ∈ g_ws G ∧ Cond.selects q.1 M'.1 M'.1 ∈ g_ws G ∧ M'.1.cls = q.1) (hc : (g_cl G)[ci]? = some q) (hd : decode M.2.1 pc = .ok (.invokevirtual ix, 3)) (hm : Mt G M' d' 0 0 (.ref b :: as) hp n (pV Γ n)) (ha : as.length = na) (hdd : d' + 1 ≤ d) (hst : (st.map fun v => v.category).sum ≤ 8) (hs0 : st0 = as.reverse ++ .ref b :: st) (kk : ∀ (hp1 : MH), Tw Γ hp1 → Rn G M d (pc + 3) lv st hp1 n kr wr Po) : Rn G M d pc lv st0 hp n kr wr Po := by
  obtain ⟨fs, hb⟩ := t_obj ht hΓ
  refine r_callV F hc hd hb hm ha hdd hst (Nat.zero_le _) (Nat.zero_le _) hs0 (fun r hp1 n1 hq => ?_)
  obtain ⟨h1, h2, h3⟩ := hq
  subst h1 h3
  exact kk hp1 h2
theorem t_callSV {Γ : TG} {st0 : List Value} {ix d' na : Nat} {M' : MM} {as : List Value} (F : lkK G M.1.cls ix M' na ∧ Cond.static M'.1 ∈ g_ws G) (hd : decode M.2.1 pc = .ok (.invokestatic ix, 3)) (hm : Mt G M' d' 0 0 as hp n (pV Γ n)) (ha : as.length = na) (hdd : d' + 1 ≤ d) (hst : (st.map fun v => v.category).sum ≤ 8) (hs0 : st0 = as.reverse ++ st) (kk : ∀ (hp1 : MH), Tw Γ hp1 → Rn G M d (pc + 3) lv st hp1 n kr wr Po) : Rn G M d pc lv st0 hp n kr wr Po := by
  refine r_callS F hd hm ha hdd hst (Nat.zero_le _) (Nat.zero_le _) hs0 (fun r hp1 n1 hq => ?_)
  obtain ⟨h1, h2, h3⟩ := hq
  subst h1 h3
  exact kk hp1 h2
end TR
