/-- no divisor from d on, k of them -/
def chk9 (p : Nat) : Nat → Nat → Bool
  | 0, _ => true
  | k + 1, d => (p % d != 0) && chk9 p k (d + 1)
theorem chk9_t {p : Nat} : ∀ {k d : Nat}, chk9 p k d = true → ∀ x, d ≤ x → x < d + k → p % x ≠ 0
  | 0, d, _, x, h1, h2 => by omega
  | k + 1, d, h, x, h1, h2 => by
    have h3 : ((p % d != 0) && chk9 p k (d + 1)) = true := h
    rw [Bool.and_eq_true] at h3
    by_cases e : x = d
    · rw [e]; exact bne_iff_ne.mp h3.1
    · exact chk9_t h3.2 x (by omega) (by omega)
theorem pr_0 : chk9 1000000007 2000 2 = true := by decide +kernel
theorem pr_1 : chk9 1000000007 2000 2002 = true := by decide +kernel
theorem pr_2 : chk9 1000000007 2000 4002 = true := by decide +kernel
theorem pr_3 : chk9 1000000007 2000 6002 = true := by decide +kernel
theorem pr_4 : chk9 1000000007 2000 8002 = true := by decide +kernel
theorem pr_5 : chk9 1000000007 2000 10002 = true := by decide +kernel
theorem pr_6 : chk9 1000000007 2000 12002 = true := by decide +kernel
theorem pr_7 : chk9 1000000007 2000 14002 = true := by decide +kernel
theorem pr_8 : chk9 1000000007 2000 16002 = true := by decide +kernel
theorem pr_9 : chk9 1000000007 2000 18002 = true := by decide +kernel
theorem pr_10 : chk9 1000000007 2000 20002 = true := by decide +kernel
theorem pr_11 : chk9 1000000007 2000 22002 = true := by decide +kernel
theorem pr_12 : chk9 1000000007 2000 24002 = true := by decide +kernel
theorem pr_13 : chk9 1000000007 2000 26002 = true := by decide +kernel
theorem pr_14 : chk9 1000000007 2000 28002 = true := by decide +kernel
theorem pr_15 : chk9 1000000007 2000 30002 = true := by decide +kernel
theorem pr_nd (x : Nat) (h1 : 2 ≤ x) (h2 : x ≤ 31622) : 1000000007 % x ≠ 0 := by
  by_cases c0 : x < 2002
  · exact chk9_t pr_0 x (by omega) (by omega)
  by_cases c1 : x < 4002
  · exact chk9_t pr_1 x (by omega) (by omega)
  by_cases c2 : x < 6002
  · exact chk9_t pr_2 x (by omega) (by omega)
  by_cases c3 : x < 8002
  · exact chk9_t pr_3 x (by omega) (by omega)
  by_cases c4 : x < 10002
  · exact chk9_t pr_4 x (by omega) (by omega)
  by_cases c5 : x < 12002
  · exact chk9_t pr_5 x (by omega) (by omega)
  by_cases c6 : x < 14002
  · exact chk9_t pr_6 x (by omega) (by omega)
  by_cases c7 : x < 16002
  · exact chk9_t pr_7 x (by omega) (by omega)
  by_cases c8 : x < 18002
  · exact chk9_t pr_8 x (by omega) (by omega)
  by_cases c9 : x < 20002
  · exact chk9_t pr_9 x (by omega) (by omega)
  by_cases c10 : x < 22002
  · exact chk9_t pr_10 x (by omega) (by omega)
  by_cases c11 : x < 24002
  · exact chk9_t pr_11 x (by omega) (by omega)
  by_cases c12 : x < 26002
  · exact chk9_t pr_12 x (by omega) (by omega)
  by_cases c13 : x < 28002
  · exact chk9_t pr_13 x (by omega) (by omega)
  by_cases c14 : x < 30002
  · exact chk9_t pr_14 x (by omega) (by omega)
  · exact chk9_t pr_15 x (by omega) (by omega)
theorem pr_p (x : Nat) (h : x ∣ 1000000007) : x = 1 ∨ x = 1000000007 := by
  obtain ⟨y, e⟩ := h
  have hx0 : x ≠ 0 := fun q => by rw [q, Nat.zero_mul] at e; omega
  have hy0 : y ≠ 0 := fun q => by rw [q, Nat.mul_zero] at e; omega
  by_cases c : x ≤ 31622
  · by_cases c1 : x = 1
    · exact Or.inl c1
    · exact absurd (by rw [e]; exact Nat.mul_mod_right x y) (pr_nd x (by omega) c)
  · by_cases c2 : y ≤ 31622
    · by_cases c1 : y = 1
      · rw [c1, Nat.mul_one] at e; exact Or.inr e.symm
      · exact absurd (by rw [e]; exact Nat.mul_mod_left x y) (pr_nd y (by omega) c2)
    · exfalso
      have h1 : 31623 * 31623 ≤ x * y := Nat.mul_le_mul (by omega) (by omega)
      omega
section FM
variable {p : Nat}
theorem pr_dv (hp : ∀ x, x ∣ p → x = 1 ∨ x = p) {a b : Nat} (h : p ∣ a * b) : p ∣ a ∨ p ∣ b := by
  rcases hp (Nat.gcd p a) (Nat.gcd_dvd_left p a) with g | g
  · exact Or.inr (Nat.Coprime.dvd_of_dvd_mul_left (show Nat.Coprime p a from g) h)
  · exact Or.inl (by have := Nat.gcd_dvd_right p a; rw [g] at this; exact this)
theorem pr_fc (hp : ∀ x, x ∣ p → x = 1 ∨ x = p) (h1 : 1 < p) : ∀ n, n < p → ¬ p ∣ gsm (fun a b : Nat => a * b) 1 (fun i => i + 1) n
  | 0, _, h => by
    have := Nat.le_of_dvd (by decide) (show p ∣ 1 from h)
    omega
  | n + 1, hn, h => by
    rcases pr_dv hp (show p ∣ gsm (fun a b : Nat => a * b) 1 (fun i => i + 1) n * (n + 1) from h) with g | g
    · exact pr_fc hp h1 n (by omega) g
    · have := Nat.le_of_dvd (by omega) g
      omega
theorem pr_pw {a : Nat} : ∀ n : Nat, gsm (fun a b : Nat => a * b) 1 (fun i => (a * (i + 1)) % p) n % p = (a ^ n * gsm (fun a b : Nat => a * b) 1 (fun i => i + 1) n) % p
  | 0 => by show 1 % p = (1 * 1) % p; rfl
  | n + 1 => by
    show (gsm (fun a b : Nat => a * b) 1 (fun i => (a * (i + 1)) % p) n * ((a * (n + 1)) % p)) % p = (a ^ (n + 1) * (gsm (fun a b : Nat => a * b) 1 (fun i => i + 1) n * (n + 1))) % p
    rw [Nat.mul_mod, pr_pw n, Nat.mod_mod, ← Nat.mul_mod, Nat.pow_succ]
    congr 1
    rw [Nat.mul_assoc, Nat.mul_assoc, Nat.mul_left_comm (gsm (fun a b : Nat => a * b) 1 (fun i => i + 1) n) a (n + 1)]
theorem fermat (hp : ∀ x, x ∣ p → x = 1 ∨ x = p) (h1 : 1 < p) {a : Nat} (ha : ¬ p ∣ a) : a ^ (p - 1) % p = 1 := by
  have hpos : ∀ i, i < p - 1 → 0 < (a * (i + 1)) % p := fun i hi => Nat.pos_of_ne_zero (fun e => by
    rcases pr_dv hp (Nat.dvd_of_mod_eq_zero e) with g | g
    · exact ha g
    · have := Nat.le_of_dvd (by omega) g
      omega)
  have hlt : ∀ i, (a * (i + 1)) % p < p := fun i => Nat.mod_lt _ (by omega)
  have hinj : ∀ i j, i < p - 1 → j < p - 1 → i < j → (a * (i + 1)) % p ≠ (a * (j + 1)) % p := fun i j hi hj hij e => by
    have e1 := Nat.dvd_of_mod_eq_zero (Nat.sub_mod_eq_zero_of_mod_eq e.symm)
    rw [← Nat.mul_sub] at e1
    rcases pr_dv hp e1 with g | g
    · exact ha g
    · have := Nat.le_of_dvd (by omega) g
      omega
  have hpm := gsm_pm (ad := fun a b : Nat => a * b) (z := 1) Nat.mul_comm Nat.mul_assoc Nat.mul_one (f := fun i => (a * (i + 1)) % p) (g := fun i => i + 1) (n := p - 1) (σ := fun i => (a * (i + 1)) % p - 1) (fun i hi => by
    have := hpos i hi
    have := hlt i
    show (a * (i + 1)) % p - 1 < p - 1
    omega) (fun i j hi hj e => by
    have e1 : (a * (i + 1)) % p - 1 = (a * (j + 1)) % p - 1 := e
    have q1 := hpos i hi
    have q2 := hpos j hj
    by_cases c : i < j
    · exact absurd (by omega) (hinj i j hi hj c)
    · by_cases c1 : j < i
      · exact absurd (by omega) (hinj j i hj hi c1)
      · omega) (fun i hi => by
    have := hpos i hi
    show (a * (i + 1)) % p - 1 + 1 = (a * (i + 1)) % p
    omega)
  have e := pr_pw (p := p) (a := a) (p - 1)
  rw [← hpm] at e
  have hQ := pr_fc hp h1 (p - 1) (by omega)
  generalize gsm (fun a b : Nat => a * b) 1 (fun i => i + 1) (p - 1) = Q at e hQ
  have e2 := Nat.dvd_of_mod_eq_zero (Nat.sub_mod_eq_zero_of_mod_eq e.symm)
  have hap : 0 < a ^ (p - 1) := Nat.pow_pos (Nat.pos_of_ne_zero (fun q => ha (by rw [q]; exact Nat.dvd_zero p)))
  rw [show a ^ (p - 1) * Q - Q = (a ^ (p - 1) - 1) * Q by rw [Nat.sub_mul, Nat.one_mul]] at e2
  rcases pr_dv hp e2 with g | g
  · obtain ⟨c, hc⟩ := g
    have e3 : a ^ (p - 1) = p * c + 1 := by omega
    rw [e3, Nat.mul_add_mod]
    exact Nat.mod_eq_of_lt h1
  · exact absurd g hQ
end FM
theorem inv_g {p e : Nat} (hp : ∀ x, x ∣ p → x = 1 ∨ x = p) (h1 : 1 < p) (he : e + 2 = p) {a : Nat} (ha : 0 < a) (hap : a < p) : a * (a ^ e % p) % p = 1 := by
  have hd : ¬ p ∣ a := fun g => by
    have := Nat.le_of_dvd ha g
    omega
  have f := fermat hp h1 hd
  rw [show p - 1 = e + 1 by omega] at f
  rw [Nat.mul_mod_mod, Nat.mul_comm, ← Nat.pow_succ]
  exact f
/-- a power, for a modulus -/
def pwI (e p : Nat) (h : Int) : Int := ((h.toNat ^ e % p : Nat) : Int)
theorem pwi_b {e p : Nat} {h : Int} (hp : 0 < p) : 0 ≤ pwI e p h ∧ pwI e p h < (p : Int) := by
  unfold pwI
  have := Nat.mod_lt (h.toNat ^ e) hp
  generalize h.toNat ^ e % p = z at this ⊢
  omega
/-- the last power is the inverse -/
theorem inv9 {h : Int} (h0 : 0 < h) (hp : h < 1000000007) : (h * pwI 1000000005 1000000007 h) % 1000000007 = 1 := by
  obtain ⟨a, rfl⟩ : ∃ a : Nat, h = (a : Int) := ⟨h.toNat, by omega⟩
  have f := inv_g (p := 1000000007) (e := 1000000005) pr_p (by decide) (by decide) (a := a) (by omega) (by omega)
  unfold pwI
  rw [Int.toNat_natCast, ← Int.natCast_mul]
  generalize a * (a ^ 1000000005 % 1000000007) = z at f ⊢
  omega
/-- result and square behind k bits -/
def pwJ (B E : Nat) (r q : Int) (k : Nat) : Prop := r = ((B ^ (E % 2 ^ k) % 1000000007 : Nat) : Int) ∧ q = ((B ^ (2 ^ k) % 1000000007 : Nat) : Int)
theorem pwj_b {B E k : Nat} {r q : Int} (h : pwJ B E r q k) : (0 ≤ r ∧ r < 1000000007) ∧ 0 ≤ q ∧ q < 1000000007 := by
  obtain ⟨h1, h2⟩ := h
  have a1 := Nat.mod_lt (B ^ (E % 2 ^ k)) (show 0 < 1000000007 by decide)
  have a2 := Nat.mod_lt (B ^ (2 ^ k)) (show 0 < 1000000007 by decide)
  generalize B ^ (E % 2 ^ k) % 1000000007 = x at h1 a1
  generalize B ^ (2 ^ k) % 1000000007 = y at h2 a2
  omega
theorem pwj_0 {B E : Nat} {r q : Int} (hr : r = 1) (hq : q = (B : Int)) (hB : B < 1000000007) : pwJ B E r q 0 := by
  refine ⟨?_, ?_⟩
  · rw [hr, Nat.pow_zero, Nat.mod_one, Nat.pow_zero]; rfl
  · rw [hq, Nat.pow_zero, Nat.pow_one, Nat.mod_eq_of_lt hB]
theorem nat_mm {a b p : Nat} {x y : Int} (hx : x = ((a % p : Nat) : Int)) (hy : y = ((b % p : Nat) : Int)) : x * y % (p : Int) = ((a * b % p : Nat) : Int) := by
  rw [hx, hy, ← Int.natCast_mul, ← Int.natCast_emod, ← Nat.mul_mod]
theorem pw_bit {E k : Nat} : E % 2 ^ (k + 1) = E % 2 ^ k + 2 ^ k * (if E.testBit k = true then 1 else 0) := by
  rw [Nat.mod_pow_succ, Nat.testBit_eq_decide_div_mod_eq]
  congr 2
  by_cases c : E / 2 ^ k % 2 = 1
  · rw [c, decide_eq_true rfl, if_pos rfl]
  · rw [decide_eq_false c, if_neg Bool.false_ne_true]; omega
theorem pwj_q {B k : Nat} {q q1 : Int} (h : q = ((B ^ (2 ^ k) % 1000000007 : Nat) : Int)) (h1 : q1 = q * q % 1000000007) : q1 = ((B ^ (2 ^ (k + 1)) % 1000000007 : Nat) : Int) := by
  have e := nat_mm (p := 1000000007) h h
  rw [h1, Nat.pow_succ 2 k, Nat.mul_two, Nat.pow_add]
  exact e
theorem pwj_y {B E k : Nat} {r q r1 q1 : Int} (h : pwJ B E r q k) (hb : E.testBit k = true) (hr : r1 = r * q % 1000000007) (hq : q1 = q * q % 1000000007) : pwJ B E r1 q1 (k + 1) := by
  refine ⟨?_, pwj_q h.2 hq⟩
  have e := nat_mm (p := 1000000007) h.1 h.2
  rw [hr, pw_bit, if_pos hb, Nat.mul_one, Nat.pow_add]
  exact e
theorem pwj_n {B E k : Nat} {r q q1 : Int} (h : pwJ B E r q k) (hb : ¬ E.testBit k = true) (hq : q1 = q * q % 1000000007) : pwJ B E r q1 (k + 1) := by
  refine ⟨?_, pwj_q h.2 hq⟩
  rw [pw_bit, if_neg hb, Nat.mul_zero, Nat.add_zero]
  exact h.1
theorem pwj_e {B E : Nat} {r q : Int} (h : pwJ B E r q 31) (hE : E < 2 ^ 31) : r = pwI E 1000000007 (B : Int) := by
  unfold pwI
  rw [Int.toNat_natCast, h.1, Nat.mod_eq_of_lt hE]
theorem e9_bits : ∀ i, i < 31 → (MeL 1000000005 i ↔ (1000000005 : Nat).testBit i = true) := by
  have h : ∀ i, i < 31 → (1000000005 : Int64).toBitVec.getLsbD i = (1000000005 : Nat).testBit i := by decide +kernel
  intro i hi
  unfold MeL
  rw [h i hi]
