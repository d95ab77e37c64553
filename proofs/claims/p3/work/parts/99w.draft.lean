abbrev dfF (s : Nat) (kn kd ka : Int) : List (Value → Prop) := [fE (.int (iv kn)), fE (.int (iv kd)), fE (.int (iv ka)), fE (.ref (s + 1)), fE (.ref (s + 2)), fE (.ref (s + 3)), fE (.ref (s + 4)), fE (.ref (s + 5))]
def DGL (cI cJ cZ cT : ClassId) (s : Nat) (kn : Int) (kd : Int) (ka : Int) (kf : Nat → Int) (kt : Nat → Int) (kw : Nat → Int) (kc : Nat → Int) : List (va_E → Prop) := [tO 1 (dfF s kn kd ka), xI cI 60 kf, xI cI 60 kt, xI cI 60 kw, xI cI 60 kc, tI cI 256 (rg (-1000) 5000)]
def DG (Γ : TG) (cI cJ cZ cT : ClassId) (s : Nat) (kn : Int) (kd : Int) (ka : Int) (kf : Nat → Int) (kt : Nat → Int) (kw : Nat → Int) (kc : Nat → Int) : TG := fun q => if s ≤ q ∧ q < s + 6 then (DGL cI cJ cZ cT s kn kd ka kf kt kw kc)[q - s]? else Γ q
theorem DG_e {Γ : TG} {cI cJ cZ cT : ClassId} {s : Nat} {kn : Int} {kd : Int} {ka : Int} {kf : Nat → Int} {kt : Nat → Int} {kw : Nat → Int} {kc : Nat → Int} (j : Nat) {T : va_E → Prop} (hj : j < 6) (h : (DGL cI cJ cZ cT s kn kd ka kf kt kw kc)[j]? = some T) : DG Γ cI cJ cZ cT s kn kd ka kf kt kw kc (s + j) = some T := by
  unfold DG
  rw [if_pos (by omega), Nat.add_sub_cancel_left]
  exact h
theorem DG_o {Γ : TG} {cI cJ cZ cT : ClassId} {s : Nat} {kn : Int} {kd : Int} {ka : Int} {kf : Nat → Int} {kt : Nat → Int} {kw : Nat → Int} {kc : Nat → Int} {q : Nat} (h : q < s ∨ s + 6 ≤ q) : DG Γ cI cJ cZ cT s kn kd ka kf kt kw kc q = Γ q := by
  unfold DG
  rw [if_neg (by omega)]
theorem rd_DG {Γ : TG} {cI cJ cZ cT : ClassId} {s : Nat} {kn : Int} {kd : Int} {ka : Int} {kf : Nat → Int} {kt : Nat → Int} {kw : Nat → Int} {kc : Nat → Int} {q : Nat} {T : va_E → Prop} (h : q < s ∨ s + 6 ≤ q) (hr : rd Γ q T) : rd (DG Γ cI cJ cZ cT s kn kd ka kf kt kw kc) q T := by
  obtain ⟨T0, h0, h1⟩ := hr
  exact ⟨T0, by rw [DG_o h]; exact h0, h1⟩
theorem eq_DG {Γ : TG} {cI cJ cZ cT : ClassId} {s : Nat} {kn : Int} {kd : Int} {ka : Int} {kf : Nat → Int} {kt : Nat → Int} {kw : Nat → Int} {kc : Nat → Int} {q : Nat} {T : va_E → Prop} (h : q < s ∨ s + 6 ≤ q) (hr : Γ q = some T) : DG Γ cI cJ cZ cT s kn kd ka kf kt kw kc q = some T := by
  rw [DG_o h]; exact hr
theorem DG_w {Γ : TG} {cI cJ cZ cT : ClassId} {s : Nat} {kn : Int} {kd : Int} {ka : Int} {kf : Nat → Int} {kt : Nat → Int} {kw : Nat → Int} {kc : Nat → Int} {kn1 : Int} {kd1 : Int} {ka1 : Int} {kf1 : Nat → Int} {kt1 : Nat → Int} {kw1 : Nat → Int} {kc1 : Nat → Int} {hp : MH} (j : Nat) {T : va_E → Prop} (hj : j < 6) (h : DGL cI cJ cZ cT s kn1 kd1 ka1 kf1 kt1 kw1 kc1 = (DGL cI cJ cZ cT s kn kd ka kf kt kw kc).set j T) (ht : Tw (ov (DG Γ cI cJ cZ cT s kn kd ka kf kt kw kc) (s + j) T) hp) : Tw (DG Γ cI cJ cZ cT s kn1 kd1 ka1 kf1 kt1 kw1 kc1) hp := by
  have e : ov (DG Γ cI cJ cZ cT s kn kd ka kf kt kw kc) (s + j) T = DG Γ cI cJ cZ cT s kn1 kd1 ka1 kf1 kt1 kw1 kc1 := by
    funext q
    by_cases hq : q = s + j
    · subst hq
      rw [ov_s]
      unfold DG
      rw [if_pos (by omega), Nat.add_sub_cancel_left, h, List.getElem?_set_self (Nat.lt_of_lt_of_eq hj rfl)]
    · rw [ov_o _ _ hq]
      unfold DG
      by_cases hr : s ≤ q ∧ q < s + 6
      · rw [if_pos hr, if_pos hr, h, List.getElem?_set_ne (by omega)]
      · rw [if_neg hr, if_neg hr]
  rw [e] at ht
  exact ht
theorem DG_0 {Γ : TG} {cI cJ cZ cT : ClassId} {s : Nat} {kn : Int} {kd : Int} {ka : Int} {kf : Nat → Int} {kt : Nat → Int} {kw : Nat → Int} {kc : Nat → Int} : DG Γ cI cJ cZ cT s kn kd ka kf kt kw kc s = some (tO 1 (dfF s kn kd ka)) := DG_e 0 (by decide) rfl
theorem DG_1 {Γ : TG} {cI cJ cZ cT : ClassId} {s : Nat} {kn : Int} {kd : Int} {ka : Int} {kf : Nat → Int} {kt : Nat → Int} {kw : Nat → Int} {kc : Nat → Int} : DG Γ cI cJ cZ cT s kn kd ka kf kt kw kc (s + 1) = some (xI cI 60 kf) := DG_e 1 (by decide) rfl
theorem DG_2 {Γ : TG} {cI cJ cZ cT : ClassId} {s : Nat} {kn : Int} {kd : Int} {ka : Int} {kf : Nat → Int} {kt : Nat → Int} {kw : Nat → Int} {kc : Nat → Int} : DG Γ cI cJ cZ cT s kn kd ka kf kt kw kc (s + 2) = some (xI cI 60 kt) := DG_e 2 (by decide) rfl
theorem DG_3 {Γ : TG} {cI cJ cZ cT : ClassId} {s : Nat} {kn : Int} {kd : Int} {ka : Int} {kf : Nat → Int} {kt : Nat → Int} {kw : Nat → Int} {kc : Nat → Int} : DG Γ cI cJ cZ cT s kn kd ka kf kt kw kc (s + 3) = some (xI cI 60 kw) := DG_e 3 (by decide) rfl
theorem DG_4 {Γ : TG} {cI cJ cZ cT : ClassId} {s : Nat} {kn : Int} {kd : Int} {ka : Int} {kf : Nat → Int} {kt : Nat → Int} {kw : Nat → Int} {kc : Nat → Int} : DG Γ cI cJ cZ cT s kn kd ka kf kt kw kc (s + 4) = some (xI cI 60 kc) := DG_e 4 (by decide) rfl
theorem DG_5 {Γ : TG} {cI cJ cZ cT : ClassId} {s : Nat} {kn : Int} {kd : Int} {ka : Int} {kf : Nat → Int} {kt : Nat → Int} {kw : Nat → Int} {kc : Nat → Int} : DG Γ cI cJ cZ cT s kn kd ka kf kt kw kc (s + 5) = some (tI cI 256 (rg (-1000) 5000)) := DG_e 5 (by decide) rfl
theorem RGw_kf {Γ : TG} {cI cJ cZ cT : ClassId} {s : Nat} {kn : Int} {kd : Int} {ka : Int} {kf : Nat → Int} {kt : Nat → Int} {kw : Nat → Int} {kc : Nat → Int} {hp : MH} {f : Nat → Int} (ht : Tw (ov (DG Γ cI cJ cZ cT s kn kd ka kf kt kw kc) (s + 1) (xI cI 60 f)) hp) : Tw (DG Γ cI cJ cZ cT s kn kd ka f kt kw kc) hp := DG_w 1 (by decide) rfl ht
theorem RGw_kt {Γ : TG} {cI cJ cZ cT : ClassId} {s : Nat} {kn : Int} {kd : Int} {ka : Int} {kf : Nat → Int} {kt : Nat → Int} {kw : Nat → Int} {kc : Nat → Int} {hp : MH} {f : Nat → Int} (ht : Tw (ov (DG Γ cI cJ cZ cT s kn kd ka kf kt kw kc) (s + 2) (xI cI 60 f)) hp) : Tw (DG Γ cI cJ cZ cT s kn kd ka kf f kw kc) hp := DG_w 2 (by decide) rfl ht
theorem RGw_kw {Γ : TG} {cI cJ cZ cT : ClassId} {s : Nat} {kn : Int} {kd : Int} {ka : Int} {kf : Nat → Int} {kt : Nat → Int} {kw : Nat → Int} {kc : Nat → Int} {hp : MH} {f : Nat → Int} (ht : Tw (ov (DG Γ cI cJ cZ cT s kn kd ka kf kt kw kc) (s + 3) (xI cI 60 f)) hp) : Tw (DG Γ cI cJ cZ cT s kn kd ka kf kt f kc) hp := DG_w 3 (by decide) rfl ht
theorem RGw_kc {Γ : TG} {cI cJ cZ cT : ClassId} {s : Nat} {kn : Int} {kd : Int} {ka : Int} {kf : Nat → Int} {kt : Nat → Int} {kw : Nat → Int} {kc : Nat → Int} {hp : MH} {f : Nat → Int} (ht : Tw (ov (DG Γ cI cJ cZ cT s kn kd ka kf kt kw kc) (s + 4) (xI cI 60 f)) hp) : Tw (DG Γ cI cJ cZ cT s kn kd ka kf kt kw f) hp := DG_w 4 (by decide) rfl ht
theorem RGw_kn {Γ : TG} {cI cJ cZ cT : ClassId} {s : Nat} {kn : Int} {kd : Int} {ka : Int} {kf : Nat → Int} {kt : Nat → Int} {kw : Nat → Int} {kc : Nat → Int} {hp : MH} {f : Int} (ht : Tw (ov (DG Γ cI cJ cZ cT s kn kd ka kf kt kw kc) s (tO 1 ((dfF s kn kd ka).set 0 (fE (.int (iv f)))))) hp) : Tw (DG Γ cI cJ cZ cT s f kd ka kf kt kw kc) hp := DG_w 0 (by decide) rfl ht
theorem RGw_kd {Γ : TG} {cI cJ cZ cT : ClassId} {s : Nat} {kn : Int} {kd : Int} {ka : Int} {kf : Nat → Int} {kt : Nat → Int} {kw : Nat → Int} {kc : Nat → Int} {hp : MH} {f : Int} (ht : Tw (ov (DG Γ cI cJ cZ cT s kn kd ka kf kt kw kc) s (tO 1 ((dfF s kn kd ka).set 1 (fE (.int (iv f)))))) hp) : Tw (DG Γ cI cJ cZ cT s kn f ka kf kt kw kc) hp := DG_w 0 (by decide) rfl ht
theorem RGw_ka {Γ : TG} {cI cJ cZ cT : ClassId} {s : Nat} {kn : Int} {kd : Int} {ka : Int} {kf : Nat → Int} {kt : Nat → Int} {kw : Nat → Int} {kc : Nat → Int} {hp : MH} {f : Int} (ht : Tw (ov (DG Γ cI cJ cZ cT s kn kd ka kf kt kw kc) s (tO 1 ((dfF s kn kd ka).set 2 (fE (.int (iv f)))))) hp) : Tw (DG Γ cI cJ cZ cT s kn kd f kf kt kw kc) hp := DG_w 0 (by decide) rfl ht
theorem TyG.dg {Γ : TG} {cI cJ cZ cT : ClassId} {ga : Nat} {gF : Nat} {gT : Nat} {gW : Nat} {gC : Nat} {gTl : Nat} {gHd : Nat} {gBy : Nat} {gOu : Nat} {gIn : Nat} {gJo : Nat} {gn : Nat} {gm : Nat} {gq : Nat} {gdr : Int} {s : Nat} {kn : Int} {kd : Int} {ka : Int} {kf : Nat → Int} {kt : Nat → Int} {kw : Nat → Int} {kc : Nat → Int} (hlt : s + 6 ≤ ga ∧ s + 6 ≤ gF ∧ s + 6 ≤ gT ∧ s + 6 ≤ gW ∧ s + 6 ≤ gC ∧ s + 6 ≤ gTl ∧ s + 6 ≤ gHd ∧ s + 6 ≤ gBy ∧ s + 6 ≤ gOu ∧ s + 6 ≤ gIn ∧ s + 6 ≤ gJo) (h : TyG Γ cI cJ cZ ga gF gT gW gC gTl gHd gBy gOu gIn gJo gn gm gq gdr) : TyG (DG Γ cI cJ cZ cT s kn kd ka kf kt kw kc) cI cJ cZ ga gF gT gW gC gTl gHd gBy gOu gIn gJo gn gm gq gdr := ⟨rd_DG (by omega) h.1, rd_DG (by omega) h.2.1, rd_DG (by omega) h.2.2.1, rd_DG (by omega) h.2.2.2.1, rd_DG (by omega) h.2.2.2.2.1, rd_DG (by omega) h.2.2.2.2.2.1, rd_DG (by omega) h.2.2.2.2.2.2.1, rd_DG (by omega) h.2.2.2.2.2.2.2.1, rd_DG (by omega) h.2.2.2.2.2.2.2.2.1, rd_DG (by omega) h.2.2.2.2.2.2.2.2.2.1, rd_DG (by omega) h.2.2.2.2.2.2.2.2.2.2.1, h.2.2.2.2.2.2.2.2.2.2.2⟩
theorem ar_add {kf kt kw kc f1 t1 w1 c1 : Nat → Int} {ka k1 bb N p q w c : Int} (h : arP kf kt kw kc ka N) (h0 : 0 ≤ ka) (hp : 0 ≤ p ∧ p < N) (hq : 0 ≤ q ∧ q < N) (hw : -1000 ≤ w ∧ w ≤ 1000) (hc : -1000 ≤ c ∧ c ≤ 1000) (e3 : (bb = 1 ∧ ka < 60 ∧ k1 = ka + 1) ∨ (bb = 0 ∧ 60 ≤ ka ∧ k1 = ka)) (e1 : ka < 60 → f1 = fup kf (Int.toNat ka) p ∧ t1 = fup kt (Int.toNat ka) q ∧ w1 = fup kw (Int.toNat ka) w ∧ c1 = fup kc (Int.toNat ka) c) (e2 : 60 ≤ ka → f1 = kf ∧ t1 = kt ∧ w1 = kw ∧ c1 = kc) : arP f1 t1 w1 c1 k1 N := by
  by_cases hk : ka < 60
  · obtain ⟨a1, a2, a3, a4⟩ := e1 hk
    rw [a1, a2, a3, a4, show k1 = ka + 1 by omega]
    exact ar_up h h0 hp hq hw hc
  · obtain ⟨a1, a2, a3, a4⟩ := e2 (by omega)
    rw [a1, a2, a3, a4, show k1 = ka by omega]; exact h
def bcN (i : Nat) : Nat :=
  let i1 := i - ((i >>> 1) &&& 1431655765)
  let i2 := (i1 &&& 858993459) + ((i1 >>> 2) &&& 858993459)
  let i3 := (i2 + (i2 >>> 4)) &&& 252645135
  let i4 := i3 + (i3 >>> 8)
  let i5 := i4 + (i4 >>> 16)
  i5 &&& 63
def bcC (i : Nat) : Nat := i % 2 + (i >>> 1) % 2 + (i >>> 2) % 2 + (i >>> 3) % 2 + (i >>> 4) % 2 + (i >>> 5) % 2 + (i >>> 6) % 2 + (i >>> 7) % 2 + (i >>> 8) % 2 + (i >>> 9) % 2 + (i >>> 10) % 2 + (i >>> 11) % 2 + (i >>> 12) % 2 + (i >>> 13) % 2 + (i >>> 14) % 2 + (i >>> 15) % 2
theorem bcN_tab : (List.range 256).all (fun h => (List.range 256).all (fun l => Nat.beq (bcN (256 * h + l)) (bcC (256 * h + l)))) = true := by decide +kernel
theorem bcN_c {i : Nat} (hi : i < 65536) : bcN i = bcC i := by
  have h1 := List.all_eq_true.mp bcN_tab (i / 256) (List.mem_range.mpr (by omega))
  have h2 := List.all_eq_true.mp h1 (i % 256) (List.mem_range.mpr (by omega))
  have h3 := Nat.eq_of_beq_eq_true h2
  rw [show 256 * (i / 256) + i % 256 = i by omega] at h3
  exact h3
theorem bcC_I (x : Int) : ((bcC x.toNat : Nat) : Int) = bcI x 16 := by
  simp only [bcC, bcI, Nat.shiftRight_zero]
  omega
theorem bcN_I {x : Int} (h : 0 ≤ x ∧ x ≤ 65535) : ((bcN x.toNat : Nat) : Int) = bcI x 16 := by rw [bcN_c (by omega)]; exact bcC_I x
theorem bcI_lo {x y : Int} {v : Nat} (h : ∀ i, i < v → ((y.toNat >>> i : Nat) : Int) % 2 = ((x.toNat >>> i : Nat) : Int) % 2) : ∀ k, k ≤ v → bcI y k = bcI x k
  | 0, _ => rfl
  | k + 1, hk => by
    have e1 : bcI y (k + 1) = bcI y k + ((y.toNat >>> k : Nat) : Int) % 2 := rfl
    have e2 : bcI x (k + 1) = bcI x k + ((x.toNat >>> k : Nat) : Int) % 2 := rfl
    rw [e1, e2, bcI_lo h k (by omega), h k (by omega)]
theorem bcI_hi {y : Int} {v : Nat} (h : ∀ i, v ≤ i → ((y.toNat >>> i : Nat) : Int) % 2 = 0) : ∀ k, bcI y (v + k) = bcI y v
  | 0 => rfl
  | k + 1 => by
    have e1 : bcI y (v + k + 1) = bcI y (v + k) + ((y.toNat >>> (v + k) : Nat) : Int) % 2 := rfl
    have e2 : v + (k + 1) = v + k + 1 := by omega
    rw [e2, e1, bcI_hi h k, h (v + k) (by omega)]; omega
theorem bit_tb (x : Nat) (i : Nat) : ((x >>> i : Nat) : Int) % 2 = if x.testBit i then 1 else 0 := by
  have e : x.testBit i = decide ((x >>> i) % 2 = 1) := by rw [Nat.testBit_eq_decide_div_mod_eq, ← Nat.shiftRight_eq_div_pow]
  rw [e]
  by_cases h : (x >>> i) % 2 = 1
  · rw [if_pos (decide_eq_true h)]; omega
  · rw [if_neg (fun h9 => h (of_decide_eq_true h9))]; omega
theorem iv_fit {y : Int} (h : 0 ≤ y ∧ y ≤ 1) : fits .boolean (.int (iv y)) = true := by
  rcases (show y = 0 ∨ y = 1 by omega) with rfl | rfl <;> rfl
theorem bc_mask {x : Int} {v : Nat} (hv : v ≤ 16) : bcI (((x.toNat &&& (2 ^ v - 1) : Nat) : Int)) 16 = bcI x v := by
  have e : (((x.toNat &&& (2 ^ v - 1) : Nat) : Int)).toNat = x.toNat &&& (2 ^ v - 1) := by omega
  have h1 : ∀ i, i < v → (((((x.toNat &&& (2 ^ v - 1) : Nat) : Int)).toNat >>> i : Nat) : Int) % 2 = ((x.toNat >>> i : Nat) : Int) % 2 := fun i hi => by
    rw [e, bit_tb, bit_tb, Nat.testBit_and, Nat.testBit_two_pow_sub_one]; simp [hi]
  have h2 : ∀ i, v ≤ i → (((((x.toNat &&& (2 ^ v - 1) : Nat) : Int)).toNat >>> i : Nat) : Int) % 2 = 0 := fun i hi => by
    rw [e, bit_tb, Nat.testBit_and, Nat.testBit_two_pow_sub_one]
    have : ¬ i < v := by omega
    simp [this]
  have h3 := bcI_hi h2 (16 - v)
  rw [show v + (16 - v) = 16 by omega] at h3
  rw [h3]; exact bcI_lo h1 v (Nat.le_refl v)
theorem and2_b {p q : Nat} (h : ((p &&& q : Nat) : Int) % 2 ≠ 0) : (p : Int) % 2 = 1 ∧ (q : Int) % 2 = 1 := by
  have h0 := bit_tb (p &&& q) 0
  have h1 := bit_tb p 0
  have h2 := bit_tb q 0
  simp only [Nat.shiftRight_zero] at h0 h1 h2
  rw [h0, Nat.testBit_and] at h
  rw [h1, h2]
  by_cases a1 : p.testBit 0 <;> by_cases a2 : q.testBit 0 <;> simp [a1, a2] at h ⊢
theorem andn_0 {x c z : Int} (hz : iv x &&& iv (-c - 1) = iv z) (h0 : z = 0) (hc : 0 ≤ c ∧ c ≤ 65535) (hx : -2147483648 ≤ x ∧ x ≤ 2147483647) : 0 ≤ x ∧ x ≤ 65535 := by
  subst h0
  obtain ⟨m, rfl⟩ := Int.eq_ofNat_of_zero_le hc.1
  have hb : (iv x).toBitVec &&& ~~~ (BitVec.ofNat 32 m) = 0 := by
    have e1 : iv (-(m : Int) - 1) = ~~~ iv (m : Int) := by
      rw [Int32.not_eq_neg_sub]
      show Int32.ofInt (-(m : Int) - 1) = - Int32.ofInt (m : Int) - 1
      rw [Int32.ofInt_sub, Int32.ofInt_neg]; rfl
    rw [e1] at hz
    have e2 := congrArg Int32.toBitVec hz
    rw [Int32.toBitVec_and, Int32.toBitVec_not, iv_bv] at e2
    rw [e2]; rfl
  have h2 : (iv x).toBitVec.toNat ≤ m := by
    have h3 : ∀ i, (iv x).toBitVec.toNat.testBit i = true → m.testBit i = true := fun i hi => by
      have hl : i < 32 := by
        rcases Nat.lt_or_ge i 32 with h | h
        · exact h
        · exfalso
          rw [Nat.testBit_lt_two_pow (Nat.lt_of_lt_of_le (iv x).toBitVec.isLt (Nat.pow_le_pow_right (by omega) h))] at hi
          cases hi
      have h4 := congrArg (fun b : BitVec 32 => b.getLsbD i) hb
      simp only [BitVec.getLsbD_and, BitVec.getLsbD_not, BitVec.getLsbD_ofNat, hl, decide_true, Bool.true_and] at h4
      have h5 : (iv x).toBitVec.getLsbD i = true := hi
      rw [h5] at h4
      have h6 : (0 : BitVec 32).getLsbD i = false := by simp
      rw [h6] at h4
      by_cases hm : m.testBit i
      · exact hm
      · simp [hm] at h4
    have h7 : (iv x).toBitVec.toNat &&& m = (iv x).toBitVec.toNat := by
      apply Nat.eq_of_testBit_eq
      intro i
      rw [Nat.testBit_and]
      by_cases hi : (iv x).toBitVec.toNat.testBit i
      · rw [hi, h3 i hi]; rfl
      · simp [hi]
    rw [← h7]; exact Nat.and_le_right
  have h8 : (iv x).toInt = ((iv x).toBitVec.toNat : Int) := by
    show (iv x).toBitVec.toInt = _
    rw [BitVec.toInt_eq_toNat_of_lt (by omega)]
  rw [iv_toInt hx.1 hx.2] at h8
  omega
theorem ushr_k {a : Nat} (k : Nat) (hk : (((iv (k : Int)).toUInt32 &&& Int32.toUInt32 31).toBitVec % 32#32).toNat = k) (ha : a < 2 ^ 31) : ((iv (a : Int)).toUInt32 >>> ((iv (k : Int)).toUInt32 &&& Int32.toUInt32 31)).toInt32 = iv ((a >>> k : Nat) : Int) := by
  apply iv_ofbv
  show ((iv (a : Int)).toUInt32 >>> ((iv (k : Int)).toUInt32 &&& Int32.toUInt32 31)).toBitVec = BitVec.ofNat 32 (a >>> k)
  have hk' : (((iv (k : Int)).toUInt32 &&& Int32.toUInt32 31).toBitVec % 32).toNat = k := hk
  rw [UInt32.toBitVec_shiftRight, BitVec.ushiftRight_eq', hk']
  have e : (iv (a : Int)).toUInt32.toBitVec = BitVec.ofNat 32 a := iv_bv a
  rw [e]
  apply BitVec.eq_of_toNat_eq
  have h1 := shr_le a k
  rw [BitVec.toNat_ushiftRight, BitVec.toNat_ofNat, BitVec.toNat_ofNat, Nat.mod_eq_of_lt (show a < 2 ^ 32 by omega), Nat.mod_eq_of_lt (show a >>> k < 2 ^ 32 by omega)]
def TyP (Γ : TG) (cI cJ cZ : ClassId) (a : Nat) (N : Nat) (O : Nat) (n : Nat) (z : Nat) : Prop := rd Γ a (tO 5 [fE (.int (iv (n : Int))), fE (.int (iv (z : Int))), fE (.ref N), fE (.ref O)]) ∧ rd Γ N (tI cI n (rg 0 ((z : Int) - 1))) ∧ rd Γ O (tI cI n (rg 0 65535)) ∧ (1 ≤ n ∧ n ≤ 16 ∧ 1 ≤ z ∧ z ≤ n)
theorem TyP.ext {Γ Γ1 : TG} {cI cJ cZ : ClassId} {a : Nat} {N : Nat} {O : Nat} {n : Nat} {z : Nat} (hE : Ext Γ Γ1) (h : TyP Γ cI cJ cZ a N O n z) : TyP Γ1 cI cJ cZ a N O n z := ⟨rd_ext hE h.1, rd_ext hE h.2.1, rd_ext hE h.2.2.1, h.2.2.2⟩
theorem TyP.dg {Γ : TG} {cI cJ cZ cT : ClassId} {ga : Nat} {gN : Nat} {gO : Nat} {gn : Nat} {gz : Nat} {s : Nat} {kn : Int} {kd : Int} {ka : Int} {kf : Nat → Int} {kt : Nat → Int} {kw : Nat → Int} {kc : Nat → Int} (hlt : s + 6 ≤ ga ∧ s + 6 ≤ gN ∧ s + 6 ≤ gO) (h : TyP Γ cI cJ cZ ga gN gO gn gz) : TyP (DG Γ cI cJ cZ cT s kn kd ka kf kt kw kc) cI cJ cZ ga gN gO gn gz := ⟨rd_DG (by omega) h.1, rd_DG (by omega) h.2.1, rd_DG (by omega) h.2.2.1, h.2.2.2⟩
set_option maxHeartbeats 4000000 in
set_option maxRecDepth 100000 in
theorem t_bitCountN {D : va_G} {cI cJ cZ cT : ClassId} {lo b L : Nat} {xs : Nat → Int32} {hp : MH} {n d : Nat} {Γ : TG} {i0 : Nat} (hd0 : 0 ≤ d) (h0 : i0 < 65536) (ht : Tw Γ hp) : Mt (gG D cI cJ cZ cT lo b L xs) mJ6_bitCount_0f7a4 d 0 0 [.int (iv ((i0 : Nat) : Int))] hp n (pI Γ n (fun r => r = ((bcN i0 : Nat) : Int))) := by
  refine Mt.of rfl (Nat.le_of_ble_eq_true rfl) ?_
  refine Rn.pick (lv' := [(0, .int (iv ((i0 : Nat) : Int)))]) [0] rfl ?_
  refine r_iload_n (pc := 0) dJ6_bitCount_0f7a4_0 (i := 0) rfl rfl ?_
  refine r_iload_n (pc := 1) dJ6_bitCount_0f7a4_1 (i := 0) rfl rfl ?_
  refine r_iconst (pc := 2) (v := iv 1) dJ6_bitCount_0f7a4_2 (by decide) ?_
  refine r_iushr (pc := 3) (v := iv ((i0 >>> 1 : Nat) : Int)) dJ6_bitCount_0f7a4_3 (ushr_k 1 (by decide) (by omega)) ?_
  have hs3 := shr_le i0 1
  refine r_ldcw (pc := 4) (v := iv 1431655765) dJ6_bitCount_0f7a4_4 kJ6_265 ?_
  refine r_iand (pc := 7) (v := iv (((i0 >>> 1) &&& 1431655765 : Nat) : Int)) dJ6_bitCount_0f7a4_7 (iv_and (b := 1431655765) (by omega) (by omega)) ?_
  have hs7 := Nat.and_le_left (n := (i0 >>> 1)) (m := 1431655765)
  have hr7 := Nat.and_le_right (n := (i0 >>> 1)) (m := 1431655765)
  refine r_isub (pc := 8) (v := iv ((i0 - ((i0 >>> 1) &&& 1431655765) : Nat) : Int)) dJ6_bitCount_0f7a4_8 ((iv_sub _ _).trans (congrArg iv (by omega))) ?_
  refine r_istore_n (pc := 9) (lv' := [(0, .int (iv ((i0 - ((i0 >>> 1) &&& 1431655765) : Nat) : Int)))]) dJ6_bitCount_0f7a4_9 (i := 0) rfl (by decide) rfl ?_
  generalize hI1 : i0 - ((i0 >>> 1) &&& 1431655765) = i1
  have hb1 : i1 < 2 ^ 31 := by omega
  refine r_iload_n (pc := 10) dJ6_bitCount_0f7a4_10 (i := 0) rfl rfl ?_
  refine r_ldcw (pc := 11) (v := iv 858993459) dJ6_bitCount_0f7a4_11 kJ6_266 ?_
  refine r_iand (pc := 14) (v := iv ((i1 &&& 858993459 : Nat) : Int)) dJ6_bitCount_0f7a4_14 (iv_and (b := 858993459) (by omega) (by omega)) ?_
  have hs14 := Nat.and_le_left (n := i1) (m := 858993459)
  have hr14 := Nat.and_le_right (n := i1) (m := 858993459)
  refine r_iload_n (pc := 15) dJ6_bitCount_0f7a4_15 (i := 0) rfl rfl ?_
  refine r_iconst (pc := 16) (v := iv 2) dJ6_bitCount_0f7a4_16 (by decide) ?_
  refine r_iushr (pc := 17) (v := iv ((i1 >>> 2 : Nat) : Int)) dJ6_bitCount_0f7a4_17 (ushr_k 2 (by decide) (by omega)) ?_
  have hs17 := shr_le i1 2
  refine r_ldcw (pc := 18) (v := iv 858993459) dJ6_bitCount_0f7a4_18 kJ6_266 ?_
  refine r_iand (pc := 21) (v := iv (((i1 >>> 2) &&& 858993459 : Nat) : Int)) dJ6_bitCount_0f7a4_21 (iv_and (b := 858993459) (by omega) (by omega)) ?_
  have hs21 := Nat.and_le_left (n := (i1 >>> 2)) (m := 858993459)
  have hr21 := Nat.and_le_right (n := (i1 >>> 2)) (m := 858993459)
  refine r_iadd (pc := 22) (v := iv (((i1 &&& 858993459) + ((i1 >>> 2) &&& 858993459) : Nat) : Int)) dJ6_bitCount_0f7a4_22 ((iv_add _ _).trans (congrArg iv (by omega))) ?_
  refine r_istore_n (pc := 23) (lv' := [(0, .int (iv (((i1 &&& 858993459) + ((i1 >>> 2) &&& 858993459) : Nat) : Int)))]) dJ6_bitCount_0f7a4_23 (i := 0) rfl (by decide) rfl ?_
  generalize hI2 : (i1 &&& 858993459) + ((i1 >>> 2) &&& 858993459) = i2
  have hb2 : i2 < 2 ^ 31 := by omega
  refine r_iload_n (pc := 24) dJ6_bitCount_0f7a4_24 (i := 0) rfl rfl ?_
  refine r_iload_n (pc := 25) dJ6_bitCount_0f7a4_25 (i := 0) rfl rfl ?_
  refine r_iconst (pc := 26) (v := iv 4) dJ6_bitCount_0f7a4_26 (by decide) ?_
  refine r_iushr (pc := 27) (v := iv ((i2 >>> 4 : Nat) : Int)) dJ6_bitCount_0f7a4_27 (ushr_k 4 (by decide) (by omega)) ?_
  have hs27 := shr_le i2 4
  refine r_iadd (pc := 28) (v := iv ((i2 + (i2 >>> 4) : Nat) : Int)) dJ6_bitCount_0f7a4_28 ((iv_add _ _).trans (congrArg iv (by omega))) ?_
  refine r_ldcw (pc := 29) (v := iv 252645135) dJ6_bitCount_0f7a4_29 kJ6_267 ?_
  refine r_iand (pc := 32) (v := iv (((i2 + (i2 >>> 4)) &&& 252645135 : Nat) : Int)) dJ6_bitCount_0f7a4_32 (iv_and (b := 252645135) (by omega) (by omega)) ?_
  have hs32 := Nat.and_le_left (n := (i2 + (i2 >>> 4))) (m := 252645135)
  have hr32 := Nat.and_le_right (n := (i2 + (i2 >>> 4))) (m := 252645135)
  refine r_istore_n (pc := 33) (lv' := [(0, .int (iv (((i2 + (i2 >>> 4)) &&& 252645135 : Nat) : Int)))]) dJ6_bitCount_0f7a4_33 (i := 0) rfl (by decide) rfl ?_
  generalize hI3 : (i2 + (i2 >>> 4)) &&& 252645135 = i3
  have hb3 : i3 < 2 ^ 31 := by omega
  refine r_iload_n (pc := 34) dJ6_bitCount_0f7a4_34 (i := 0) rfl rfl ?_
  refine r_iload_n (pc := 35) dJ6_bitCount_0f7a4_35 (i := 0) rfl rfl ?_
  refine r_bipush (pc := 36) (v := iv 8) dJ6_bitCount_0f7a4_36 (by decide) ?_
  refine r_iushr (pc := 38) (v := iv ((i3 >>> 8 : Nat) : Int)) dJ6_bitCount_0f7a4_38 (ushr_k 8 (by decide) (by omega)) ?_
  have hs38 := shr_le i3 8
  refine r_iadd (pc := 39) (v := iv ((i3 + (i3 >>> 8) : Nat) : Int)) dJ6_bitCount_0f7a4_39 ((iv_add _ _).trans (congrArg iv (by omega))) ?_
  refine r_istore_n (pc := 40) (lv' := [(0, .int (iv ((i3 + (i3 >>> 8) : Nat) : Int)))]) dJ6_bitCount_0f7a4_40 (i := 0) rfl (by decide) rfl ?_
  generalize hI4 : i3 + (i3 >>> 8) = i4
  have hb4 : i4 < 2 ^ 31 := by omega
  refine r_iload_n (pc := 41) dJ6_bitCount_0f7a4_41 (i := 0) rfl rfl ?_
  refine r_iload_n (pc := 42) dJ6_bitCount_0f7a4_42 (i := 0) rfl rfl ?_
  refine r_bipush (pc := 43) (v := iv 16) dJ6_bitCount_0f7a4_43 (by decide) ?_
  refine r_iushr (pc := 45) (v := iv ((i4 >>> 16 : Nat) : Int)) dJ6_bitCount_0f7a4_45 (ushr_k 16 (by decide) (by omega)) ?_
  have hs45 := shr_le i4 16
  refine r_iadd (pc := 46) (v := iv ((i4 + (i4 >>> 16) : Nat) : Int)) dJ6_bitCount_0f7a4_46 ((iv_add _ _).trans (congrArg iv (by omega))) ?_
  refine r_istore_n (pc := 47) (lv' := [(0, .int (iv ((i4 + (i4 >>> 16) : Nat) : Int)))]) dJ6_bitCount_0f7a4_47 (i := 0) rfl (by decide) rfl ?_
  generalize hI5 : i4 + (i4 >>> 16) = i5
  have hb5 : i5 < 2 ^ 31 := by omega
  refine r_iload_n (pc := 48) dJ6_bitCount_0f7a4_48 (i := 0) rfl rfl ?_
  refine r_bipush (pc := 49) (v := iv 63) dJ6_bitCount_0f7a4_49 (by decide) ?_
  refine r_iand (pc := 51) (v := iv ((i5 &&& 63 : Nat) : Int)) dJ6_bitCount_0f7a4_51 (iv_and (b := 63) (by omega) (by omega)) ?_
  have hs51 := Nat.and_le_left (n := i5) (m := 63)
  have hr51 := Nat.and_le_right (n := i5) (m := 63)
  exact r_iret (pc := 52) dJ6_bitCount_0f7a4_52 rfl ⟨rfl, ht, _, rfl, by show _ = ((bcN i0 : Nat) : Int); unfold bcN; dsimp only; rw [hI1, hI2, hI3, hI4, hI5]⟩
theorem t_bitCountx {D : va_G} {cI cJ cZ cT : ClassId} {lo b L : Nat} {xs : Nat → Int32} {hp : MH} {n d : Nat} {Γ : TG} {x : Int} (hd0 : 0 ≤ d) (ht : Tw Γ hp) (hx : 0 ≤ x ∧ x ≤ 65535) : Mt (gG D cI cJ cZ cT lo b L xs) mJ6_bitCount_0f7a4 d 0 0 [.int (iv x)] hp n (pI Γ n (fun r => r = bcI x 16)) := by
  obtain ⟨i, rfl⟩ := Int.eq_ofNat_of_zero_le hx.1
  have q := t_bitCountN (D := D) (cI := cI) (cJ := cJ) (cZ := cZ) (cT := cT) (lo := lo) (b := b) (L := L) (xs := xs) (n := n) (i0 := i) hd0 (by omega) ht
  have e : ((bcN i : Nat) : Int) = bcI (i : Int) 16 := bcN_I (x := (i : Int)) hx
  rw [e] at q
  exact q
set_option maxHeartbeats 4000000 in
set_option maxRecDepth 100000 in
theorem t_X1_rank {D : va_G} {cI cJ cZ cT : ClassId} {lo b L : Nat} {xs : Nat → Int32} {hp : MH} {n d : Nat} {Γ : TG}  {x0 x1 : Int} (hd0 : 1 ≤ d)  (ht : Tw Γ hp) (hx0 : 0 ≤ x0 ∧ x0 ≤ 65535) (hx1 : 0 ≤ x1 ∧ x1 ≤ 15) : Mt (gG D cI cJ cZ cT lo b L xs) mX1_rank d 0 0 [.int (iv x0), .int (iv x1)] hp n (pI Γ n (fun r => r = bcI x0 (Int.toNat x1))) := by
  refine Mt.of rfl (Nat.le_of_ble_eq_true rfl) ?_
  refine Rn.pick (lv' := [(0, .int (iv x0)), (1, .int (iv x1))]) [0, 1] rfl ?_
  refine r_iload_n (pc := 0) dX1_rank_0 (i := 0) rfl rfl ?_
  refine r_iconst (pc := 1) (v := iv 1) dX1_rank_1 (by decide) ?_
  refine r_iload_n (pc := 2) dX1_rank_2 (i := 1) rfl rfl ?_
  refine r_ishl (pc := 3) (v := iv ((2 ^ Int.toNat x1 : Nat) : Int)) dX1_rank_3 (shl_e (by omega)) ?_
  refine r_iconst (pc := 4) (v := iv 1) dX1_rank_4 (by decide) ?_
  refine r_isub (pc := 5) (v := iv (((2 ^ Int.toNat x1 : Nat) : Int) - 1)) dX1_rank_5 (iv_sub _ _) ?_
  have hm6 := Nat.and_le_left (n := Int.toNat x0) (m := 2 ^ Int.toNat x1 - 1)
  have hp6 : 1 ≤ 2 ^ Int.toNat x1 := Nat.one_le_two_pow
  have hl6 : 2 ^ Int.toNat x1 ≤ 2 ^ 15 := Nat.pow_le_pow_right (by omega) (by omega)
  refine r_iand (pc := 6) (v := iv ((Int.toNat x0 &&& (2 ^ Int.toNat x1 - 1) : Nat) : Int)) dX1_rank_6 (by have e1 : x0 = ((Int.toNat x0 : Nat) : Int) := (by omega); have e2 : ((2 ^ Int.toNat x1 : Nat) : Int) - 1 = ((2 ^ Int.toNat x1 - 1 : Nat) : Int) := (by omega); rw [e2]; rw [show iv x0 = iv ((Int.toNat x0 : Nat) : Int) from congrArg iv e1]; exact iv_and (by omega) (by omega)) ?_
  refine t_callSI (pc := 7) (as := [.int (iv ((Int.toNat x0 &&& (2 ^ Int.toNat x1 - 1) : Nat) : Int))]) (st := []) kX1_85 dX1_rank_7 (t_bitCountx (d := d - 1) (x := ((Int.toNat x0 &&& (2 ^ Int.toNat x1 - 1) : Nat) : Int)) (by omega) ht (by omega)) rfl (by omega) (Nat.le_of_ble_eq_true rfl) rfl (fun hp2 y1 ht3 by1 => ?_)
  have ey1 : y1 = bcI ((Int.toNat x0 &&& (2 ^ Int.toNat x1 - 1) : Nat) : Int) 16 := by1
  subst ey1
  have ry1 := bc_le ((Int.toNat x0 &&& (2 ^ Int.toNat x1 - 1) : Nat) : Int) 16
  exact r_iret (pc := 10) dX1_rank_10 rfl ⟨rfl, ht3, _, rfl, by show _ = bcI x0 (Int.toNat x1); exact bc_mask (by omega)⟩
set_option maxHeartbeats 4000000 in
set_option maxRecDepth 100000 in
theorem t_X1_clamp {D : va_G} {cI cJ cZ cT : ClassId} {lo b L : Nat} {xs : Nat → Int32} {hp : MH} {n d : Nat} {Γ : TG}  {x0 : Int} (hd0 : 0 ≤ d)  (ht : Tw Γ hp) (hx0 : (-2147483648) ≤ x0 ∧ x0 ≤ 2147483647) : Mt (gG D cI cJ cZ cT lo b L xs) mX1_clamp d 0 0 [.int (iv x0)] hp n (pR Γ n (-1000) 1000) := by
  refine Mt.of rfl (Nat.le_of_ble_eq_true rfl) ?_
  refine Rn.pick (lv' := [(0, .int (iv x0))]) [0] rfl ?_
  refine r_sipush (pc := 0) (v := iv (-1000)) dX1_clamp_0 (by decide) ?_
  refine r_sipush (pc := 3) (v := iv 1000) dX1_clamp_3 (by decide) ?_
  refine r_iload_n (pc := 6) dX1_clamp_6 (i := 0) rfl rfl ?_
  obtain ⟨z1, hz1, bz1⟩ := min_b 1000 x0 (by omega) (by omega)
  refine r_mmin (pc := 7) (v := iv z1) qX1_123 dX1_clamp_7 (Nat.le_of_ble_eq_true rfl) hz1 ?_
  obtain ⟨z2, hz2, bz2⟩ := max_b (-1000) z1 (by omega) (by omega)
  refine r_mmax (pc := 10) (v := iv z2) qX1_128 dX1_clamp_10 (Nat.le_of_ble_eq_true rfl) hz2 ?_
  exact r_iret (pc := 13) dX1_clamp_13 rfl ⟨rfl, ht, _, rfl, by omega, by omega⟩
set_option maxHeartbeats 4000000 in
set_option maxRecDepth 100000 in
theorem t_X1_isLightestOfItsEnds {D : va_G} {cI cJ cZ cT : ClassId} {lo b L : Nat} {xs : Nat → Int32} {hp : MH} {n d : Nat} {Γ : TG} {ga : Nat} {gF : Nat} {gT : Nat} {gW : Nat} {gC : Nat} {gTl : Nat} {gHd : Nat} {gBy : Nat} {gOu : Nat} {gIn : Nat} {gJo : Nat} {gn : Nat} {gm : Nat} {gq : Nat} {gdr : Int} {x1 : Int} (hd0 : 1 ≤ d) (hg : TyG Γ cI cJ cZ ga gF gT gW gC gTl gHd gBy gOu gIn gJo gn gm gq gdr) (ht : Tw Γ hp) (hx1 : 0 ≤ x1 ∧ x1 ≤ 59) (hk : x1 < (gm : Int)) : Mt (gG D cI cJ cZ cT lo b L xs) mX1_isLightestOfItsEnds d 0 0 [.ref ga, .int (iv x1)] hp n (pR Γ n 0 1) := by
  obtain ⟨hg_O, hg_from, hg_to, hg_weight, hg_cost, hg_tail, hg_head, hg_by, hg_out, hg_in, hg_joined, hg_b⟩ := id hg
  refine Mt.of rfl (Nat.le_of_ble_eq_true rfl) ?_
  refine Rn.pick (lv' := [(0, .ref ga), (1, .int (iv x1))]) [0, 1] rfl ?_
  refine r_iconst (pc := 0) (v := iv 0) dX1_isLightestOfItsEnds_0 (by decide) ?_
  refine r_istore_n (pc := 1) (lv' := [(2, .int (iv 0)), (0, .ref ga), (1, .int (iv x1))]) dX1_isLightestOfItsEnds_1 (i := 2) rfl (by decide) rfl ?_
  have B2 : ∀ k : Nat, ∀ hp2 : MH, Tw Γ hp2 → ∀  (v2_2 : Int), 0 ≤ v2_2 ∧ v2_2 ≤ 60 → 60 - v2_2 ≤ (k : Int) → Rn (gG D cI cJ cZ cT lo b L xs) mX1_isLightestOfItsEnds d 2 [(0, .ref ga), (1, .int (iv x1)), (2, .int (iv v2_2))] [] hp2 n 0 0 (pR Γ n 0 1) := by
    refine lpS _ ?_
    intro k2 ih2 hp2 ht2 v2_2 hf2 hm2
    refine r_iload_n (pc := 2) dX1_isLightestOfItsEnds_2 (i := 2) rfl rfl ?_
    refine r_aload_n (pc := 3) dX1_isLightestOfItsEnds_3 (i := 0) rfl rfl ?_
    refine t_getE (pc := 4) (.int (iv (gm : Int))) ht2 hg_O fX1_44 dX1_isLightestOfItsEnds_4 rfl ?_
    refine t_icmp_ge (pc := 7) (tgt := 72) dX1_isLightestOfItsEnds_7 (by decide) (by omega) (by omega) (fun c7 => ?_) (fun c7 => ?_)
    · refine r_iconst (pc := 72) (v := iv 1) dX1_isLightestOfItsEnds_72 (by decide) ?_
      exact r_zret (pc := 73) dX1_isLightestOfItsEnds_73 rfl (iv_nar (by omega)) ⟨rfl, ht2, _, rfl, by omega, by omega⟩
    · refine r_aload_n (pc := 10) dX1_isLightestOfItsEnds_10 (i := 0) rfl rfl ?_
      refine t_getE (pc := 11) (.ref gW) ht2 hg_O fX1_72 dX1_isLightestOfItsEnds_11 rfl ?_
      refine r_iload_n (pc := 14) dX1_isLightestOfItsEnds_14 (i := 2) rfl rfl ?_
      refine t_ialdR (pc := 15) (t0 := 0) ht2 hg_weight dX1_isLightestOfItsEnds_15 rfl (by omega) (by omega) (fun y1 by1 => ?_)
      refine r_aload_n (pc := 16) dX1_isLightestOfItsEnds_16 (i := 0) rfl rfl ?_
      refine t_getE (pc := 17) (.ref gW) ht2 hg_O fX1_72 dX1_isLightestOfItsEnds_17 rfl ?_
      refine r_iload_n (pc := 20) dX1_isLightestOfItsEnds_20 (i := 1) rfl rfl ?_
      refine t_ialdR (pc := 21) (t0 := 0) ht2 hg_weight dX1_isLightestOfItsEnds_21 rfl (by omega) (by omega) (fun y2 by2 => ?_)
      have B50 : ∀ hp50 : MH, Tw Γ hp50 → ∀  (u50_0 : Int), 0 ≤ u50_0 ∧ u50_0 ≤ 1 → Rn (gG D cI cJ cZ cT lo b L xs) mX1_isLightestOfItsEnds d 50 [(0, .ref ga), (1, .int (iv x1)), (2, .int (iv v2_2))] [.int (iv u50_0)] hp50 n 0 0 (pR Γ n 0 1) := by
        intro hp50 ht50 u50_0 hf50
        refine r_istore_n (pc := 50) (lv' := [(3, .int (iv u50_0)), (0, .ref ga), (1, .int (iv x1)), (2, .int (iv v2_2))]) dX1_isLightestOfItsEnds_50 (i := 3) rfl (by decide) rfl ?_
        refine r_iload_n (pc := 51) dX1_isLightestOfItsEnds_51 (i := 3) rfl rfl ?_
        have B66 : ∀ hp66 : MH, Tw Γ hp66 → True → Rn (gG D cI cJ cZ cT lo b L xs) mX1_isLightestOfItsEnds d 66 [(0, .ref ga), (1, .int (iv x1)), (2, .int (iv v2_2))] [] hp66 n 0 0 (pR Γ n 0 1) := by
          intro hp66 ht66 hf66
          refine r_iinc (pc := 66) (v := iv (v2_2 + 1)) (lv' := [(2, .int (iv (v2_2 + 1))), (0, .ref ga), (1, .int (iv x1))]) dX1_isLightestOfItsEnds_66 rfl (iv_add _ _) (by decide) rfl ?_
          refine r_goto (pc := 69) (tgt := 2) dX1_isLightestOfItsEnds_69 (by decide) ?_
          refine Rn.pick (lv' := [(0, .ref ga), (1, .int (iv x1)), (2, .int (iv (v2_2 + 1)))]) [1, 2, 0] rfl ?_
          exact ih2 (Int.toNat (60 - (v2_2 + 1))) (by omega) _ ht66 (v2_2 + 1) ⟨by omega, by omega⟩ (by omega)
        refine t_if_eq (pc := 52) (tgt := 66) dX1_isLightestOfItsEnds_52 (by decide) (by omega) (fun c52 => ?_) (fun c52 => ?_)
        · refine Rn.pick (lv' := [(0, .ref ga), (1, .int (iv x1)), (2, .int (iv v2_2))]) [1, 2, 3] rfl ?_
          exact B66 _ ht50 trivial
        · refine r_aload_n (pc := 55) dX1_isLightestOfItsEnds_55 (i := 0) rfl rfl ?_
          refine r_iload_n (pc := 56) dX1_isLightestOfItsEnds_56 (i := 1) rfl rfl ?_
          refine r_iload_n (pc := 57) dX1_isLightestOfItsEnds_57 (i := 2) rfl rfl ?_
          refine t_callVR (pc := 58) (as := [.int (iv x1), .int (iv v2_2)]) (st := []) ht50 hg_O kX1_81 rfl dX1_isLightestOfItsEnds_58 (t_X3_haveSameEnds (d := d - 1) (x1 := x1) (x2 := v2_2) (by omega) hg  ht50 (by omega) (by omega) (by omega)) rfl (by omega) (Nat.le_of_ble_eq_true rfl) rfl (fun hp3 y5 ht4 by5 => ?_)
          refine t_if_eq (pc := 61) (tgt := 66) dX1_isLightestOfItsEnds_61 (by decide) (by omega) (fun c61 => ?_) (fun c61 => ?_)
          · refine Rn.pick (lv' := [(0, .ref ga), (1, .int (iv x1)), (2, .int (iv v2_2))]) [1, 2, 3] rfl ?_
            exact B66 _ ht4 trivial
          · refine r_iconst (pc := 64) (v := iv 0) dX1_isLightestOfItsEnds_64 (by decide) ?_
            exact r_zret (pc := 65) dX1_isLightestOfItsEnds_65 rfl (iv_nar (by omega)) ⟨rfl, ht4, _, rfl, by omega, by omega⟩
      have B45 : ∀ hp45 : MH, Tw Γ hp45 → True → Rn (gG D cI cJ cZ cT lo b L xs) mX1_isLightestOfItsEnds d 45 [(0, .ref ga), (1, .int (iv x1)), (2, .int (iv v2_2))] [] hp45 n 0 0 (pR Γ n 0 1) := by
        intro hp45 ht45 hf45
        refine r_iconst (pc := 45) (v := iv 1) dX1_isLightestOfItsEnds_45 (by decide) ?_
        refine r_goto (pc := 46) (tgt := 50) dX1_isLightestOfItsEnds_46 (by decide) ?_
        refine Rn.pick (lv' := [(0, .ref ga), (1, .int (iv x1)), (2, .int (iv v2_2))]) [0, 1, 2] rfl ?_
        exact B50 _ ht45 1 ⟨by omega, by omega⟩
      refine t_icmp_lt (pc := 22) (tgt := 45) dX1_isLightestOfItsEnds_22 (by decide) (by omega) (by omega) (fun c22 => ?_) (fun c22 => ?_)
      · refine Rn.pick (lv' := [(0, .ref ga), (1, .int (iv x1)), (2, .int (iv v2_2))]) [0, 1, 2] rfl ?_
        exact B45 _ ht2 trivial
      · refine r_aload_n (pc := 25) dX1_isLightestOfItsEnds_25 (i := 0) rfl rfl ?_
        refine t_getE (pc := 26) (.ref gW) ht2 hg_O fX1_72 dX1_isLightestOfItsEnds_26 rfl ?_
        refine r_iload_n (pc := 29) dX1_isLightestOfItsEnds_29 (i := 2) rfl rfl ?_
        refine t_ialdR (pc := 30) (t0 := 0) ht2 hg_weight dX1_isLightestOfItsEnds_30 rfl (by omega) (by omega) (fun y6 by6 => ?_)
        refine r_aload_n (pc := 31) dX1_isLightestOfItsEnds_31 (i := 0) rfl rfl ?_
        refine t_getE (pc := 32) (.ref gW) ht2 hg_O fX1_72 dX1_isLightestOfItsEnds_32 rfl ?_
        refine r_iload_n (pc := 35) dX1_isLightestOfItsEnds_35 (i := 1) rfl rfl ?_
        refine t_ialdR (pc := 36) (t0 := 0) ht2 hg_weight dX1_isLightestOfItsEnds_36 rfl (by omega) (by omega) (fun y7 by7 => ?_)
        have B49 : ∀ hp49 : MH, Tw Γ hp49 → True → Rn (gG D cI cJ cZ cT lo b L xs) mX1_isLightestOfItsEnds d 49 [(0, .ref ga), (1, .int (iv x1)), (2, .int (iv v2_2))] [] hp49 n 0 0 (pR Γ n 0 1) := by
          intro hp49 ht49 hf49
          refine r_iconst (pc := 49) (v := iv 0) dX1_isLightestOfItsEnds_49 (by decide) ?_
          refine Rn.pick (lv' := [(0, .ref ga), (1, .int (iv x1)), (2, .int (iv v2_2))]) [0, 1, 2] rfl ?_
          exact B50 _ ht49 0 ⟨by omega, by omega⟩
        refine t_icmp_ne (pc := 37) (tgt := 49) dX1_isLightestOfItsEnds_37 (by decide) (by omega) (by omega) (fun c37 => ?_) (fun c37 => ?_)
        · refine Rn.pick (lv' := [(0, .ref ga), (1, .int (iv x1)), (2, .int (iv v2_2))]) [0, 1, 2] rfl ?_
          exact B49 _ ht2 trivial
        · refine r_iload_n (pc := 40) dX1_isLightestOfItsEnds_40 (i := 2) rfl rfl ?_
          refine r_iload_n (pc := 41) dX1_isLightestOfItsEnds_41 (i := 1) rfl rfl ?_
          refine t_icmp_ge (pc := 42) (tgt := 49) dX1_isLightestOfItsEnds_42 (by decide) (by omega) (by omega) (fun c42 => ?_) (fun c42 => ?_)
          · refine Rn.pick (lv' := [(0, .ref ga), (1, .int (iv x1)), (2, .int (iv v2_2))]) [0, 1, 2] rfl ?_
            exact B49 _ ht2 trivial
          · refine Rn.pick (lv' := [(0, .ref ga), (1, .int (iv x1)), (2, .int (iv v2_2))]) [0, 1, 2] rfl ?_
            exact B45 _ ht2 trivial
  refine Rn.pick (lv' := [(0, .ref ga), (1, .int (iv x1)), (2, .int (iv 0))]) [1, 2, 0] rfl ?_
  exact B2 (Int.toNat (60 - 0)) _ ht 0 ⟨by omega, by omega⟩ (by omega)
set_option maxHeartbeats 4000000 in
set_option maxRecDepth 100000 in
theorem t_X1_isKept {D : va_G} {cI cJ cZ cT : ClassId} {lo b L : Nat} {xs : Nat → Int32} {hp : MH} {n d : Nat} {Γ : TG} {ga : Nat} {gF : Nat} {gT : Nat} {gW : Nat} {gC : Nat} {gTl : Nat} {gHd : Nat} {gBy : Nat} {gOu : Nat} {gIn : Nat} {gJo : Nat} {gn : Nat} {gm : Nat} {gq : Nat} {gdr : Int} {x1 x2 x3 : Int} (hd0 : 2 ≤ d) (hg : TyG Γ cI cJ cZ ga gF gT gW gC gTl gHd gBy gOu gIn gJo gn gm gq gdr) (ht : Tw Γ hp) (hx1 : (-2147483648) ≤ x1 ∧ x1 ≤ 2147483647) (hx2 : (-2147483648) ≤ x2 ∧ x2 ≤ 2147483647) (hx3 : 0 ≤ x3 ∧ x3 ≤ 59) (hk : x3 < (gm : Int)) : Mt (gG D cI cJ cZ cT lo b L xs) mX1_isKept d 0 0 [.ref ga, .int (iv x1), .int (iv x2), .int (iv x3)] hp n (pR Γ n 0 1) := by
  obtain ⟨hg_O, hg_from, hg_to, hg_weight, hg_cost, hg_tail, hg_head, hg_by, hg_out, hg_in, hg_joined, hg_b⟩ := id hg
  refine Mt.of rfl (Nat.le_of_ble_eq_true rfl) ?_
  refine Rn.pick (lv' := [(0, .ref ga), (1, .int (iv x1)), (2, .int (iv x2)), (3, .int (iv x3))]) [0, 1, 2, 3] rfl ?_
  refine r_iload_n (pc := 0) dX1_isKept_0 (i := 1) rfl rfl ?_
  by_cases c1 : x1 = 2
  · refine r_tableIn (pc := 1) (off := 31) (tgt := 32) dX1_isKept_1 (by rw [iv_toInt (by omega) (by omega)]; omega) (by rw [iv_toInt (by omega) (by omega)]; omega) (by rw [iv_toInt (by omega) (by omega), c1]; decide) (by decide) ?_
    refine r_aload_n (pc := 32) dX1_isKept_32 (i := 0) rfl rfl ?_
    refine t_getE (pc := 33) (.ref gF) ht hg_O fX1_71 dX1_isKept_33 rfl ?_
    refine r_iload_n (pc := 36) dX1_isKept_36 (i := 3) rfl rfl ?_
    refine t_ialdR (pc := 37) (t0 := 0) ht hg_from dX1_isKept_37 rfl (by omega) (by omega) (fun y2 by2 => ?_)
    refine r_aload_n (pc := 38) dX1_isKept_38 (i := 0) rfl rfl ?_
    refine t_getE (pc := 39) (.ref gT) ht hg_O fX1_70 dX1_isKept_39 rfl ?_
    refine r_iload_n (pc := 42) dX1_isKept_42 (i := 3) rfl rfl ?_
    refine t_ialdR (pc := 43) (t0 := 0) ht hg_to dX1_isKept_43 rfl (by omega) (by omega) (fun y3 by3 => ?_)
    have B52 : ∀ hp52 : MH, Tw Γ hp52 → ∀  (u52_0 : Int), 0 ≤ u52_0 ∧ u52_0 ≤ 1 → Rn (gG D cI cJ cZ cT lo b L xs) mX1_isKept d 52 [] [.int (iv u52_0)] hp52 n 0 0 (pR Γ n 0 1) := by
      intro hp52 ht52 u52_0 hf52
      exact r_zret (pc := 52) dX1_isKept_52 rfl (iv_nar (by omega)) ⟨rfl, ht52, _, rfl, by omega, by omega⟩
    refine t_icmp_eq (pc := 44) (tgt := 51) dX1_isKept_44 (by decide) (by omega) (by omega) (fun c44 => ?_) (fun c44 => ?_)
    · refine r_iconst (pc := 51) (v := iv 0) dX1_isKept_51 (by decide) ?_
      refine Rn.pick (lv' := []) [] rfl ?_
      exact B52 _ ht 0 ⟨by omega, by omega⟩
    · refine r_iconst (pc := 47) (v := iv 1) dX1_isKept_47 (by decide) ?_
      refine r_goto (pc := 48) (tgt := 52) dX1_isKept_48 (by decide) ?_
      refine Rn.pick (lv' := []) [] rfl ?_
      exact B52 _ ht 1 ⟨by omega, by omega⟩
  by_cases c4 : x1 = 3
  · refine r_tableIn (pc := 1) (off := 52) (tgt := 53) dX1_isKept_1 (by rw [iv_toInt (by omega) (by omega)]; omega) (by rw [iv_toInt (by omega) (by omega)]; omega) (by rw [iv_toInt (by omega) (by omega), c4]; decide) (by decide) ?_
    refine r_aload_n (pc := 53) dX1_isKept_53 (i := 0) rfl rfl ?_
    refine t_getE (pc := 54) (.ref gF) ht hg_O fX1_71 dX1_isKept_54 rfl ?_
    refine r_iload_n (pc := 57) dX1_isKept_57 (i := 3) rfl rfl ?_
    refine t_ialdR (pc := 58) (t0 := 0) ht hg_from dX1_isKept_58 rfl (by omega) (by omega) (fun y5 by5 => ?_)
    refine r_aload_n (pc := 59) dX1_isKept_59 (i := 0) rfl rfl ?_
    refine t_getE (pc := 60) (.ref gT) ht hg_O fX1_70 dX1_isKept_60 rfl ?_
    refine r_iload_n (pc := 63) dX1_isKept_63 (i := 3) rfl rfl ?_
    refine t_ialdR (pc := 64) (t0 := 0) ht hg_to dX1_isKept_64 rfl (by omega) (by omega) (fun y6 by6 => ?_)
    have B81 : ∀ hp81 : MH, Tw Γ hp81 → ∀  (u81_0 : Int), 0 ≤ u81_0 ∧ u81_0 ≤ 1 → Rn (gG D cI cJ cZ cT lo b L xs) mX1_isKept d 81 [] [.int (iv u81_0)] hp81 n 0 0 (pR Γ n 0 1) := by
      intro hp81 ht81 u81_0 hf81
      exact r_zret (pc := 81) dX1_isKept_81 rfl (iv_nar (by omega)) ⟨rfl, ht81, _, rfl, by omega, by omega⟩
    have B80 : ∀ hp80 : MH, Tw Γ hp80 → True → Rn (gG D cI cJ cZ cT lo b L xs) mX1_isKept d 80 [] [] hp80 n 0 0 (pR Γ n 0 1) := by
      intro hp80 ht80 hf80
      refine r_iconst (pc := 80) (v := iv 0) dX1_isKept_80 (by decide) ?_
      refine Rn.pick (lv' := []) [] rfl ?_
      exact B81 _ ht80 0 ⟨by omega, by omega⟩
    refine t_icmp_eq (pc := 65) (tgt := 80) dX1_isKept_65 (by decide) (by omega) (by omega) (fun c65 => ?_) (fun c65 => ?_)
    · refine Rn.pick (lv' := []) [] rfl ?_
      exact B80 _ ht trivial
    · refine r_aload_n (pc := 68) dX1_isKept_68 (i := 0) rfl rfl ?_
      refine r_iload_n (pc := 69) dX1_isKept_69 (i := 3) rfl rfl ?_
      refine t_callSR (pc := 70) (as := [.ref ga, .int (iv x3)]) (st := []) kX1_78 dX1_isKept_70 (t_X1_isLightestOfItsEnds (d := d - 1) (x1 := x3) (by omega) hg  ht (by omega) (by omega)) rfl (by omega) (Nat.le_of_ble_eq_true rfl) rfl (fun hp7 y9 ht8 by9 => ?_)
      refine t_if_eq (pc := 73) (tgt := 80) dX1_isKept_73 (by decide) (by omega) (fun c73 => ?_) (fun c73 => ?_)
      · refine Rn.pick (lv' := []) [] rfl ?_
        exact B80 _ ht8 trivial
      · refine r_iconst (pc := 76) (v := iv 1) dX1_isKept_76 (by decide) ?_
        refine r_goto (pc := 77) (tgt := 81) dX1_isKept_77 (by decide) ?_
        refine Rn.pick (lv' := []) [] rfl ?_
        exact B81 _ ht8 1 ⟨by omega, by omega⟩
  by_cases c10 : x1 = 4
  · refine r_tableIn (pc := 1) (off := 97) (tgt := 98) dX1_isKept_1 (by rw [iv_toInt (by omega) (by omega)]; omega) (by rw [iv_toInt (by omega) (by omega)]; omega) (by rw [iv_toInt (by omega) (by omega), c10]; decide) (by decide) ?_
    refine r_iconst (pc := 98) (v := iv 1) dX1_isKept_98 (by decide) ?_
    exact r_zret (pc := 99) dX1_isKept_99 rfl (iv_nar (by omega)) ⟨rfl, ht, _, rfl, by omega, by omega⟩
  by_cases c11 : x1 = 5
  · refine r_tableIn (pc := 1) (off := 81) (tgt := 82) dX1_isKept_1 (by rw [iv_toInt (by omega) (by omega)]; omega) (by rw [iv_toInt (by omega) (by omega)]; omega) (by rw [iv_toInt (by omega) (by omega), c11]; decide) (by decide) ?_
    refine r_aload_n (pc := 82) dX1_isKept_82 (i := 0) rfl rfl ?_
    refine t_getE (pc := 83) (.ref gW) ht hg_O fX1_72 dX1_isKept_83 rfl ?_
    refine r_iload_n (pc := 86) dX1_isKept_86 (i := 3) rfl rfl ?_
    refine t_ialdR (pc := 87) (t0 := 0) ht hg_weight dX1_isKept_87 rfl (by omega) (by omega) (fun y12 by12 => ?_)
    refine r_iload_n (pc := 88) dX1_isKept_88 (i := 2) rfl rfl ?_
    have B97 : ∀ hp97 : MH, Tw Γ hp97 → ∀  (u97_0 : Int), 0 ≤ u97_0 ∧ u97_0 ≤ 1 → Rn (gG D cI cJ cZ cT lo b L xs) mX1_isKept d 97 [] [.int (iv u97_0)] hp97 n 0 0 (pR Γ n 0 1) := by
      intro hp97 ht97 u97_0 hf97
      exact r_zret (pc := 97) dX1_isKept_97 rfl (iv_nar (by omega)) ⟨rfl, ht97, _, rfl, by omega, by omega⟩
    refine t_icmp_lt (pc := 89) (tgt := 96) dX1_isKept_89 (by decide) (by omega) (by omega) (fun c89 => ?_) (fun c89 => ?_)
    · refine r_iconst (pc := 96) (v := iv 0) dX1_isKept_96 (by decide) ?_
      refine Rn.pick (lv' := []) [] rfl ?_
      exact B97 _ ht 0 ⟨by omega, by omega⟩
    · refine r_iconst (pc := 92) (v := iv 1) dX1_isKept_92 (by decide) ?_
      refine r_goto (pc := 93) (tgt := 97) dX1_isKept_93 (by decide) ?_
      refine Rn.pick (lv' := []) [] rfl ?_
      exact B97 _ ht 1 ⟨by omega, by omega⟩
  refine r_tableOut (pc := 1) (tgt := 98) dX1_isKept_1 (by rw [iv_toInt (by omega) (by omega)]; omega) (by decide) ?_
  refine r_iconst (pc := 98) (v := iv 1) dX1_isKept_98 (by decide) ?_
  exact r_zret (pc := 99) dX1_isKept_99 rfl (iv_nar (by omega)) ⟨rfl, ht, _, rfl, by omega, by omega⟩
set_option maxHeartbeats 4000000 in
set_option maxRecDepth 100000 in
theorem t_X1_isView {D : va_G} {cI cJ cZ cT : ClassId} {lo b L : Nat} {xs : Nat → Int32} {hp : MH} {n d : Nat} {Γ : TG} {ga : Nat} {gF : Nat} {gT : Nat} {gW : Nat} {gC : Nat} {gTl : Nat} {gHd : Nat} {gBy : Nat} {gOu : Nat} {gIn : Nat} {gJo : Nat} {gn : Nat} {gm : Nat} {gq : Nat} {gdr : Int} {x1 x2 : Int} (hd0 : 1 ≤ d) (hg : TyG Γ cI cJ cZ ga gF gT gW gC gTl gHd gBy gOu gIn gJo gn gm gq gdr) (ht : Tw Γ hp) (hx1 : (-2147483648) ≤ x1 ∧ x1 ≤ 2147483647) (hx2 : (-2147483648) ≤ x2 ∧ x2 ≤ 2147483647) : Mt (gG D cI cJ cZ cT lo b L xs) mX1_isView d 0 0 [.ref ga, .int (iv x1), .int (iv x2)] hp n (pI Γ n (fun r => (0 ≤ r ∧ r ≤ 1) ∧ (r = 1 → 0 ≤ x1 ∧ x1 ≤ 7 ∧ (x1 = 4 → 1 ≤ x2 ∧ x2 ≤ 65535) ∧ (x1 = 7 → 1 ≤ (gm : Int) ∧ (gm : Int) ≤ 16)))) := by
  obtain ⟨hg_O, hg_from, hg_to, hg_weight, hg_cost, hg_tail, hg_head, hg_by, hg_out, hg_in, hg_joined, hg_b⟩ := id hg
  refine Mt.of rfl (Nat.le_of_ble_eq_true rfl) ?_
  refine Rn.pick (lv' := [(0, .ref ga), (1, .int (iv x1)), (2, .int (iv x2))]) [0, 1, 2] rfl ?_
  refine r_iload_n (pc := 0) dX1_isView_0 (i := 1) rfl rfl ?_
  refine t_if_lt (pc := 1) (tgt := 10) dX1_isView_1 (by decide) (by omega) (fun c1 => ?_) (fun c1 => ?_)
  · refine r_iconst (pc := 10) (v := iv 0) dX1_isView_10 (by decide) ?_
    exact r_zret (pc := 11) dX1_isView_11 rfl (iv_nar (by omega)) ⟨rfl, ht, _, rfl, by omega, by omega⟩
  · refine r_iload_n (pc := 4) dX1_isView_4 (i := 1) rfl rfl ?_
    refine r_bipush (pc := 5) (v := iv 7) dX1_isView_5 (by decide) ?_
    refine t_icmp_le (pc := 7) (tgt := 12) dX1_isView_7 (by decide) (by omega) (by omega) (fun c7 => ?_) (fun c7 => ?_)
    · refine r_iload_n (pc := 12) dX1_isView_12 (i := 1) rfl rfl ?_
      refine r_iconst (pc := 13) (v := iv 4) dX1_isView_13 (by decide) ?_
      refine t_icmp_ne (pc := 14) (tgt := 38) dX1_isView_14 (by decide) (by omega) (by omega) (fun c14 => ?_) (fun c14 => ?_)
      · refine r_iload_n (pc := 38) dX1_isView_38 (i := 1) rfl rfl ?_
        refine r_bipush (pc := 39) (v := iv 7) dX1_isView_39 (by decide) ?_
        refine t_icmp_ne (pc := 41) (tgt := 61) dX1_isView_41 (by decide) (by omega) (by omega) (fun c41 => ?_) (fun c41 => ?_)
        · refine r_iconst (pc := 61) (v := iv 1) dX1_isView_61 (by decide) ?_
          refine r_goto (pc := 62) (tgt := 66) dX1_isView_62 (by decide) ?_
          exact r_zret (pc := 66) dX1_isView_66 rfl (iv_nar (by omega)) ⟨rfl, ht, _, rfl, by omega, by omega⟩
        · refine r_aload_n (pc := 44) dX1_isView_44 (i := 0) rfl rfl ?_
          refine t_getE (pc := 45) (.int (iv (gm : Int))) ht hg_O fX1_44 dX1_isView_45 rfl ?_
          refine r_iconst (pc := 48) (v := iv 1) dX1_isView_48 (by decide) ?_
          refine t_icmp_lt (pc := 49) (tgt := 65) dX1_isView_49 (by decide) (by omega) (by omega) (fun c49 => ?_) (fun c49 => ?_)
          · refine r_iconst (pc := 65) (v := iv 0) dX1_isView_65 (by decide) ?_
            exact r_zret (pc := 66) dX1_isView_66 rfl (iv_nar (by omega)) ⟨rfl, ht, _, rfl, by omega, by omega⟩
          · refine r_aload_n (pc := 52) dX1_isView_52 (i := 0) rfl rfl ?_
            refine t_getE (pc := 53) (.int (iv (gm : Int))) ht hg_O fX1_44 dX1_isView_53 rfl ?_
            refine r_bipush (pc := 56) (v := iv 16) dX1_isView_56 (by decide) ?_
            refine t_icmp_gt (pc := 58) (tgt := 65) dX1_isView_58 (by decide) (by omega) (by omega) (fun c58 => ?_) (fun c58 => ?_)
            · refine r_iconst (pc := 65) (v := iv 0) dX1_isView_65 (by decide) ?_
              exact r_zret (pc := 66) dX1_isView_66 rfl (iv_nar (by omega)) ⟨rfl, ht, _, rfl, by omega, by omega⟩
            · refine r_iconst (pc := 61) (v := iv 1) dX1_isView_61 (by decide) ?_
              refine r_goto (pc := 62) (tgt := 66) dX1_isView_62 (by decide) ?_
              exact r_zret (pc := 66) dX1_isView_66 rfl (iv_nar (by omega)) ⟨rfl, ht, _, rfl, by omega, by omega⟩
      · refine r_iload_n (pc := 17) dX1_isView_17 (i := 2) rfl rfl ?_
        refine t_if_eq (pc := 18) (tgt := 36) dX1_isView_18 (by decide) (by omega) (fun c18 => ?_) (fun c18 => ?_)
        · refine r_iconst (pc := 36) (v := iv 0) dX1_isView_36 (by decide) ?_
          exact r_zret (pc := 37) dX1_isView_37 rfl (iv_nar (by omega)) ⟨rfl, ht, _, rfl, by omega, by omega⟩
        · refine r_iload_n (pc := 21) dX1_isView_21 (i := 2) rfl rfl ?_
          refine r_aload_n (pc := 22) dX1_isView_22 (i := 0) rfl rfl ?_
          refine t_callVR (pc := 23) (as := []) (st := [.int (iv x2)]) ht hg_O kX1_38 rfl dX1_isView_23 (t_X3_allNodes (d := d - 1)  (by omega) hg  ht  ) rfl (by omega) (Nat.le_of_ble_eq_true rfl) rfl (fun hp1 y3 ht2 by3 => ?_)
          refine r_iconst (pc := 26) (v := iv (-1)) dX1_isView_26 (by decide) ?_
          refine r_ixor (pc := 27) (v := iv (-y3 - 1)) dX1_isView_27 (iv_not _) ?_
          obtain ⟨z4, hz4, bz4⟩ := any_i (iv x2 &&& iv (-y3 - 1))
          refine r_iand (pc := 28) (v := iv z4) dX1_isView_28 hz4 ?_
          have han : z4 = 0 → 0 ≤ x2 ∧ x2 ≤ 65535 := fun h9 => andn_0 hz4 h9 (by omega) (by omega)
          refine t_if_ne (pc := 29) (tgt := 36) dX1_isView_29 (by decide) (by omega) (fun c29 => ?_) (fun c29 => ?_)
          · refine r_iconst (pc := 36) (v := iv 0) dX1_isView_36 (by decide) ?_
            exact r_zret (pc := 37) dX1_isView_37 rfl (iv_nar (by omega)) ⟨rfl, ht2, _, rfl, by omega, by omega⟩
          · refine r_iconst (pc := 32) (v := iv 1) dX1_isView_32 (by decide) ?_
            refine r_goto (pc := 33) (tgt := 37) dX1_isView_33 (by decide) ?_
            exact r_zret (pc := 37) dX1_isView_37 rfl (iv_nar (by omega)) ⟨rfl, ht2, _, rfl, by omega, by omega⟩
    · refine r_iconst (pc := 10) (v := iv 0) dX1_isView_10 (by decide) ?_
      exact r_zret (pc := 11) dX1_isView_11 rfl (iv_nar (by omega)) ⟨rfl, ht, _, rfl, by omega, by omega⟩
def q_X1_restart (Γ : TG) (cI cJ cZ cT : ClassId) (s : Nat) (n : Nat) (kn : Int) (kd : Int) (ka : Int) (kf : Nat → Int) (kt : Nat → Int) (kw : Nat → Int) (kc : Nat → Int) (x1 x2 : Int) : Option Value → MH → Nat → Prop := fun r hp1 n1 => n1 = n ∧ Tw (DG Γ cI cJ cZ cT s x1 x2 0 kf kt kw kc) hp1 ∧ r = none
set_option maxHeartbeats 4000000 in
set_option maxRecDepth 100000 in
theorem s_X1_restart {D : va_G} {cI cJ cZ cT : ClassId} {lo b L : Nat} {xs : Nat → Int32} {hp : MH} {n d : Nat} {Γ : TG} {s : Nat} {kn : Int} {kd : Int} {ka : Int} {kf : Nat → Int} {kt : Nat → Int} {kw : Nat → Int} {kc : Nat → Int}  {x1 x2 : Int} (hd0 : 0 ≤ d)  (ht : Tw (DG Γ cI cJ cZ cT s kn kd ka kf kt kw kc) hp) (hx1 : 1 ≤ x1 ∧ x1 ≤ 16) (hx2 : 0 ≤ x2 ∧ x2 ≤ 1) : Mt (gG D cI cJ cZ cT lo b L xs) mX1_restart d 0 0 [.ref s, .int (iv x1), .int (iv x2)] hp n (q_X1_restart Γ cI cJ cZ cT s n kn kd ka kf kt kw kc x1 x2) := by
  refine Mt.of rfl (Nat.le_of_ble_eq_true rfl) ?_
  refine Rn.pick (lv' := [(0, .ref s), (1, .int (iv x1)), (2, .int (iv x2))]) [0, 1, 2] rfl ?_
  refine r_aload_n (pc := 0) dX1_restart_0 (i := 0) rfl rfl ?_
  refine r_iload_n (pc := 1) dX1_restart_1 (i := 1) rfl rfl ?_
  refine t_putX (pc := 2) (ty := .int) ht DG_0 fX1_9 tyX1 tyX1_ok nmX1 (by decide +kernel) (Or.inl rfl) dX1_restart_2 (Nat.le_of_ble_eq_true rfl) rfl rfl rfl (fun hp1 ht2 => ?_)
  have ht3 := RGw_kn ht2
  refine r_aload_n (pc := 5) dX1_restart_5 (i := 0) rfl rfl ?_
  refine r_iload_n (pc := 6) dX1_restart_6 (i := 2) rfl rfl ?_
  refine t_putX (pc := 7) (ty := .boolean) ht3 DG_0 fX1_15 tyX1 tyX1_ok nmX1 (by decide +kernel) (Or.inl rfl) dX1_restart_7 (Nat.le_of_ble_eq_true rfl) (iv_nar (by omega)) (iv_fit (by omega)) rfl (fun hp4 ht5 => ?_)
  have ht6 := RGw_kd ht5
  refine r_aload_n (pc := 10) dX1_restart_10 (i := 0) rfl rfl ?_
  refine r_iconst (pc := 11) (v := iv 0) dX1_restart_11 (by decide) ?_
  refine t_putX (pc := 12) (ty := .int) ht6 DG_0 fX1_19 tyX1 tyX1_ok nmX1 (by decide +kernel) (Or.inl rfl) dX1_restart_12 (Nat.le_of_ble_eq_true rfl) rfl rfl rfl (fun hp7 ht8 => ?_)
  have ht9 := RGw_ka ht8
  exact r_vret (pc := 15) dX1_restart_15 rfl ⟨rfl, ht9, rfl⟩
def q_X1_add (Γ : TG) (cI cJ cZ cT : ClassId) (s : Nat) (n : Nat) (kn : Int) (kd : Int) (ka : Int) (kf : Nat → Int) (kt : Nat → Int) (kw : Nat → Int) (kc : Nat → Int) (x1 x2 x3 x4 : Int) : Option Value → MH → Nat → Prop := fun r hp1 n1 => n1 = n ∧ ∃ (bb : Int) (k1 : Int) (f1 : Nat → Int) (t1 : Nat → Int) (w1 : Nat → Int) (c1 : Nat → Int), Tw (DG Γ cI cJ cZ cT s kn kd k1 f1 t1 w1 c1) hp1 ∧ r = some (.int (iv bb)) ∧ ((bb = 1 ∧ ka < 60 ∧ k1 = ka + 1) ∨ (bb = 0 ∧ 60 ≤ ka ∧ k1 = ka)) ∧ (ka < 60 → f1 = fup kf (Int.toNat ka) x1 ∧ t1 = fup kt (Int.toNat ka) x2 ∧ w1 = fup kw (Int.toNat ka) x3 ∧ c1 = fup kc (Int.toNat ka) x4) ∧ (60 ≤ ka → f1 = kf ∧ t1 = kt ∧ w1 = kw ∧ c1 = kc) ∧ (0 ≤ k1 ∧ k1 ≤ 60)
set_option maxHeartbeats 4000000 in
set_option maxRecDepth 100000 in
theorem s_X1_add {D : va_G} {cI cJ cZ cT : ClassId} {lo b L : Nat} {xs : Nat → Int32} {hp : MH} {n d : Nat} {Γ : TG} {s : Nat} {kn : Int} {kd : Int} {ka : Int} {kf : Nat → Int} {kt : Nat → Int} {kw : Nat → Int} {kc : Nat → Int}  {x1 x2 x3 x4 : Int} (hd0 : 0 ≤ d)  (hn_ka : 0 ≤ ka ∧ ka ≤ 60) (ht : Tw (DG Γ cI cJ cZ cT s kn kd ka kf kt kw kc) hp) (hx1 : (-2147483648) ≤ x1 ∧ x1 ≤ 2147483647) (hx2 : (-2147483648) ≤ x2 ∧ x2 ≤ 2147483647) (hx3 : (-2147483648) ≤ x3 ∧ x3 ≤ 2147483647) (hx4 : (-2147483648) ≤ x4 ∧ x4 ≤ 2147483647) : Mt (gG D cI cJ cZ cT lo b L xs) mX1_add d 0 0 [.ref s, .int (iv x1), .int (iv x2), .int (iv x3), .int (iv x4)] hp n (q_X1_add Γ cI cJ cZ cT s n kn kd ka kf kt kw kc x1 x2 x3 x4) := by
  refine Mt.of rfl (Nat.le_of_ble_eq_true rfl) ?_
  refine Rn.pick (lv' := [(0, .ref s), (1, .int (iv x1)), (2, .int (iv x2)), (3, .int (iv x3)), (4, .int (iv x4))]) [0, 1, 2, 3, 4] rfl ?_
  refine r_aload_n (pc := 0) dX1_add_0 (i := 0) rfl rfl ?_
  refine t_getE (pc := 1) (.int (iv ka)) ht (rd_of DG_0) fX1_19 dX1_add_1 rfl ?_
  refine r_istore (pc := 4) (lv' := [(5, .int (iv ka)), (0, .ref s), (1, .int (iv x1)), (2, .int (iv x2)), (3, .int (iv x3)), (4, .int (iv x4))]) dX1_add_4 (by decide) rfl ?_
  refine r_iload (pc := 6) dX1_add_6 rfl ?_
  refine t_if_lt (pc := 8) (tgt := 18) dX1_add_8 (by decide) (by omega) (fun c8 => ?_) (fun c8 => ?_)
  · exfalso
    omega
  · refine r_iload (pc := 11) dX1_add_11 rfl ?_
    refine r_bipush (pc := 13) (v := iv 60) dX1_add_13 (by decide) ?_
    refine t_icmp_lt (pc := 15) (tgt := 20) dX1_add_15 (by decide) (by omega) (by omega) (fun c15 => ?_) (fun c15 => ?_)
    · refine r_aload_n (pc := 20) dX1_add_20 (i := 0) rfl rfl ?_
      refine t_getE (pc := 21) (.ref (s + 1)) ht (rd_of DG_0) fX1_22 dX1_add_21 rfl ?_
      refine r_iload (pc := 24) dX1_add_24 rfl ?_
      refine r_iload_n (pc := 26) dX1_add_26 (i := 1) rfl rfl ?_
      refine t_iastX (pc := 27) (t0 := 0) ht DG_1 dX1_add_27 rfl (by decide) (by omega) (by omega) (fun hp1 ht2 => ?_)
      have ht3 := RGw_kf ht2
      refine r_aload_n (pc := 28) dX1_add_28 (i := 0) rfl rfl ?_
      refine t_getE (pc := 29) (.ref (s + 2)) ht3 (rd_of DG_0) fX1_26 dX1_add_29 rfl ?_
      refine r_iload (pc := 32) dX1_add_32 rfl ?_
      refine r_iload_n (pc := 34) dX1_add_34 (i := 2) rfl rfl ?_
      refine t_iastX (pc := 35) (t0 := 0) ht3 DG_2 dX1_add_35 rfl (by decide) (by omega) (by omega) (fun hp4 ht5 => ?_)
      have ht6 := RGw_kt ht5
      refine r_aload_n (pc := 36) dX1_add_36 (i := 0) rfl rfl ?_
      refine t_getE (pc := 37) (.ref (s + 3)) ht6 (rd_of DG_0) fX1_29 dX1_add_37 rfl ?_
      refine r_iload (pc := 40) dX1_add_40 rfl ?_
      refine r_iload_n (pc := 42) dX1_add_42 (i := 3) rfl rfl ?_
      refine t_iastX (pc := 43) (t0 := 0) ht6 DG_3 dX1_add_43 rfl (by decide) (by omega) (by omega) (fun hp7 ht8 => ?_)
      have ht9 := RGw_kw ht8
      refine r_aload_n (pc := 44) dX1_add_44 (i := 0) rfl rfl ?_
      refine t_getE (pc := 45) (.ref (s + 4)) ht9 (rd_of DG_0) fX1_32 dX1_add_45 rfl ?_
      refine r_iload (pc := 48) dX1_add_48 rfl ?_
      refine r_iload (pc := 50) dX1_add_50 rfl ?_
      refine t_iastX (pc := 52) (t0 := 0) ht9 DG_4 dX1_add_52 rfl (by decide) (by omega) (by omega) (fun hp10 ht11 => ?_)
      have ht12 := RGw_kc ht11
      refine r_aload_n (pc := 53) dX1_add_53 (i := 0) rfl rfl ?_
      refine r_iload (pc := 54) dX1_add_54 rfl ?_
      refine r_iconst (pc := 56) (v := iv 1) dX1_add_56 (by decide) ?_
      refine r_iadd (pc := 57) (v := iv (ka + 1)) dX1_add_57 (iv_add _ _) ?_
      refine t_putX (pc := 58) (ty := .int) ht12 DG_0 fX1_19 tyX1 tyX1_ok nmX1 (by decide +kernel) (Or.inl rfl) dX1_add_58 (Nat.le_of_ble_eq_true rfl) rfl rfl rfl (fun hp13 ht14 => ?_)
      have ht15 := RGw_ka ht14
      refine r_iconst (pc := 61) (v := iv 1) dX1_add_61 (by decide) ?_
      exact r_zret (pc := 62) dX1_add_62 rfl (iv_nar (by omega)) ⟨rfl, 1, (ka + 1), (fup kf (Int.toNat ka) x1), (fup kt (Int.toNat ka) x2), (fup kw (Int.toNat ka) x3), (fup kc (Int.toNat ka) x4), ht15, rfl, (by omega), (by (first | (intro h9; exfalso; omega) | (intro _; exact ⟨rfl, rfl, rfl, rfl⟩))), (by (first | (intro h9; exfalso; omega) | (intro _; exact ⟨rfl, rfl, rfl, rfl⟩))), (by omega)⟩
    · refine r_iconst (pc := 18) (v := iv 0) dX1_add_18 (by decide) ?_
      exact r_zret (pc := 19) dX1_add_19 rfl (iv_nar (by omega)) ⟨rfl, 0, ka, kf, kt, kw, kc, ht, rfl, (by omega), (by (first | (intro h9; exfalso; omega) | (intro _; exact ⟨rfl, rfl, rfl, rfl⟩))), (by (first | (intro h9; exfalso; omega) | (intro _; exact ⟨rfl, rfl, rfl, rfl⟩))), (by omega)⟩
def q_X1_drawKept (Γ : TG) (cI cJ cZ cT : ClassId) (s : Nat) (n : Nat) (kn : Int) (kd : Int) (ka : Int) (kf : Nat → Int) (kt : Nat → Int) (kw : Nat → Int) (kc : Nat → Int) (ga : Nat) (gF : Nat) (gT : Nat) (gW : Nat) (gC : Nat) (gTl : Nat) (gHd : Nat) (gBy : Nat) (gOu : Nat) (gIn : Nat) (gJo : Nat) (gn : Nat) (gm : Nat) (gq : Nat) (gdr : Int) (x2 x3 : Int) : Option Value → MH → Nat → Prop := fun r hp1 n1 => n1 = n ∧ ∃ (n1 : Int) (d1 : Int) (k1 : Int) (f1 : Nat → Int) (t1 : Nat → Int) (w1 : Nat → Int) (c1 : Nat → Int) (bb : Int), Tw (DG Γ cI cJ cZ cT s n1 d1 k1 f1 t1 w1 c1) hp1 ∧ r = some (.int (iv bb)) ∧ (1 ≤ n1 ∧ n1 ≤ 16) ∧ (0 ≤ d1 ∧ d1 ≤ 1) ∧ (0 ≤ k1 ∧ k1 ≤ 60) ∧ (arP f1 t1 w1 c1 k1 n1) ∧ (bb = 0 ∨ bb = 1)
set_option maxHeartbeats 4000000 in
set_option maxRecDepth 100000 in
theorem s_X1_drawKept {D : va_G} {cI cJ cZ cT : ClassId} {lo b L : Nat} {xs : Nat → Int32} {hp : MH} {n d : Nat} {Γ : TG} {s : Nat} {kn : Int} {kd : Int} {ka : Int} {kf : Nat → Int} {kt : Nat → Int} {kw : Nat → Int} {kc : Nat → Int} {ga : Nat} {gF : Nat} {gT : Nat} {gW : Nat} {gC : Nat} {gTl : Nat} {gHd : Nat} {gBy : Nat} {gOu : Nat} {gIn : Nat} {gJo : Nat} {gn : Nat} {gm : Nat} {gq : Nat} {gdr : Int} {x2 x3 : Int} (hd0 : 3 ≤ d) (hg : TyG Γ cI cJ cZ ga gF gT gW gC gTl gHd gBy gOu gIn gJo gn gm gq gdr) (hltg : s + 6 ≤ ga ∧ s + 6 ≤ gF ∧ s + 6 ≤ gT ∧ s + 6 ≤ gW ∧ s + 6 ≤ gC ∧ s + 6 ≤ gTl ∧ s + 6 ≤ gHd ∧ s + 6 ≤ gBy ∧ s + 6 ≤ gOu ∧ s + 6 ≤ gIn ∧ s + 6 ≤ gJo) (hn_kn : 1 ≤ kn ∧ kn ≤ 16) (hn_kd : 0 ≤ kd ∧ kd ≤ 1) (hn_ka : 0 ≤ ka ∧ ka ≤ 60) (ht : Tw (DG Γ cI cJ cZ cT s kn kd ka kf kt kw kc) hp) (hx2 : (-2147483648) ≤ x2 ∧ x2 ≤ 2147483647) (hx3 : (-2147483648) ≤ x3 ∧ x3 ≤ 2147483647) : Mt (gG D cI cJ cZ cT lo b L xs) mX1_drawKept d 0 0 [.ref s, .ref ga, .int (iv x2), .int (iv x3)] hp n (q_X1_drawKept Γ cI cJ cZ cT s n kn kd ka kf kt kw kc ga gF gT gW gC gTl gHd gBy gOu gIn gJo gn gm gq gdr x2 x3) := by
  refine Mt.of rfl (Nat.le_of_ble_eq_true rfl) ?_
  refine Rn.pick (lv' := [(0, .ref s), (1, .ref ga), (2, .int (iv x2)), (3, .int (iv x3))]) [0, 1, 2, 3] rfl ?_
  obtain ⟨hg_O, hg_from, hg_to, hg_weight, hg_cost, hg_tail, hg_head, hg_by, hg_out, hg_in, hg_joined, hg_b⟩ := id hg
  refine r_aload_n (pc := 0) dX1_drawKept_0 (i := 0) rfl rfl ?_
  refine r_aload_n (pc := 1) dX1_drawKept_1 (i := 1) rfl rfl ?_
  refine t_getE (pc := 2) (.int (iv (gn : Int))) ht (rd_DG (by omega) hg_O) fX1_60 dX1_drawKept_2 rfl ?_
  refine r_aload_n (pc := 5) dX1_drawKept_5 (i := 1) rfl rfl ?_
  refine t_getE (pc := 6) (.int (iv gdr)) ht (rd_DG (by omega) hg_O) fX1_61 dX1_drawKept_6 rfl ?_
  have B22 : ∀ hp22 : MH, Tw (DG Γ cI cJ cZ cT s kn kd ka kf kt kw kc) hp22 → ∀  (u22_2 : Int), 0 ≤ u22_2 ∧ u22_2 ≤ 1 → Rn (gG D cI cJ cZ cT lo b L xs) mX1_drawKept d 22 [(0, .ref s), (1, .ref ga), (2, .int (iv x2)), (3, .int (iv x3))] [.int (iv u22_2), .int (iv (gn : Int)), .ref s] hp22 n 0 0 (q_X1_drawKept Γ cI cJ cZ cT s n kn kd ka kf kt kw kc ga gF gT gW gC gTl gHd gBy gOu gIn gJo gn gm gq gdr x2 x3) := by
    intro hp22 ht22 u22_2 hf22
    obtain ⟨fs5, hfs5⟩ := t_obj ht22 (rd_of DG_0)
    refine r_callV (pc := 22) (as := [.int (iv (gn : Int)), .int (iv u22_2)]) (st := []) kX1_62 rfl dX1_drawKept_22 hfs5 (s_X1_restart (d := d - 1) (x1 := (gn : Int)) (x2 := u22_2) (by omega)  ht22 (by omega) (by omega)) rfl (by omega) (Nat.le_of_ble_eq_true rfl) (Nat.zero_le _) (Nat.zero_le _) rfl (fun r2 hp1 n3 hq4 => ?_)
    obtain ⟨hnn3, ht6, hrr2⟩ := hq4
    subst n3 r2
    change Rn _ _ _ 25 _ [] _ _ _ _ _
    have ha0 : arP kf kt kw kc 0 (gn : Int) := ar_0 _ _ _ _ _
    refine r_iconst (pc := 25) (v := iv 1) dX1_drawKept_25 (by decide) ?_
    refine r_istore (pc := 26) (lv' := [(4, .int (iv 1)), (0, .ref s), (1, .ref ga), (2, .int (iv x2)), (3, .int (iv x3))]) dX1_drawKept_26 (by decide) rfl ?_
    refine r_iconst (pc := 28) (v := iv 0) dX1_drawKept_28 (by decide) ?_
    refine r_istore (pc := 29) (lv' := [(5, .int (iv 0)), (4, .int (iv 1)), (0, .ref s), (1, .ref ga), (2, .int (iv x2)), (3, .int (iv x3))]) dX1_drawKept_29 (by decide) rfl ?_
    have B31 : ∀ k : Nat, ∀ ka31 : Int, ∀ kf31 : Nat → Int, ∀ kt31 : Nat → Int, ∀ kw31 : Nat → Int, ∀ kc31 : Nat → Int, ∀ hp31 : MH, Tw (DG Γ cI cJ cZ cT s (gn : Int) u22_2 ka31 kf31 kt31 kw31 kc31) hp31 → ∀  (v31_4 : Int) (v31_5 : Int), 0 ≤ v31_4 ∧ v31_4 ≤ 1 ∧ 0 ≤ v31_5 ∧ v31_5 ≤ 60 ∧ 0 ≤ ka31 ∧ ka31 ≤ 60 ∧ arP kf31 kt31 kw31 kc31 ka31 (gn : Int) → 60 - v31_5 ≤ (k : Int) → Rn (gG D cI cJ cZ cT lo b L xs) mX1_drawKept d 31 [(0, .ref s), (1, .ref ga), (2, .int (iv x2)), (3, .int (iv x3)), (4, .int (iv v31_4)), (5, .int (iv v31_5))] [] hp31 n 0 0 (q_X1_drawKept Γ cI cJ cZ cT s n kn kd ka kf kt kw kc ga gF gT gW gC gTl gHd gBy gOu gIn gJo gn gm gq gdr x2 x3) := by
      refine lpS _ ?_
      intro k31 ih31 ka31 kf31 kt31 kw31 kc31 hp31 ht31 v31_4 v31_5 hf31 hm31
      obtain ⟨hf31_0, hf31_1, hf31_2, hf31_3, hf31_4, hf31_5, ha31_6⟩ := hf31
      refine r_iload (pc := 31) dX1_drawKept_31 rfl ?_
      refine r_aload_n (pc := 33) dX1_drawKept_33 (i := 1) rfl rfl ?_
      refine t_getE (pc := 34) (.int (iv (gm : Int))) ht31 (rd_DG (by omega) hg_O) fX1_44 dX1_drawKept_34 rfl ?_
      refine t_icmp_ge (pc := 37) (tgt := 140) dX1_drawKept_37 (by decide) (by omega) (by omega) (fun c37 => ?_) (fun c37 => ?_)
      · refine r_iload (pc := 140) dX1_drawKept_140 rfl ?_
        exact r_zret (pc := 142) dX1_drawKept_142 rfl (iv_nar (by omega)) ⟨rfl, (gn : Int), u22_2, ka31, kf31, kt31, kw31, kc31, v31_4, ht31, rfl, (by omega), (by omega), (by omega), (by (first | assumption | exact ar_0 _ _ _ _ _)), (by omega)⟩
      · refine r_aload_n (pc := 40) dX1_drawKept_40 (i := 1) rfl rfl ?_
        refine r_iload_n (pc := 41) dX1_drawKept_41 (i := 2) rfl rfl ?_
        refine r_iload_n (pc := 42) dX1_drawKept_42 (i := 3) rfl rfl ?_
        refine r_iload (pc := 43) dX1_drawKept_43 rfl ?_
        refine t_callSR (pc := 45) (as := [.ref ga, .int (iv x2), .int (iv x3), .int (iv v31_5)]) (st := []) kX1_66 dX1_drawKept_45 (t_X1_isKept (d := d - 1) (x1 := x2) (x2 := x3) (x3 := v31_5) (by omega) (TyG.dg hltg hg)  ht31 (by omega) (by omega) (by omega) (by omega)) rfl (by omega) (Nat.le_of_ble_eq_true rfl) rfl (fun hp7 y9 ht8 by9 => ?_)
        have B134 : ∀ ka134 : Int, ∀ kf134 : Nat → Int, ∀ kt134 : Nat → Int, ∀ kw134 : Nat → Int, ∀ kc134 : Nat → Int, ∀ hp134 : MH, Tw (DG Γ cI cJ cZ cT s (gn : Int) u22_2 ka134 kf134 kt134 kw134 kc134) hp134 → ∀  (v134_4 : Int), 0 ≤ v134_4 ∧ v134_4 ≤ 1 ∧ 0 ≤ ka134 ∧ ka134 ≤ 60 ∧ arP kf134 kt134 kw134 kc134 ka134 (gn : Int) → Rn (gG D cI cJ cZ cT lo b L xs) mX1_drawKept d 134 [(0, .ref s), (1, .ref ga), (2, .int (iv x2)), (3, .int (iv x3)), (4, .int (iv v134_4)), (5, .int (iv v31_5))] [] hp134 n 0 0 (q_X1_drawKept Γ cI cJ cZ cT s n kn kd ka kf kt kw kc ga gF gT gW gC gTl gHd gBy gOu gIn gJo gn gm gq gdr x2 x3) := by
          intro ka134 kf134 kt134 kw134 kc134 hp134 ht134 v134_4 hf134
          obtain ⟨hf134_0, hf134_1, hf134_2, hf134_3, ha134_4⟩ := hf134
          refine r_iinc (pc := 134) (v := iv (v31_5 + 1)) (lv' := [(5, .int (iv (v31_5 + 1))), (0, .ref s), (1, .ref ga), (2, .int (iv x2)), (3, .int (iv x3)), (4, .int (iv v134_4))]) dX1_drawKept_134 rfl (iv_add _ _) (by decide) rfl ?_
          refine r_goto (pc := 137) (tgt := 31) dX1_drawKept_137 (by decide) ?_
          refine Rn.pick (lv' := [(0, .ref s), (1, .ref ga), (2, .int (iv x2)), (3, .int (iv x3)), (4, .int (iv v134_4)), (5, .int (iv (v31_5 + 1)))]) [1, 2, 3, 4, 5, 0] rfl ?_
          exact ih31 (Int.toNat (60 - (v31_5 + 1))) (by omega) ka134 kf134 kt134 kw134 kc134 _ ht134 v134_4 (v31_5 + 1) ⟨by omega, by omega, by omega, by omega, by omega, by omega, by assumption⟩ (by omega)
        refine t_if_eq (pc := 48) (tgt := 134) dX1_drawKept_48 (by decide) (by omega) (fun c48 => ?_) (fun c48 => ?_)
        · refine Rn.pick (lv' := [(0, .ref s), (1, .ref ga), (2, .int (iv x2)), (3, .int (iv x3)), (4, .int (iv v31_4)), (5, .int (iv v31_5))]) [0, 1, 2, 3, 4, 5] rfl ?_
          exact B134 ka31 kf31 kt31 kw31 kc31 _ ht8 v31_4 ⟨by omega, by omega, by omega, by omega, by assumption⟩
        · refine r_iload_n (pc := 51) dX1_drawKept_51 (i := 2) rfl rfl ?_
          have B72 : ∀ hp72 : MH, Tw (DG Γ cI cJ cZ cT s (gn : Int) u22_2 ka31 kf31 kt31 kw31 kc31) hp72 → ∀  (u72_0 : Int), 0 ≤ u72_0 ∧ u72_0 ≤ 15 ∧ u72_0 < (gn : Int) → Rn (gG D cI cJ cZ cT lo b L xs) mX1_drawKept d 72 [(0, .ref s), (1, .ref ga), (2, .int (iv x2)), (3, .int (iv x3)), (4, .int (iv v31_4)), (5, .int (iv v31_5))] [.int (iv u72_0)] hp72 n 0 0 (q_X1_drawKept Γ cI cJ cZ cT s n kn kd ka kf kt kw kc ga gF gT gW gC gTl gHd gBy gOu gIn gJo gn gm gq gdr x2 x3) := by
            intro hp72 ht72 u72_0 hf72
            refine r_istore (pc := 72) (lv' := [(6, .int (iv u72_0)), (0, .ref s), (1, .ref ga), (2, .int (iv x2)), (3, .int (iv x3)), (4, .int (iv v31_4)), (5, .int (iv v31_5))]) dX1_drawKept_72 (by decide) rfl ?_
            refine r_iload_n (pc := 74) dX1_drawKept_74 (i := 2) rfl rfl ?_
            have B95 : ∀ hp95 : MH, Tw (DG Γ cI cJ cZ cT s (gn : Int) u22_2 ka31 kf31 kt31 kw31 kc31) hp95 → ∀  (u95_0 : Int), 0 ≤ u95_0 ∧ u95_0 ≤ 15 ∧ u95_0 < (gn : Int) → Rn (gG D cI cJ cZ cT lo b L xs) mX1_drawKept d 95 [(0, .ref s), (1, .ref ga), (2, .int (iv x2)), (3, .int (iv x3)), (4, .int (iv v31_4)), (5, .int (iv v31_5)), (6, .int (iv u72_0))] [.int (iv u95_0)] hp95 n 0 0 (q_X1_drawKept Γ cI cJ cZ cT s n kn kd ka kf kt kw kc ga gF gT gW gC gTl gHd gBy gOu gIn gJo gn gm gq gdr x2 x3) := by
              intro hp95 ht95 u95_0 hf95
              refine r_istore (pc := 95) (lv' := [(7, .int (iv u95_0)), (0, .ref s), (1, .ref ga), (2, .int (iv x2)), (3, .int (iv x3)), (4, .int (iv v31_4)), (5, .int (iv v31_5)), (6, .int (iv u72_0))]) dX1_drawKept_95 (by decide) rfl ?_
              refine r_aload_n (pc := 97) dX1_drawKept_97 (i := 0) rfl rfl ?_
              refine r_iload (pc := 98) dX1_drawKept_98 rfl ?_
              refine r_iload (pc := 100) dX1_drawKept_100 rfl ?_
              refine r_aload_n (pc := 102) dX1_drawKept_102 (i := 1) rfl rfl ?_
              refine t_getE (pc := 103) (.ref gW) ht95 (rd_DG (by omega) hg_O) fX1_72 dX1_drawKept_103 rfl ?_
              refine r_iload (pc := 106) dX1_drawKept_106 rfl ?_
              refine t_ialdR (pc := 108) (t0 := 0) ht95 (rd_DG (by omega) hg_weight) dX1_drawKept_108 rfl (by omega) (by omega) (fun y10 by10 => ?_)
              refine r_aload_n (pc := 109) dX1_drawKept_109 (i := 1) rfl rfl ?_
              refine t_getE (pc := 110) (.ref gC) ht95 (rd_DG (by omega) hg_O) fX1_73 dX1_drawKept_110 rfl ?_
              refine r_iload (pc := 113) dX1_drawKept_113 rfl ?_
              refine t_ialdR (pc := 115) (t0 := 0) ht95 (rd_DG (by omega) hg_cost) dX1_drawKept_115 rfl (by omega) (by omega) (fun y11 by11 => ?_)
              obtain ⟨fs16, hfs16⟩ := t_obj ht95 (rd_of DG_0)
              refine r_callV (pc := 116) (as := [.int (iv u72_0), .int (iv u95_0), .int (iv y10), .int (iv y11)]) (st := []) kX1_74 rfl dX1_drawKept_116 hfs16 (s_X1_add (d := d - 1) (x1 := u72_0) (x2 := u95_0) (x3 := y10) (x4 := y11) (by omega)  (by omega) ht95 (by omega) (by omega) (by omega) (by omega)) rfl (by omega) (Nat.le_of_ble_eq_true rfl) (Nat.zero_le _) (Nat.zero_le _) rfl (fun r13 hp12 n14 hq15 => ?_)
              obtain ⟨hnn14, bb_18, k1_19, f1_20, t1_21, w1_22, c1_23, ht17, hrr13, hhq150, hhq151, hhq152, hhq153⟩ := hq15
              subst n14 r13
              have hhq150 : (bb_18 = 1 ∧ ka31 < 60 ∧ k1_19 = ka31 + 1) ∨ (bb_18 = 0 ∧ 60 ≤ ka31 ∧ k1_19 = ka31) := hhq150
              have hhq151 : ka31 < 60 → f1_20 = fup kf31 (Int.toNat ka31) u72_0 ∧ t1_21 = fup kt31 (Int.toNat ka31) u95_0 ∧ w1_22 = fup kw31 (Int.toNat ka31) y10 ∧ c1_23 = fup kc31 (Int.toNat ka31) y11 := hhq151
              have hhq152 : 60 ≤ ka31 → f1_20 = kf31 ∧ t1_21 = kt31 ∧ w1_22 = kw31 ∧ c1_23 = kc31 := hhq152
              have hhq153 : 0 ≤ k1_19 ∧ k1_19 ≤ 60 := hhq153
              change Rn _ _ _ 119 _ [.int (iv bb_18)] _ _ _ _ _
              have hapq24 : arP f1_20 t1_21 w1_22 c1_23 k1_19 (gn : Int) := ar_add (by assumption) (by omega) (by omega) (by omega) (by omega) (by omega) hhq150 hhq151 hhq152
              have B132 : ∀ hp132 : MH, Tw (DG Γ cI cJ cZ cT s (gn : Int) u22_2 k1_19 f1_20 t1_21 w1_22 c1_23) hp132 → ∀  (u132_0 : Int), 0 ≤ u132_0 ∧ u132_0 ≤ 1 → Rn (gG D cI cJ cZ cT lo b L xs) mX1_drawKept d 132 [(0, .ref s), (1, .ref ga), (2, .int (iv x2)), (3, .int (iv x3)), (5, .int (iv v31_5))] [.int (iv u132_0)] hp132 n 0 0 (q_X1_drawKept Γ cI cJ cZ cT s n kn kd ka kf kt kw kc ga gF gT gW gC gTl gHd gBy gOu gIn gJo gn gm gq gdr x2 x3) := by
                intro hp132 ht132 u132_0 hf132
                refine r_istore (pc := 132) (lv' := [(4, .int (iv u132_0)), (0, .ref s), (1, .ref ga), (2, .int (iv x2)), (3, .int (iv x3)), (5, .int (iv v31_5))]) dX1_drawKept_132 (by decide) rfl ?_
                refine Rn.pick (lv' := [(0, .ref s), (1, .ref ga), (2, .int (iv x2)), (3, .int (iv x3)), (4, .int (iv u132_0)), (5, .int (iv v31_5))]) [1, 2, 3, 4, 0, 5] rfl ?_
                exact B134 k1_19 f1_20 t1_21 w1_22 c1_23 _ ht132 u132_0 ⟨by omega, by omega, by omega, by omega, by assumption⟩
              have B131 : ∀ hp131 : MH, Tw (DG Γ cI cJ cZ cT s (gn : Int) u22_2 k1_19 f1_20 t1_21 w1_22 c1_23) hp131 → True → Rn (gG D cI cJ cZ cT lo b L xs) mX1_drawKept d 131 [(0, .ref s), (1, .ref ga), (2, .int (iv x2)), (3, .int (iv x3)), (5, .int (iv v31_5))] [] hp131 n 0 0 (q_X1_drawKept Γ cI cJ cZ cT s n kn kd ka kf kt kw kc ga gF gT gW gC gTl gHd gBy gOu gIn gJo gn gm gq gdr x2 x3) := by
                intro hp131 ht131 hf131
                refine r_iconst (pc := 131) (v := iv 0) dX1_drawKept_131 (by decide) ?_
                refine Rn.pick (lv' := [(0, .ref s), (1, .ref ga), (2, .int (iv x2)), (3, .int (iv x3)), (5, .int (iv v31_5))]) [0, 1, 2, 3, 4] rfl ?_
                exact B132 _ ht131 0 ⟨by omega, by omega⟩
              refine t_if_eq (pc := 119) (tgt := 131) dX1_drawKept_119 (by decide) (by omega) (fun c119 => ?_) (fun c119 => ?_)
              · refine Rn.pick (lv' := [(0, .ref s), (1, .ref ga), (2, .int (iv x2)), (3, .int (iv x3)), (5, .int (iv v31_5))]) [1, 2, 3, 4, 6] rfl ?_
                exact B131 _ ht17 trivial
              · refine r_iload (pc := 122) dX1_drawKept_122 rfl ?_
                refine t_if_eq (pc := 124) (tgt := 131) dX1_drawKept_124 (by decide) (by omega) (fun c124 => ?_) (fun c124 => ?_)
                · refine Rn.pick (lv' := [(0, .ref s), (1, .ref ga), (2, .int (iv x2)), (3, .int (iv x3)), (5, .int (iv v31_5))]) [1, 2, 3, 4, 6] rfl ?_
                  exact B131 _ ht17 trivial
                · refine r_iconst (pc := 127) (v := iv 1) dX1_drawKept_127 (by decide) ?_
                  refine r_goto (pc := 128) (tgt := 132) dX1_drawKept_128 (by decide) ?_
                  refine Rn.pick (lv' := [(0, .ref s), (1, .ref ga), (2, .int (iv x2)), (3, .int (iv x3)), (5, .int (iv v31_5))]) [1, 2, 3, 4, 6] rfl ?_
                  exact B132 _ ht17 1 ⟨by omega, by omega⟩
            refine t_if_ne (pc := 75) (tgt := 88) dX1_drawKept_75 (by decide) (by omega) (fun c75 => ?_) (fun c75 => ?_)
            · refine r_aload_n (pc := 88) dX1_drawKept_88 (i := 1) rfl rfl ?_
              refine t_getE (pc := 89) (.ref gT) ht72 (rd_DG (by omega) hg_O) fX1_70 dX1_drawKept_89 rfl ?_
              refine r_iload (pc := 92) dX1_drawKept_92 rfl ?_
              refine t_ialdR (pc := 94) (t0 := 0) ht72 (rd_DG (by omega) hg_to) dX1_drawKept_94 rfl (by omega) (by omega) (fun y25 by25 => ?_)
              refine Rn.pick (lv' := [(0, .ref s), (1, .ref ga), (2, .int (iv x2)), (3, .int (iv x3)), (4, .int (iv v31_4)), (5, .int (iv v31_5)), (6, .int (iv u72_0))]) [1, 2, 3, 4, 5, 6, 0] rfl ?_
              exact B95 _ ht72 y25 ⟨by omega, by omega, by omega⟩
            · refine r_aload_n (pc := 78) dX1_drawKept_78 (i := 1) rfl rfl ?_
              refine t_getE (pc := 79) (.ref gF) ht72 (rd_DG (by omega) hg_O) fX1_71 dX1_drawKept_79 rfl ?_
              refine r_iload (pc := 82) dX1_drawKept_82 rfl ?_
              refine t_ialdR (pc := 84) (t0 := 0) ht72 (rd_DG (by omega) hg_from) dX1_drawKept_84 rfl (by omega) (by omega) (fun y26 by26 => ?_)
              refine r_goto (pc := 85) (tgt := 95) dX1_drawKept_85 (by decide) ?_
              refine Rn.pick (lv' := [(0, .ref s), (1, .ref ga), (2, .int (iv x2)), (3, .int (iv x3)), (4, .int (iv v31_4)), (5, .int (iv v31_5)), (6, .int (iv u72_0))]) [1, 2, 3, 4, 5, 6, 0] rfl ?_
              exact B95 _ ht72 y26 ⟨by omega, by omega, by omega⟩
          refine t_if_ne (pc := 52) (tgt := 65) dX1_drawKept_52 (by decide) (by omega) (fun c52 => ?_) (fun c52 => ?_)
          · refine r_aload_n (pc := 65) dX1_drawKept_65 (i := 1) rfl rfl ?_
            refine t_getE (pc := 66) (.ref gF) ht8 (rd_DG (by omega) hg_O) fX1_71 dX1_drawKept_66 rfl ?_
            refine r_iload (pc := 69) dX1_drawKept_69 rfl ?_
            refine t_ialdR (pc := 71) (t0 := 0) ht8 (rd_DG (by omega) hg_from) dX1_drawKept_71 rfl (by omega) (by omega) (fun y27 by27 => ?_)
            refine Rn.pick (lv' := [(0, .ref s), (1, .ref ga), (2, .int (iv x2)), (3, .int (iv x3)), (4, .int (iv v31_4)), (5, .int (iv v31_5))]) [0, 1, 2, 3, 4, 5] rfl ?_
            exact B72 _ ht8 y27 ⟨by omega, by omega, by omega⟩
          · refine r_aload_n (pc := 55) dX1_drawKept_55 (i := 1) rfl rfl ?_
            refine t_getE (pc := 56) (.ref gT) ht8 (rd_DG (by omega) hg_O) fX1_70 dX1_drawKept_56 rfl ?_
            refine r_iload (pc := 59) dX1_drawKept_59 rfl ?_
            refine t_ialdR (pc := 61) (t0 := 0) ht8 (rd_DG (by omega) hg_to) dX1_drawKept_61 rfl (by omega) (by omega) (fun y28 by28 => ?_)
            refine r_goto (pc := 62) (tgt := 72) dX1_drawKept_62 (by decide) ?_
            refine Rn.pick (lv' := [(0, .ref s), (1, .ref ga), (2, .int (iv x2)), (3, .int (iv x3)), (4, .int (iv v31_4)), (5, .int (iv v31_5))]) [0, 1, 2, 3, 4, 5] rfl ?_
            exact B72 _ ht8 y28 ⟨by omega, by omega, by omega⟩
    refine Rn.pick (lv' := [(0, .ref s), (1, .ref ga), (2, .int (iv x2)), (3, .int (iv x3)), (4, .int (iv 1)), (5, .int (iv 0))]) [2, 3, 4, 5, 1, 0] rfl ?_
    exact B31 (Int.toNat (60 - 0)) 0 kf kt kw kc _ ht6 1 0 ⟨by omega, by omega, by omega, by omega, by omega, by omega, by assumption⟩ (by omega)
  have B21 : ∀ hp21 : MH, Tw (DG Γ cI cJ cZ cT s kn kd ka kf kt kw kc) hp21 → True → Rn (gG D cI cJ cZ cT lo b L xs) mX1_drawKept d 21 [(0, .ref s), (1, .ref ga), (2, .int (iv x2)), (3, .int (iv x3))] [.int (iv (gn : Int)), .ref s] hp21 n 0 0 (q_X1_drawKept Γ cI cJ cZ cT s n kn kd ka kf kt kw kc ga gF gT gW gC gTl gHd gBy gOu gIn gJo gn gm gq gdr x2 x3) := by
    intro hp21 ht21 hf21
    refine r_iconst (pc := 21) (v := iv 0) dX1_drawKept_21 (by decide) ?_
    refine Rn.pick (lv' := [(0, .ref s), (1, .ref ga), (2, .int (iv x2)), (3, .int (iv x3))]) [0, 1, 2, 3] rfl ?_
    exact B22 _ ht21 0 ⟨by omega, by omega⟩
  refine t_if_eq (pc := 9) (tgt := 21) dX1_drawKept_9 (by decide) (by omega) (fun c9 => ?_) (fun c9 => ?_)
  · refine Rn.pick (lv' := [(0, .ref s), (1, .ref ga), (2, .int (iv x2)), (3, .int (iv x3))]) [0, 1, 2, 3] rfl ?_
    exact B21 _ ht trivial
  · refine r_iload_n (pc := 12) dX1_drawKept_12 (i := 2) rfl rfl ?_
    refine r_iconst (pc := 13) (v := iv 1) dX1_drawKept_13 (by decide) ?_
    refine t_icmp_eq (pc := 14) (tgt := 21) dX1_drawKept_14 (by decide) (by omega) (by omega) (fun c14 => ?_) (fun c14 => ?_)
    · refine Rn.pick (lv' := [(0, .ref s), (1, .ref ga), (2, .int (iv x2)), (3, .int (iv x3))]) [0, 1, 2, 3] rfl ?_
      exact B21 _ ht trivial
    · refine r_iconst (pc := 17) (v := iv 1) dX1_drawKept_17 (by decide) ?_
      refine r_goto (pc := 18) (tgt := 22) dX1_drawKept_18 (by decide) ?_
      refine Rn.pick (lv' := [(0, .ref s), (1, .ref ga), (2, .int (iv x2)), (3, .int (iv x3))]) [0, 1, 2, 3] rfl ?_
      exact B22 _ ht 1 ⟨by omega, by omega⟩
def q_X1_drawPart (Γ : TG) (cI cJ cZ cT : ClassId) (s : Nat) (n : Nat) (kn : Int) (kd : Int) (ka : Int) (kf : Nat → Int) (kt : Nat → Int) (kw : Nat → Int) (kc : Nat → Int) (ga : Nat) (gF : Nat) (gT : Nat) (gW : Nat) (gC : Nat) (gTl : Nat) (gHd : Nat) (gBy : Nat) (gOu : Nat) (gIn : Nat) (gJo : Nat) (gn : Nat) (gm : Nat) (gq : Nat) (gdr : Int) (x2 : Int) : Option Value → MH → Nat → Prop := fun r hp1 n1 => n1 = n ∧ ∃ (n1 : Int) (d1 : Int) (k1 : Int) (f1 : Nat → Int) (t1 : Nat → Int) (w1 : Nat → Int) (c1 : Nat → Int) (bb : Int), Tw (DG Γ cI cJ cZ cT s n1 d1 k1 f1 t1 w1 c1) hp1 ∧ r = some (.int (iv bb)) ∧ (1 ≤ n1 ∧ n1 ≤ 16) ∧ (0 ≤ d1 ∧ d1 ≤ 1) ∧ (0 ≤ k1 ∧ k1 ≤ 60) ∧ (arP f1 t1 w1 c1 k1 n1) ∧ (bb = 0 ∨ bb = 1)
set_option maxHeartbeats 4000000 in
set_option maxRecDepth 100000 in
theorem s_X1_drawPart {D : va_G} {cI cJ cZ cT : ClassId} {lo b L : Nat} {xs : Nat → Int32} {hp : MH} {n d : Nat} {Γ : TG} {s : Nat} {kn : Int} {kd : Int} {ka : Int} {kf : Nat → Int} {kt : Nat → Int} {kw : Nat → Int} {kc : Nat → Int} {ga : Nat} {gF : Nat} {gT : Nat} {gW : Nat} {gC : Nat} {gTl : Nat} {gHd : Nat} {gBy : Nat} {gOu : Nat} {gIn : Nat} {gJo : Nat} {gn : Nat} {gm : Nat} {gq : Nat} {gdr : Int} {x2 : Int} (hd0 : 2 ≤ d) (hg : TyG Γ cI cJ cZ ga gF gT gW gC gTl gHd gBy gOu gIn gJo gn gm gq gdr) (hltg : s + 6 ≤ ga ∧ s + 6 ≤ gF ∧ s + 6 ≤ gT ∧ s + 6 ≤ gW ∧ s + 6 ≤ gC ∧ s + 6 ≤ gTl ∧ s + 6 ≤ gHd ∧ s + 6 ≤ gBy ∧ s + 6 ≤ gOu ∧ s + 6 ≤ gIn ∧ s + 6 ≤ gJo) (hn_kn : 1 ≤ kn ∧ kn ≤ 16) (hn_kd : 0 ≤ kd ∧ kd ≤ 1) (hn_ka : 0 ≤ ka ∧ ka ≤ 60) (ht : Tw (DG Γ cI cJ cZ cT s kn kd ka kf kt kw kc) hp) (hx2 : 1 ≤ x2 ∧ x2 ≤ 65535) : Mt (gG D cI cJ cZ cT lo b L xs) mX1_drawPart d 0 0 [.ref s, .ref ga, .int (iv x2)] hp n (q_X1_drawPart Γ cI cJ cZ cT s n kn kd ka kf kt kw kc ga gF gT gW gC gTl gHd gBy gOu gIn gJo gn gm gq gdr x2) := by
  refine Mt.of rfl (Nat.le_of_ble_eq_true rfl) ?_
  refine Rn.pick (lv' := [(0, .ref s), (1, .ref ga), (2, .int (iv x2))]) [0, 1, 2] rfl ?_
  obtain ⟨hg_O, hg_from, hg_to, hg_weight, hg_cost, hg_tail, hg_head, hg_by, hg_out, hg_in, hg_joined, hg_b⟩ := id hg
  have hbp := bc_pos (x := x2) (by omega)
  refine r_aload_n (pc := 0) dX1_drawPart_0 (i := 0) rfl rfl ?_
  refine r_iload_n (pc := 1) dX1_drawPart_1 (i := 2) rfl rfl ?_
  refine t_callSI (pc := 2) (as := [.int (iv x2)]) (st := [.ref s]) kX1_85 dX1_drawPart_2 (t_bitCountx (d := d - 1) (x := x2) (by omega) ht (by omega)) rfl (by omega) (Nat.le_of_ble_eq_true rfl) rfl (fun hp2 y1 ht3 by1 => ?_)
  have ey1 : y1 = bcI x2 16 := by1
  subst ey1
  have ry1 := bc_le x2 16
  refine r_aload_n (pc := 5) dX1_drawPart_5 (i := 1) rfl rfl ?_
  refine t_getE (pc := 6) (.int (iv gdr)) ht3 (rd_DG (by omega) hg_O) fX1_61 dX1_drawPart_6 rfl ?_
  obtain ⟨fs8, hfs8⟩ := t_obj ht3 (rd_of DG_0)
  refine r_callV (pc := 9) (as := [.int (iv (bcI x2 16)), .int (iv gdr)]) (st := []) kX1_62 rfl dX1_drawPart_9 hfs8 (s_X1_restart (d := d - 1) (x1 := bcI x2 16) (x2 := gdr) (by omega)  ht3 (by omega) (by omega)) rfl (by omega) (Nat.le_of_ble_eq_true rfl) (Nat.zero_le _) (Nat.zero_le _) rfl (fun r5 hp4 n6 hq7 => ?_)
  obtain ⟨hnn6, ht9, hrr5⟩ := hq7
  subst n6 r5
  change Rn _ _ _ 12 _ [] _ _ _ _ _
  have ha0 : arP kf kt kw kc 0 (bcI x2 16) := ar_0 _ _ _ _ _
  refine r_iconst (pc := 12) (v := iv 1) dX1_drawPart_12 (by decide) ?_
  refine r_istore_n (pc := 13) (lv' := [(3, .int (iv 1)), (0, .ref s), (1, .ref ga), (2, .int (iv x2))]) dX1_drawPart_13 (i := 3) rfl (by decide) rfl ?_
  refine r_iconst (pc := 14) (v := iv 0) dX1_drawPart_14 (by decide) ?_
  refine r_istore (pc := 15) (lv' := [(4, .int (iv 0)), (3, .int (iv 1)), (0, .ref s), (1, .ref ga), (2, .int (iv x2))]) dX1_drawPart_15 (by decide) rfl ?_
  have B17 : ∀ k : Nat, ∀ ka17 : Int, ∀ kf17 : Nat → Int, ∀ kt17 : Nat → Int, ∀ kw17 : Nat → Int, ∀ kc17 : Nat → Int, ∀ hp17 : MH, Tw (DG Γ cI cJ cZ cT s (bcI x2 16) gdr ka17 kf17 kt17 kw17 kc17) hp17 → ∀  (v17_3 : Int) (v17_4 : Int), 0 ≤ v17_3 ∧ v17_3 ≤ 1 ∧ 0 ≤ v17_4 ∧ v17_4 ≤ 60 ∧ 0 ≤ ka17 ∧ ka17 ≤ 60 ∧ arP kf17 kt17 kw17 kc17 ka17 (bcI x2 16) → 60 - v17_4 ≤ (k : Int) → Rn (gG D cI cJ cZ cT lo b L xs) mX1_drawPart d 17 [(0, .ref s), (1, .ref ga), (2, .int (iv x2)), (3, .int (iv v17_3)), (4, .int (iv v17_4))] [] hp17 n 0 0 (q_X1_drawPart Γ cI cJ cZ cT s n kn kd ka kf kt kw kc ga gF gT gW gC gTl gHd gBy gOu gIn gJo gn gm gq gdr x2) := by
    refine lpS _ ?_
    intro k17 ih17 ka17 kf17 kt17 kw17 kc17 hp17 ht17 v17_3 v17_4 hf17 hm17
    obtain ⟨hf17_0, hf17_1, hf17_2, hf17_3, hf17_4, hf17_5, ha17_6⟩ := hf17
    refine r_iload (pc := 17) dX1_drawPart_17 rfl ?_
    refine r_aload_n (pc := 19) dX1_drawPart_19 (i := 1) rfl rfl ?_
    refine t_getE (pc := 20) (.int (iv (gm : Int))) ht17 (rd_DG (by omega) hg_O) fX1_44 dX1_drawPart_20 rfl ?_
    refine t_icmp_ge (pc := 23) (tgt := 107) dX1_drawPart_23 (by decide) (by omega) (by omega) (fun c23 => ?_) (fun c23 => ?_)
    · refine r_iload_n (pc := 107) dX1_drawPart_107 (i := 3) rfl rfl ?_
      exact r_zret (pc := 108) dX1_drawPart_108 rfl (iv_nar (by omega)) ⟨rfl, (bcI x2 16), gdr, ka17, kf17, kt17, kw17, kc17, v17_3, ht17, rfl, (by omega), (by omega), (by omega), (by (first | assumption | exact ar_0 _ _ _ _ _)), (by omega)⟩
    · refine r_aload_n (pc := 26) dX1_drawPart_26 (i := 1) rfl rfl ?_
      refine t_getE (pc := 27) (.ref gF) ht17 (rd_DG (by omega) hg_O) fX1_71 dX1_drawPart_27 rfl ?_
      refine r_iload (pc := 30) dX1_drawPart_30 rfl ?_
      refine t_ialdR (pc := 32) (t0 := 0) ht17 (rd_DG (by omega) hg_from) dX1_drawPart_32 rfl (by omega) (by omega) (fun y10 by10 => ?_)
      refine r_istore (pc := 33) (lv' := [(5, .int (iv y10)), (0, .ref s), (1, .ref ga), (2, .int (iv x2)), (3, .int (iv v17_3)), (4, .int (iv v17_4))]) dX1_drawPart_33 (by decide) rfl ?_
      refine r_aload_n (pc := 35) dX1_drawPart_35 (i := 1) rfl rfl ?_
      refine t_getE (pc := 36) (.ref gT) ht17 (rd_DG (by omega) hg_O) fX1_70 dX1_drawPart_36 rfl ?_
      refine r_iload (pc := 39) dX1_drawPart_39 rfl ?_
      refine t_ialdR (pc := 41) (t0 := 0) ht17 (rd_DG (by omega) hg_to) dX1_drawPart_41 rfl (by omega) (by omega) (fun y11 by11 => ?_)
      refine r_istore (pc := 42) (lv' := [(6, .int (iv y11)), (5, .int (iv y10)), (0, .ref s), (1, .ref ga), (2, .int (iv x2)), (3, .int (iv v17_3)), (4, .int (iv v17_4))]) dX1_drawPart_42 (by decide) rfl ?_
      refine r_iload_n (pc := 44) dX1_drawPart_44 (i := 2) rfl rfl ?_
      refine r_iload (pc := 45) dX1_drawPart_45 rfl ?_
      have hq47 := shr_le (Int.toNat x2) (Int.toNat y10)
      refine r_ishr (pc := 47) (v := iv ((Int.toNat x2 >>> Int.toNat y10 : Nat) : Int)) dX1_drawPart_47 (shr_e (by omega) (by omega)) ?_
      refine r_iload_n (pc := 48) dX1_drawPart_48 (i := 2) rfl rfl ?_
      refine r_iload (pc := 49) dX1_drawPart_49 rfl ?_
      have hq51 := shr_le (Int.toNat x2) (Int.toNat y11)
      refine r_ishr (pc := 51) (v := iv ((Int.toNat x2 >>> Int.toNat y11 : Nat) : Int)) dX1_drawPart_51 (shr_e (by omega) (by omega)) ?_
      have hq52 := Nat.and_le_left (n := (Int.toNat x2 >>> Int.toNat y10)) (m := (Int.toNat x2 >>> Int.toNat y11))
      refine r_iand (pc := 52) (v := iv (((Int.toNat x2 >>> Int.toNat y10) &&& (Int.toNat x2 >>> Int.toNat y11) : Nat) : Int)) dX1_drawPart_52 (iv_and (by omega) (by omega)) ?_
      refine r_iconst (pc := 53) (v := iv 1) dX1_drawPart_53 (by decide) ?_
      refine r_iand (pc := 54) (v := iv ((((Int.toNat x2 >>> Int.toNat y10) &&& (Int.toNat x2 >>> Int.toNat y11) : Nat) : Int) % 2)) dX1_drawPart_54 (and1_e _ (by omega)) ?_
      have B101 : ∀ ka101 : Int, ∀ kf101 : Nat → Int, ∀ kt101 : Nat → Int, ∀ kw101 : Nat → Int, ∀ kc101 : Nat → Int, ∀ hp101 : MH, Tw (DG Γ cI cJ cZ cT s (bcI x2 16) gdr ka101 kf101 kt101 kw101 kc101) hp101 → ∀  (v101_3 : Int), 0 ≤ v101_3 ∧ v101_3 ≤ 1 ∧ 0 ≤ ka101 ∧ ka101 ≤ 60 ∧ arP kf101 kt101 kw101 kc101 ka101 (bcI x2 16) → Rn (gG D cI cJ cZ cT lo b L xs) mX1_drawPart d 101 [(0, .ref s), (1, .ref ga), (2, .int (iv x2)), (3, .int (iv v101_3)), (4, .int (iv v17_4))] [] hp101 n 0 0 (q_X1_drawPart Γ cI cJ cZ cT s n kn kd ka kf kt kw kc ga gF gT gW gC gTl gHd gBy gOu gIn gJo gn gm gq gdr x2) := by
        intro ka101 kf101 kt101 kw101 kc101 hp101 ht101 v101_3 hf101
        obtain ⟨hf101_0, hf101_1, hf101_2, hf101_3, ha101_4⟩ := hf101
        refine r_iinc (pc := 101) (v := iv (v17_4 + 1)) (lv' := [(4, .int (iv (v17_4 + 1))), (0, .ref s), (1, .ref ga), (2, .int (iv x2)), (3, .int (iv v101_3))]) dX1_drawPart_101 rfl (iv_add _ _) (by decide) rfl ?_
        refine r_goto (pc := 104) (tgt := 17) dX1_drawPart_104 (by decide) ?_
        refine Rn.pick (lv' := [(0, .ref s), (1, .ref ga), (2, .int (iv x2)), (3, .int (iv v101_3)), (4, .int (iv (v17_4 + 1)))]) [1, 2, 3, 4, 0] rfl ?_
        exact ih17 (Int.toNat (60 - (v17_4 + 1))) (by omega) ka101 kf101 kt101 kw101 kc101 _ ht101 v101_3 (v17_4 + 1) ⟨by omega, by omega, by omega, by omega, by omega, by omega, by assumption⟩ (by omega)
      refine t_if_eq (pc := 55) (tgt := 101) dX1_drawPart_55 (by decide) (by omega) (fun c55 => ?_) (fun c55 => ?_)
      · refine Rn.pick (lv' := [(0, .ref s), (1, .ref ga), (2, .int (iv x2)), (3, .int (iv v17_3)), (4, .int (iv v17_4))]) [2, 3, 4, 5, 6] rfl ?_
        exact B101 ka17 kf17 kt17 kw17 kc17 _ ht17 v17_3 ⟨by omega, by omega, by omega, by omega, by assumption⟩
      · have hab := and2_b (show _ ≠ 0 from c55)
        have hra := bc_lt (x := x2) hab.1 (by omega)
        have hrb := bc_lt (x := x2) hab.2 (by omega)
        refine r_aload_n (pc := 58) dX1_drawPart_58 (i := 0) rfl rfl ?_
        refine r_iload_n (pc := 59) dX1_drawPart_59 (i := 2) rfl rfl ?_
        refine r_iload (pc := 60) dX1_drawPart_60 rfl ?_
        refine t_callSI (pc := 62) (as := [.int (iv x2), .int (iv y10)]) (st := [.ref s]) kX1_91 dX1_drawPart_62 (t_X1_rank (d := d - 1) (x0 := x2) (x1 := y10) (by omega)   ht17 (by omega) (by omega) ) rfl (by omega) (Nat.le_of_ble_eq_true rfl) rfl (fun hp12 y14 ht13 by14 => ?_)
        have ey14 : y14 = bcI x2 (Int.toNat y10) := by14
        subst ey14
        have ry14 := bc_le x2 (Int.toNat y10)
        refine r_iload_n (pc := 65) dX1_drawPart_65 (i := 2) rfl rfl ?_
        refine r_iload (pc := 66) dX1_drawPart_66 rfl ?_
        refine t_callSI (pc := 68) (as := [.int (iv x2), .int (iv y11)]) (st := [.int (iv (bcI x2 (Int.toNat y10))), .ref s]) kX1_91 dX1_drawPart_68 (t_X1_rank (d := d - 1) (x0 := x2) (x1 := y11) (by omega)   ht13 (by omega) (by omega) ) rfl (by omega) (Nat.le_of_ble_eq_true rfl) rfl (fun hp15 y17 ht16 by17 => ?_)
        have ey17 : y17 = bcI x2 (Int.toNat y11) := by17
        subst ey17
        have ry17 := bc_le x2 (Int.toNat y11)
        refine r_aload_n (pc := 71) dX1_drawPart_71 (i := 1) rfl rfl ?_
        refine t_getE (pc := 72) (.ref gW) ht16 (rd_DG (by omega) hg_O) fX1_72 dX1_drawPart_72 rfl ?_
        refine r_iload (pc := 75) dX1_drawPart_75 rfl ?_
        refine t_ialdR (pc := 77) (t0 := 0) ht16 (rd_DG (by omega) hg_weight) dX1_drawPart_77 rfl (by omega) (by omega) (fun y18 by18 => ?_)
        refine r_aload_n (pc := 78) dX1_drawPart_78 (i := 1) rfl rfl ?_
        refine t_getE (pc := 79) (.ref gC) ht16 (rd_DG (by omega) hg_O) fX1_73 dX1_drawPart_79 rfl ?_
        refine r_iload (pc := 82) dX1_drawPart_82 rfl ?_
        refine t_ialdR (pc := 84) (t0 := 0) ht16 (rd_DG (by omega) hg_cost) dX1_drawPart_84 rfl (by omega) (by omega) (fun y19 by19 => ?_)
        obtain ⟨fs24, hfs24⟩ := t_obj ht16 (rd_of DG_0)
        refine r_callV (pc := 85) (as := [.int (iv (bcI x2 (Int.toNat y10))), .int (iv (bcI x2 (Int.toNat y11))), .int (iv y18), .int (iv y19)]) (st := []) kX1_74 rfl dX1_drawPart_85 hfs24 (s_X1_add (d := d - 1) (x1 := bcI x2 (Int.toNat y10)) (x2 := bcI x2 (Int.toNat y11)) (x3 := y18) (x4 := y19) (by omega)  (by omega) ht16 (by omega) (by omega) (by omega) (by omega)) rfl (by omega) (Nat.le_of_ble_eq_true rfl) (Nat.zero_le _) (Nat.zero_le _) rfl (fun r21 hp20 n22 hq23 => ?_)
        obtain ⟨hnn22, bb_26, k1_27, f1_28, t1_29, w1_30, c1_31, ht25, hrr21, hhq230, hhq231, hhq232, hhq233⟩ := hq23
        subst n22 r21
        have hhq230 : (bb_26 = 1 ∧ ka17 < 60 ∧ k1_27 = ka17 + 1) ∨ (bb_26 = 0 ∧ 60 ≤ ka17 ∧ k1_27 = ka17) := hhq230
        have hhq231 : ka17 < 60 → f1_28 = fup kf17 (Int.toNat ka17) (bcI x2 (Int.toNat y10)) ∧ t1_29 = fup kt17 (Int.toNat ka17) (bcI x2 (Int.toNat y11)) ∧ w1_30 = fup kw17 (Int.toNat ka17) y18 ∧ c1_31 = fup kc17 (Int.toNat ka17) y19 := hhq231
        have hhq232 : 60 ≤ ka17 → f1_28 = kf17 ∧ t1_29 = kt17 ∧ w1_30 = kw17 ∧ c1_31 = kc17 := hhq232
        have hhq233 : 0 ≤ k1_27 ∧ k1_27 ≤ 60 := hhq233
        change Rn _ _ _ 88 _ [.int (iv bb_26)] _ _ _ _ _
        have hapq32 : arP f1_28 t1_29 w1_30 c1_31 k1_27 (bcI x2 16) := ar_add (by assumption) (by omega) (by omega) (by omega) (by omega) (by omega) hhq230 hhq231 hhq232
        have B100 : ∀ hp100 : MH, Tw (DG Γ cI cJ cZ cT s (bcI x2 16) gdr k1_27 f1_28 t1_29 w1_30 c1_31) hp100 → ∀  (u100_0 : Int), 0 ≤ u100_0 ∧ u100_0 ≤ 1 → Rn (gG D cI cJ cZ cT lo b L xs) mX1_drawPart d 100 [(0, .ref s), (1, .ref ga), (2, .int (iv x2)), (4, .int (iv v17_4))] [.int (iv u100_0)] hp100 n 0 0 (q_X1_drawPart Γ cI cJ cZ cT s n kn kd ka kf kt kw kc ga gF gT gW gC gTl gHd gBy gOu gIn gJo gn gm gq gdr x2) := by
          intro hp100 ht100 u100_0 hf100
          refine r_istore_n (pc := 100) (lv' := [(3, .int (iv u100_0)), (0, .ref s), (1, .ref ga), (2, .int (iv x2)), (4, .int (iv v17_4))]) dX1_drawPart_100 (i := 3) rfl (by decide) rfl ?_
          refine Rn.pick (lv' := [(0, .ref s), (1, .ref ga), (2, .int (iv x2)), (3, .int (iv u100_0)), (4, .int (iv v17_4))]) [1, 2, 3, 0, 4] rfl ?_
          exact B101 k1_27 f1_28 t1_29 w1_30 c1_31 _ ht100 u100_0 ⟨by omega, by omega, by omega, by omega, by assumption⟩
        have B99 : ∀ hp99 : MH, Tw (DG Γ cI cJ cZ cT s (bcI x2 16) gdr k1_27 f1_28 t1_29 w1_30 c1_31) hp99 → True → Rn (gG D cI cJ cZ cT lo b L xs) mX1_drawPart d 99 [(0, .ref s), (1, .ref ga), (2, .int (iv x2)), (4, .int (iv v17_4))] [] hp99 n 0 0 (q_X1_drawPart Γ cI cJ cZ cT s n kn kd ka kf kt kw kc ga gF gT gW gC gTl gHd gBy gOu gIn gJo gn gm gq gdr x2) := by
          intro hp99 ht99 hf99
          refine r_iconst (pc := 99) (v := iv 0) dX1_drawPart_99 (by decide) ?_
          refine Rn.pick (lv' := [(0, .ref s), (1, .ref ga), (2, .int (iv x2)), (4, .int (iv v17_4))]) [0, 1, 2, 3] rfl ?_
          exact B100 _ ht99 0 ⟨by omega, by omega⟩
        refine t_if_eq (pc := 88) (tgt := 99) dX1_drawPart_88 (by decide) (by omega) (fun c88 => ?_) (fun c88 => ?_)
        · refine Rn.pick (lv' := [(0, .ref s), (1, .ref ga), (2, .int (iv x2)), (4, .int (iv v17_4))]) [2, 3, 4, 6] rfl ?_
          exact B99 _ ht25 trivial
        · refine r_iload_n (pc := 91) dX1_drawPart_91 (i := 3) rfl rfl ?_
          refine t_if_eq (pc := 92) (tgt := 99) dX1_drawPart_92 (by decide) (by omega) (fun c92 => ?_) (fun c92 => ?_)
          · refine Rn.pick (lv' := [(0, .ref s), (1, .ref ga), (2, .int (iv x2)), (4, .int (iv v17_4))]) [2, 3, 4, 6] rfl ?_
            exact B99 _ ht25 trivial
          · refine r_iconst (pc := 95) (v := iv 1) dX1_drawPart_95 (by decide) ?_
            refine r_goto (pc := 96) (tgt := 100) dX1_drawPart_96 (by decide) ?_
            refine Rn.pick (lv' := [(0, .ref s), (1, .ref ga), (2, .int (iv x2)), (4, .int (iv v17_4))]) [2, 3, 4, 6] rfl ?_
            exact B100 _ ht25 1 ⟨by omega, by omega⟩
  refine Rn.pick (lv' := [(0, .ref s), (1, .ref ga), (2, .int (iv x2)), (3, .int (iv 1)), (4, .int (iv 0))]) [2, 3, 4, 1, 0] rfl ?_
  exact B17 (Int.toNat (60 - 0)) 0 kf kt kw kc _ ht9 1 0 ⟨by omega, by omega, by omega, by omega, by omega, by omega, by assumption⟩ (by omega)
def q_X1_fillLightest (Γ : TG) (cI cJ cZ cT : ClassId) (s : Nat) (n : Nat) (kn : Int) (kd : Int) (ka : Int) (kf : Nat → Int) (kt : Nat → Int) (kw : Nat → Int) (kc : Nat → Int) (ga : Nat) (gF : Nat) (gT : Nat) (gW : Nat) (gC : Nat) (gTl : Nat) (gHd : Nat) (gBy : Nat) (gOu : Nat) (gIn : Nat) (gJo : Nat) (gn : Nat) (gm : Nat) (gq : Nat) (gdr : Int) : Option Value → MH → Nat → Prop := fun r hp1 n1 => n1 = n ∧ Tw (DG Γ cI cJ cZ cT s kn kd ka kf kt kw kc) hp1 ∧ r = none
set_option maxHeartbeats 4000000 in
set_option maxRecDepth 100000 in
theorem s_X1_fillLightest {D : va_G} {cI cJ cZ cT : ClassId} {lo b L : Nat} {xs : Nat → Int32} {hp : MH} {n d : Nat} {Γ : TG} {s : Nat} {kn : Int} {kd : Int} {ka : Int} {kf : Nat → Int} {kt : Nat → Int} {kw : Nat → Int} {kc : Nat → Int} {ga : Nat} {gF : Nat} {gT : Nat} {gW : Nat} {gC : Nat} {gTl : Nat} {gHd : Nat} {gBy : Nat} {gOu : Nat} {gIn : Nat} {gJo : Nat} {gn : Nat} {gm : Nat} {gq : Nat} {gdr : Int} (hd0 : 1 ≤ d) (hg : TyG Γ cI cJ cZ ga gF gT gW gC gTl gHd gBy gOu gIn gJo gn gm gq gdr) (hltg : s + 6 ≤ ga ∧ s + 6 ≤ gF ∧ s + 6 ≤ gT ∧ s + 6 ≤ gW ∧ s + 6 ≤ gC ∧ s + 6 ≤ gTl ∧ s + 6 ≤ gHd ∧ s + 6 ≤ gBy ∧ s + 6 ≤ gOu ∧ s + 6 ≤ gIn ∧ s + 6 ≤ gJo) (ht : Tw (DG Γ cI cJ cZ cT s kn kd ka kf kt kw kc) hp)  : Mt (gG D cI cJ cZ cT lo b L xs) mX1_fillLightest d 0 0 [.ref s, .ref ga] hp n (q_X1_fillLightest Γ cI cJ cZ cT s n kn kd ka kf kt kw kc ga gF gT gW gC gTl gHd gBy gOu gIn gJo gn gm gq gdr) := by
  refine Mt.of rfl (Nat.le_of_ble_eq_true rfl) ?_
  refine Rn.pick (lv' := [(0, .ref s), (1, .ref ga)]) [0, 1] rfl ?_
  obtain ⟨hg_O, hg_from, hg_to, hg_weight, hg_cost, hg_tail, hg_head, hg_by, hg_out, hg_in, hg_joined, hg_b⟩ := id hg
  refine r_aload_n (pc := 0) dX1_fillLightest_0 (i := 0) rfl rfl ?_
  refine t_getE (pc := 1) (.ref (s + 5)) ht (rd_of DG_0) fX1_35 dX1_fillLightest_1 rfl ?_
  refine r_sipush (pc := 4) (v := iv 5000) dX1_fillLightest_4 (by decide) ?_
  refine t_fillI (pc := 7) ht DG_5 kX1_105 dX1_fillLightest_7 (by omega) (by omega) (by omega) (by omega) (Nat.le_of_ble_eq_true rfl) (fun hp1 ht2 => ?_)
  refine r_iconst (pc := 10) (v := iv 0) dX1_fillLightest_10 (by decide) ?_
  refine r_istore_n (pc := 11) (lv' := [(2, .int (iv 0)), (0, .ref s), (1, .ref ga)]) dX1_fillLightest_11 (i := 2) rfl (by decide) rfl ?_
  have B12 : ∀ k : Nat, ∀ hp12 : MH, Tw (DG Γ cI cJ cZ cT s kn kd ka kf kt kw kc) hp12 → ∀  (v12_2 : Int), 0 ≤ v12_2 ∧ v12_2 ≤ 120 → 120 - v12_2 ≤ (k : Int) → Rn (gG D cI cJ cZ cT lo b L xs) mX1_fillLightest d 12 [(0, .ref s), (1, .ref ga), (2, .int (iv v12_2))] [] hp12 n 0 0 (q_X1_fillLightest Γ cI cJ cZ cT s n kn kd ka kf kt kw kc ga gF gT gW gC gTl gHd gBy gOu gIn gJo gn gm gq gdr) := by
    refine lpS _ ?_
    intro k12 ih12 hp12 ht12 v12_2 hf12 hm12
    refine r_iload_n (pc := 12) dX1_fillLightest_12 (i := 2) rfl rfl ?_
    refine r_aload_n (pc := 13) dX1_fillLightest_13 (i := 1) rfl rfl ?_
    refine t_getE (pc := 14) (.int (iv (gq : Int))) ht12 (rd_DG (by omega) hg_O) fX1_111 dX1_fillLightest_14 rfl ?_
    refine t_icmp_ge (pc := 17) (tgt := 69) dX1_fillLightest_17 (by decide) (by omega) (by omega) (fun c17 => ?_) (fun c17 => ?_)
    · exact r_vret (pc := 69) dX1_fillLightest_69 rfl ⟨rfl, ht12, rfl⟩
    · refine r_aload_n (pc := 20) dX1_fillLightest_20 (i := 1) rfl rfl ?_
      refine t_getE (pc := 21) (.ref gTl) ht12 (rd_DG (by omega) hg_O) fX1_114 dX1_fillLightest_21 rfl ?_
      refine r_iload_n (pc := 24) dX1_fillLightest_24 (i := 2) rfl rfl ?_
      refine t_ialdR (pc := 25) (t0 := 0) ht12 (rd_DG (by omega) hg_tail) dX1_fillLightest_25 rfl (by omega) (by omega) (fun y3 by3 => ?_)
      refine r_bipush (pc := 26) (v := iv 16) dX1_fillLightest_26 (by decide) ?_
      refine r_imul (pc := 28) (v := iv (y3 * 16)) dX1_fillLightest_28 (iv_mul _ _) ?_
      refine r_aload_n (pc := 29) dX1_fillLightest_29 (i := 1) rfl rfl ?_
      refine t_getE (pc := 30) (.ref gHd) ht12 (rd_DG (by omega) hg_O) fX1_117 dX1_fillLightest_30 rfl ?_
      refine r_iload_n (pc := 33) dX1_fillLightest_33 (i := 2) rfl rfl ?_
      refine t_ialdR (pc := 34) (t0 := 0) ht12 (rd_DG (by omega) hg_head) dX1_fillLightest_34 rfl (by omega) (by omega) (fun y4 by4 => ?_)
      refine r_iadd (pc := 35) (v := iv ((y3 * 16) + y4)) dX1_fillLightest_35 (iv_add _ _) ?_
      refine r_istore_n (pc := 36) (lv' := [(3, .int (iv ((y3 * 16) + y4))), (0, .ref s), (1, .ref ga), (2, .int (iv v12_2))]) dX1_fillLightest_36 (i := 3) rfl (by decide) rfl ?_
      refine r_aload_n (pc := 37) dX1_fillLightest_37 (i := 0) rfl rfl ?_
      refine t_getE (pc := 38) (.ref (s + 5)) ht12 (rd_of DG_0) fX1_35 dX1_fillLightest_38 rfl ?_
      refine r_iload_n (pc := 41) dX1_fillLightest_41 (i := 3) rfl rfl ?_
      refine r_aload_n (pc := 42) dX1_fillLightest_42 (i := 0) rfl rfl ?_
      refine t_getE (pc := 43) (.ref (s + 5)) ht12 (rd_of DG_0) fX1_35 dX1_fillLightest_43 rfl ?_
      refine r_iload_n (pc := 46) dX1_fillLightest_46 (i := 3) rfl rfl ?_
      refine t_ialdR (pc := 47) (t0 := 0) ht12 (rd_of DG_5) dX1_fillLightest_47 rfl (by decide) (by omega) (fun y5 by5 => ?_)
      refine r_aload_n (pc := 48) dX1_fillLightest_48 (i := 1) rfl rfl ?_
      refine t_getE (pc := 49) (.ref gW) ht12 (rd_DG (by omega) hg_O) fX1_72 dX1_fillLightest_49 rfl ?_
      refine r_aload_n (pc := 52) dX1_fillLightest_52 (i := 1) rfl rfl ?_
      refine t_getE (pc := 53) (.ref gBy) ht12 (rd_DG (by omega) hg_O) fX1_120 dX1_fillLightest_53 rfl ?_
      refine r_iload_n (pc := 56) dX1_fillLightest_56 (i := 2) rfl rfl ?_
      refine t_ialdR (pc := 57) (t0 := 0) ht12 (rd_DG (by omega) hg_by) dX1_fillLightest_57 rfl (by omega) (by omega) (fun y6 by6 => ?_)
      refine t_ialdR (pc := 58) (t0 := 0) ht12 (rd_DG (by omega) hg_weight) dX1_fillLightest_58 rfl (by omega) (by omega) (fun y7 by7 => ?_)
      obtain ⟨z8, hz8, bz8⟩ := min_b y5 y7 (by omega) (by omega)
      refine r_mmin (pc := 59) (v := iv z8) qX1_123 dX1_fillLightest_59 (Nat.le_of_ble_eq_true rfl) hz8 ?_
      refine t_iastR (pc := 62) (t0 := 0) ht12 DG_5 dX1_fillLightest_62 rfl (by decide) (by decide) (by omega) (by omega) (fun hp9 ht10 => ?_)
      refine r_iinc (pc := 63) (v := iv (v12_2 + 1)) (lv' := [(2, .int (iv (v12_2 + 1))), (3, .int (iv ((y3 * 16) + y4))), (0, .ref s), (1, .ref ga)]) dX1_fillLightest_63 rfl (iv_add _ _) (by decide) rfl ?_
      refine r_goto (pc := 66) (tgt := 12) dX1_fillLightest_66 (by decide) ?_
      refine Rn.pick (lv' := [(0, .ref s), (1, .ref ga), (2, .int (iv (v12_2 + 1)))]) [2, 3, 0] rfl ?_
      exact ih12 (Int.toNat (120 - (v12_2 + 1))) (by omega) _ ht10 (v12_2 + 1) ⟨by omega, by omega⟩ (by omega)
  refine Rn.pick (lv' := [(0, .ref s), (1, .ref ga), (2, .int (iv 0))]) [1, 2, 0] rfl ?_
  exact B12 (Int.toNat (120 - 0)) _ ht2 0 ⟨by omega, by omega⟩ (by omega)
def q_X1_lightestOfTwo (Γ : TG) (cI cJ cZ cT : ClassId) (s : Nat) (n : Nat) (kn : Int) (kd : Int) (ka : Int) (kf : Nat → Int) (kt : Nat → Int) (kw : Nat → Int) (kc : Nat → Int) (x1 x2 : Int) : Option Value → MH → Nat → Prop := fun r hp1 n1 => n1 = n ∧ ∃ (rr : Int), Tw (DG Γ cI cJ cZ cT s kn kd ka kf kt kw kc) hp1 ∧ r = some (.int (iv rr)) ∧ (-2000 ≤ rr ∧ rr ≤ 5000)
set_option maxHeartbeats 4000000 in
set_option maxRecDepth 100000 in
theorem s_X1_lightestOfTwo {D : va_G} {cI cJ cZ cT : ClassId} {lo b L : Nat} {xs : Nat → Int32} {hp : MH} {n d : Nat} {Γ : TG} {s : Nat} {kn : Int} {kd : Int} {ka : Int} {kf : Nat → Int} {kt : Nat → Int} {kw : Nat → Int} {kc : Nat → Int}  {x1 x2 : Int} (hd0 : 0 ≤ d)  (hn_kn : 1 ≤ kn ∧ kn ≤ 16) (ht : Tw (DG Γ cI cJ cZ cT s kn kd ka kf kt kw kc) hp) (hx1 : 0 ≤ x1 ∧ x1 ≤ 15) (hx2 : 0 ≤ x2 ∧ x2 ≤ 15) : Mt (gG D cI cJ cZ cT lo b L xs) mX1_lightestOfTwo d 0 0 [.ref s, .int (iv x1), .int (iv x2)] hp n (q_X1_lightestOfTwo Γ cI cJ cZ cT s n kn kd ka kf kt kw kc x1 x2) := by
  refine Mt.of rfl (Nat.le_of_ble_eq_true rfl) ?_
  refine Rn.pick (lv' := [(0, .ref s), (1, .int (iv x1)), (2, .int (iv x2))]) [0, 1, 2] rfl ?_
  refine r_sipush (pc := 0) (v := iv 5000) dX1_lightestOfTwo_0 (by decide) ?_
  refine r_istore_n (pc := 3) (lv' := [(3, .int (iv 5000)), (0, .ref s), (1, .int (iv x1)), (2, .int (iv x2))]) dX1_lightestOfTwo_3 (i := 3) rfl (by decide) rfl ?_
  refine r_iconst (pc := 4) (v := iv 0) dX1_lightestOfTwo_4 (by decide) ?_
  refine r_istore (pc := 5) (lv' := [(4, .int (iv 0)), (3, .int (iv 5000)), (0, .ref s), (1, .int (iv x1)), (2, .int (iv x2))]) dX1_lightestOfTwo_5 (by decide) rfl ?_
  have B7 : ∀ k : Nat, ∀ hp7 : MH, Tw (DG Γ cI cJ cZ cT s kn kd ka kf kt kw kc) hp7 → ∀  (v7_3 : Int) (v7_4 : Int), (-2000) ≤ v7_3 ∧ v7_3 ≤ 5000 ∧ 0 ≤ v7_4 ∧ v7_4 ≤ 16 → 16 - v7_4 ≤ (k : Int) → Rn (gG D cI cJ cZ cT lo b L xs) mX1_lightestOfTwo d 7 [(0, .ref s), (1, .int (iv x1)), (2, .int (iv x2)), (3, .int (iv v7_3)), (4, .int (iv v7_4))] [] hp7 n 0 0 (q_X1_lightestOfTwo Γ cI cJ cZ cT s n kn kd ka kf kt kw kc x1 x2) := by
    refine lpS _ ?_
    intro k7 ih7 hp7 ht7 v7_3 v7_4 hf7 hm7
    refine r_iload (pc := 7) dX1_lightestOfTwo_7 rfl ?_
    refine r_aload_n (pc := 9) dX1_lightestOfTwo_9 (i := 0) rfl rfl ?_
    refine t_getE (pc := 10) (.int (iv kn)) ht7 (rd_of DG_0) fX1_9 dX1_lightestOfTwo_10 rfl ?_
    refine t_icmp_ge (pc := 13) (tgt := 76) dX1_lightestOfTwo_13 (by decide) (by omega) (by omega) (fun c13 => ?_) (fun c13 => ?_)
    · refine r_iload_n (pc := 76) dX1_lightestOfTwo_76 (i := 3) rfl rfl ?_
      exact r_iret (pc := 77) dX1_lightestOfTwo_77 rfl ⟨rfl, v7_3, ht7, rfl, (by omega)⟩
    · refine r_aload_n (pc := 16) dX1_lightestOfTwo_16 (i := 0) rfl rfl ?_
      refine t_getE (pc := 17) (.ref (s + 5)) ht7 (rd_of DG_0) fX1_35 dX1_lightestOfTwo_17 rfl ?_
      refine r_iload_n (pc := 20) dX1_lightestOfTwo_20 (i := 1) rfl rfl ?_
      refine r_bipush (pc := 21) (v := iv 16) dX1_lightestOfTwo_21 (by decide) ?_
      refine r_imul (pc := 23) (v := iv (x1 * 16)) dX1_lightestOfTwo_23 (iv_mul _ _) ?_
      refine r_iload (pc := 24) dX1_lightestOfTwo_24 rfl ?_
      refine r_iadd (pc := 26) (v := iv ((x1 * 16) + v7_4)) dX1_lightestOfTwo_26 (iv_add _ _) ?_
      refine t_ialdR (pc := 27) (t0 := 0) ht7 (rd_of DG_5) dX1_lightestOfTwo_27 rfl (by decide) (by omega) (fun y1 by1 => ?_)
      refine r_istore (pc := 28) (lv' := [(5, .int (iv y1)), (0, .ref s), (1, .int (iv x1)), (2, .int (iv x2)), (3, .int (iv v7_3)), (4, .int (iv v7_4))]) dX1_lightestOfTwo_28 (by decide) rfl ?_
      refine r_aload_n (pc := 30) dX1_lightestOfTwo_30 (i := 0) rfl rfl ?_
      refine t_getE (pc := 31) (.ref (s + 5)) ht7 (rd_of DG_0) fX1_35 dX1_lightestOfTwo_31 rfl ?_
      refine r_iload (pc := 34) dX1_lightestOfTwo_34 rfl ?_
      refine r_bipush (pc := 36) (v := iv 16) dX1_lightestOfTwo_36 (by decide) ?_
      refine r_imul (pc := 38) (v := iv (v7_4 * 16)) dX1_lightestOfTwo_38 (iv_mul _ _) ?_
      refine r_iload_n (pc := 39) dX1_lightestOfTwo_39 (i := 2) rfl rfl ?_
      refine r_iadd (pc := 40) (v := iv ((v7_4 * 16) + x2)) dX1_lightestOfTwo_40 (iv_add _ _) ?_
      refine t_ialdR (pc := 41) (t0 := 0) ht7 (rd_of DG_5) dX1_lightestOfTwo_41 rfl (by decide) (by omega) (fun y2 by2 => ?_)
      refine r_istore (pc := 42) (lv' := [(6, .int (iv y2)), (5, .int (iv y1)), (0, .ref s), (1, .int (iv x1)), (2, .int (iv x2)), (3, .int (iv v7_3)), (4, .int (iv v7_4))]) dX1_lightestOfTwo_42 (by decide) rfl ?_
      refine r_iload (pc := 44) dX1_lightestOfTwo_44 rfl ?_
      refine r_sipush (pc := 46) (v := iv 5000) dX1_lightestOfTwo_46 (by decide) ?_
      have B70 : ∀ hp70 : MH, Tw (DG Γ cI cJ cZ cT s kn kd ka kf kt kw kc) hp70 → ∀  (v70_3 : Int), (-2000) ≤ v70_3 ∧ v70_3 ≤ 5000 ∧ v70_3 ≤ v7_3 → Rn (gG D cI cJ cZ cT lo b L xs) mX1_lightestOfTwo d 70 [(0, .ref s), (1, .int (iv x1)), (2, .int (iv x2)), (3, .int (iv v70_3)), (4, .int (iv v7_4))] [] hp70 n 0 0 (q_X1_lightestOfTwo Γ cI cJ cZ cT s n kn kd ka kf kt kw kc x1 x2) := by
        intro hp70 ht70 v70_3 hf70
        refine r_iinc (pc := 70) (v := iv (v7_4 + 1)) (lv' := [(4, .int (iv (v7_4 + 1))), (0, .ref s), (1, .int (iv x1)), (2, .int (iv x2)), (3, .int (iv v70_3))]) dX1_lightestOfTwo_70 rfl (iv_add _ _) (by decide) rfl ?_
        refine r_goto (pc := 73) (tgt := 7) dX1_lightestOfTwo_73 (by decide) ?_
        refine Rn.pick (lv' := [(0, .ref s), (1, .int (iv x1)), (2, .int (iv x2)), (3, .int (iv v70_3)), (4, .int (iv (v7_4 + 1)))]) [1, 2, 3, 4, 0] rfl ?_
        exact ih7 (Int.toNat (16 - (v7_4 + 1))) (by omega) _ ht70 v70_3 (v7_4 + 1) ⟨by omega, by omega, by omega, by omega⟩ (by omega)
      refine t_icmp_ge (pc := 49) (tgt := 70) dX1_lightestOfTwo_49 (by decide) (by omega) (by omega) (fun c49 => ?_) (fun c49 => ?_)
      · refine Rn.pick (lv' := [(0, .ref s), (1, .int (iv x1)), (2, .int (iv x2)), (3, .int (iv v7_3)), (4, .int (iv v7_4))]) [2, 3, 4, 5, 6] rfl ?_
        exact B70 _ ht7 v7_3 ⟨by omega, by omega, by omega⟩
      · refine r_iload (pc := 52) dX1_lightestOfTwo_52 rfl ?_
        refine r_sipush (pc := 54) (v := iv 5000) dX1_lightestOfTwo_54 (by decide) ?_
        refine t_icmp_ge (pc := 57) (tgt := 70) dX1_lightestOfTwo_57 (by decide) (by omega) (by omega) (fun c57 => ?_) (fun c57 => ?_)
        · refine Rn.pick (lv' := [(0, .ref s), (1, .int (iv x1)), (2, .int (iv x2)), (3, .int (iv v7_3)), (4, .int (iv v7_4))]) [2, 3, 4, 5, 6] rfl ?_
          exact B70 _ ht7 v7_3 ⟨by omega, by omega, by omega⟩
        · refine r_iload_n (pc := 60) dX1_lightestOfTwo_60 (i := 3) rfl rfl ?_
          refine r_iload (pc := 61) dX1_lightestOfTwo_61 rfl ?_
          refine r_iload (pc := 63) dX1_lightestOfTwo_63 rfl ?_
          refine r_iadd (pc := 65) (v := iv (y1 + y2)) dX1_lightestOfTwo_65 (iv_add _ _) ?_
          obtain ⟨z3, hz3, bz3⟩ := min_b v7_3 (y1 + y2) (by omega) (by omega)
          refine r_mmin (pc := 66) (v := iv z3) qX1_123 dX1_lightestOfTwo_66 (Nat.le_of_ble_eq_true rfl) hz3 ?_
          refine r_istore_n (pc := 69) (lv' := [(3, .int (iv z3)), (6, .int (iv y2)), (5, .int (iv y1)), (0, .ref s), (1, .int (iv x1)), (2, .int (iv x2)), (4, .int (iv v7_4))]) dX1_lightestOfTwo_69 (i := 3) rfl (by decide) rfl ?_
          refine Rn.pick (lv' := [(0, .ref s), (1, .int (iv x1)), (2, .int (iv x2)), (3, .int (iv z3)), (4, .int (iv v7_4))]) [3, 4, 5, 0, 6] rfl ?_
          exact B70 _ ht7 z3 ⟨by omega, by omega, by omega⟩
  refine Rn.pick (lv' := [(0, .ref s), (1, .int (iv x1)), (2, .int (iv x2)), (3, .int (iv 5000)), (4, .int (iv 0))]) [2, 3, 4, 1, 0] rfl ?_
  exact B7 (Int.toNat (16 - 0)) _ ht 5000 0 ⟨by omega, by omega, by omega, by omega⟩ (by omega)
def q_X1_drawSquared (Γ : TG) (cI cJ cZ cT : ClassId) (s : Nat) (n : Nat) (kn : Int) (kd : Int) (ka : Int) (kf : Nat → Int) (kt : Nat → Int) (kw : Nat → Int) (kc : Nat → Int) (ga : Nat) (gF : Nat) (gT : Nat) (gW : Nat) (gC : Nat) (gTl : Nat) (gHd : Nat) (gBy : Nat) (gOu : Nat) (gIn : Nat) (gJo : Nat) (gn : Nat) (gm : Nat) (gq : Nat) (gdr : Int) : Option Value → MH → Nat → Prop := fun r hp1 n1 => n1 = n ∧ ∃ (n1 : Int) (d1 : Int) (k1 : Int) (f1 : Nat → Int) (t1 : Nat → Int) (w1 : Nat → Int) (c1 : Nat → Int) (bb : Int), Tw (DG Γ cI cJ cZ cT s n1 d1 k1 f1 t1 w1 c1) hp1 ∧ r = some (.int (iv bb)) ∧ (1 ≤ n1 ∧ n1 ≤ 16) ∧ (0 ≤ d1 ∧ d1 ≤ 1) ∧ (0 ≤ k1 ∧ k1 ≤ 60) ∧ (arP f1 t1 w1 c1 k1 n1) ∧ (bb = 0 ∨ bb = 1)
set_option maxHeartbeats 4000000 in
set_option maxRecDepth 100000 in
theorem s_X1_drawSquared {D : va_G} {cI cJ cZ cT : ClassId} {lo b L : Nat} {xs : Nat → Int32} {hp : MH} {n d : Nat} {Γ : TG} {s : Nat} {kn : Int} {kd : Int} {ka : Int} {kf : Nat → Int} {kt : Nat → Int} {kw : Nat → Int} {kc : Nat → Int} {ga : Nat} {gF : Nat} {gT : Nat} {gW : Nat} {gC : Nat} {gTl : Nat} {gHd : Nat} {gBy : Nat} {gOu : Nat} {gIn : Nat} {gJo : Nat} {gn : Nat} {gm : Nat} {gq : Nat} {gdr : Int} (hd0 : 2 ≤ d) (hg : TyG Γ cI cJ cZ ga gF gT gW gC gTl gHd gBy gOu gIn gJo gn gm gq gdr) (hltg : s + 6 ≤ ga ∧ s + 6 ≤ gF ∧ s + 6 ≤ gT ∧ s + 6 ≤ gW ∧ s + 6 ≤ gC ∧ s + 6 ≤ gTl ∧ s + 6 ≤ gHd ∧ s + 6 ≤ gBy ∧ s + 6 ≤ gOu ∧ s + 6 ≤ gIn ∧ s + 6 ≤ gJo) (hn_kn : 1 ≤ kn ∧ kn ≤ 16) (hn_kd : 0 ≤ kd ∧ kd ≤ 1) (hn_ka : 0 ≤ ka ∧ ka ≤ 60) (ht : Tw (DG Γ cI cJ cZ cT s kn kd ka kf kt kw kc) hp)  : Mt (gG D cI cJ cZ cT lo b L xs) mX1_drawSquared d 0 0 [.ref s, .ref ga] hp n (q_X1_drawSquared Γ cI cJ cZ cT s n kn kd ka kf kt kw kc ga gF gT gW gC gTl gHd gBy gOu gIn gJo gn gm gq gdr) := by
  refine Mt.of rfl (Nat.le_of_ble_eq_true rfl) ?_
  refine Rn.pick (lv' := [(0, .ref s), (1, .ref ga)]) [0, 1] rfl ?_
  obtain ⟨hg_O, hg_from, hg_to, hg_weight, hg_cost, hg_tail, hg_head, hg_by, hg_out, hg_in, hg_joined, hg_b⟩ := id hg
  refine r_aload_n (pc := 0) dX1_drawSquared_0 (i := 0) rfl rfl ?_
  refine r_aload_n (pc := 1) dX1_drawSquared_1 (i := 1) rfl rfl ?_
  refine t_getE (pc := 2) (.int (iv (gn : Int))) ht (rd_DG (by omega) hg_O) fX1_60 dX1_drawSquared_2 rfl ?_
  refine r_aload_n (pc := 5) dX1_drawSquared_5 (i := 1) rfl rfl ?_
  refine t_getE (pc := 6) (.int (iv gdr)) ht (rd_DG (by omega) hg_O) fX1_61 dX1_drawSquared_6 rfl ?_
  obtain ⟨fs5, hfs5⟩ := t_obj ht (rd_of DG_0)
  refine r_callV (pc := 9) (as := [.int (iv (gn : Int)), .int (iv gdr)]) (st := []) kX1_62 rfl dX1_drawSquared_9 hfs5 (s_X1_restart (d := d - 1) (x1 := (gn : Int)) (x2 := gdr) (by omega)  ht (by omega) (by omega)) rfl (by omega) (Nat.le_of_ble_eq_true rfl) (Nat.zero_le _) (Nat.zero_le _) rfl (fun r2 hp1 n3 hq4 => ?_)
  obtain ⟨hnn3, ht6, hrr2⟩ := hq4
  subst n3 r2
  change Rn _ _ _ 12 _ [] _ _ _ _ _
  have ha0 : arP kf kt kw kc 0 (gn : Int) := ar_0 _ _ _ _ _
  refine r_aload_n (pc := 12) dX1_drawSquared_12 (i := 0) rfl rfl ?_
  refine r_aload_n (pc := 13) dX1_drawSquared_13 (i := 1) rfl rfl ?_
  obtain ⟨fs11, hfs11⟩ := t_obj ht6 (rd_of DG_0)
  refine r_callV (pc := 14) (as := [.ref ga]) (st := []) kX1_95 rfl dX1_drawSquared_14 hfs11 (s_X1_fillLightest (d := d - 1)  (by omega) hg hltg ht6 ) rfl (by omega) (Nat.le_of_ble_eq_true rfl) (Nat.zero_le _) (Nat.zero_le _) rfl (fun r8 hp7 n9 hq10 => ?_)
  obtain ⟨hnn9, ht12, hrr8⟩ := hq10
  subst n9 r8
  change Rn _ _ _ 17 _ [] _ _ _ _ _
  refine r_iconst (pc := 17) (v := iv 0) dX1_drawSquared_17 (by decide) ?_
  refine r_istore_n (pc := 18) (lv' := [(2, .int (iv 0)), (0, .ref s), (1, .ref ga)]) dX1_drawSquared_18 (i := 2) rfl (by decide) rfl ?_
  have B19 : ∀ k : Nat, ∀ ka19 : Int, ∀ kf19 : Nat → Int, ∀ kt19 : Nat → Int, ∀ kw19 : Nat → Int, ∀ kc19 : Nat → Int, ∀ hp19 : MH, Tw (DG Γ cI cJ cZ cT s (gn : Int) gdr ka19 kf19 kt19 kw19 kc19) hp19 → ∀  (v19_2 : Int), 0 ≤ v19_2 ∧ v19_2 ≤ 16 ∧ 0 ≤ ka19 ∧ ka19 ≤ 60 ∧ arP kf19 kt19 kw19 kc19 ka19 (gn : Int) → 16 - v19_2 ≤ (k : Int) → Rn (gG D cI cJ cZ cT lo b L xs) mX1_drawSquared d 19 [(0, .ref s), (2, .int (iv v19_2))] [] hp19 n 0 0 (q_X1_drawSquared Γ cI cJ cZ cT s n kn kd ka kf kt kw kc ga gF gT gW gC gTl gHd gBy gOu gIn gJo gn gm gq gdr) := by
    refine lpS _ ?_
    intro k19 ih19 ka19 kf19 kt19 kw19 kc19 hp19 ht19 v19_2 hf19 hm19
    obtain ⟨hf19_0, hf19_1, hf19_2, hf19_3, ha19_4⟩ := hf19
    refine r_iload_n (pc := 19) dX1_drawSquared_19 (i := 2) rfl rfl ?_
    refine r_aload_n (pc := 20) dX1_drawSquared_20 (i := 0) rfl rfl ?_
    refine t_getE (pc := 21) (.int (iv (gn : Int))) ht19 (rd_of DG_0) fX1_9 dX1_drawSquared_21 rfl ?_
    refine t_icmp_ge (pc := 24) (tgt := 93) dX1_drawSquared_24 (by decide) (by omega) (by omega) (fun c24 => ?_) (fun c24 => ?_)
    · refine r_iconst (pc := 93) (v := iv 1) dX1_drawSquared_93 (by decide) ?_
      exact r_zret (pc := 94) dX1_drawSquared_94 rfl (iv_nar (by omega)) ⟨rfl, (gn : Int), gdr, ka19, kf19, kt19, kw19, kc19, 1, ht19, rfl, (by omega), (by omega), (by omega), (by (first | assumption | exact ar_0 _ _ _ _ _)), (by omega)⟩
    · refine r_aload_n (pc := 27) dX1_drawSquared_27 (i := 0) rfl rfl ?_
      refine t_getE (pc := 28) (.int (iv gdr)) ht19 (rd_of DG_0) fX1_15 dX1_drawSquared_28 rfl ?_
      have B39 : ∀ hp39 : MH, Tw (DG Γ cI cJ cZ cT s (gn : Int) gdr ka19 kf19 kt19 kw19 kc19) hp39 → ∀  (u39_0 : Int), 0 ≤ u39_0 ∧ u39_0 ≤ 15 → Rn (gG D cI cJ cZ cT lo b L xs) mX1_drawSquared d 39 [(0, .ref s), (2, .int (iv v19_2))] [.int (iv u39_0)] hp39 n 0 0 (q_X1_drawSquared Γ cI cJ cZ cT s n kn kd ka kf kt kw kc ga gF gT gW gC gTl gHd gBy gOu gIn gJo gn gm gq gdr) := by
        intro hp39 ht39 u39_0 hf39
        refine r_istore_n (pc := 39) (lv' := [(3, .int (iv u39_0)), (0, .ref s), (2, .int (iv v19_2))]) dX1_drawSquared_39 (i := 3) rfl (by decide) rfl ?_
        have B40 : ∀ k : Nat, ∀ ka40 : Int, ∀ kf40 : Nat → Int, ∀ kt40 : Nat → Int, ∀ kw40 : Nat → Int, ∀ kc40 : Nat → Int, ∀ hp40 : MH, Tw (DG Γ cI cJ cZ cT s (gn : Int) gdr ka40 kf40 kt40 kw40 kc40) hp40 → ∀  (v40_3 : Int), 0 ≤ v40_3 ∧ v40_3 ≤ 16 ∧ u39_0 ≤ v40_3 ∧ 0 ≤ ka40 ∧ ka40 ≤ 60 ∧ arP kf40 kt40 kw40 kc40 ka40 (gn : Int) → 16 - v40_3 ≤ (k : Int) → Rn (gG D cI cJ cZ cT lo b L xs) mX1_drawSquared d 40 [(0, .ref s), (2, .int (iv v19_2)), (3, .int (iv v40_3))] [] hp40 n 0 0 (q_X1_drawSquared Γ cI cJ cZ cT s n kn kd ka kf kt kw kc ga gF gT gW gC gTl gHd gBy gOu gIn gJo gn gm gq gdr) := by
          refine lpS _ ?_
          intro k40 ih40 ka40 kf40 kt40 kw40 kc40 hp40 ht40 v40_3 hf40 hm40
          obtain ⟨hf40_0, hf40_1, hf40_2, hf40_3, hf40_4, ha40_5⟩ := hf40
          refine r_iload_n (pc := 40) dX1_drawSquared_40 (i := 3) rfl rfl ?_
          refine r_aload_n (pc := 41) dX1_drawSquared_41 (i := 0) rfl rfl ?_
          refine t_getE (pc := 42) (.int (iv (gn : Int))) ht40 (rd_of DG_0) fX1_9 dX1_drawSquared_42 rfl ?_
          refine t_icmp_ge (pc := 45) (tgt := 87) dX1_drawSquared_45 (by decide) (by omega) (by omega) (fun c45 => ?_) (fun c45 => ?_)
          · refine r_iinc (pc := 87) (v := iv (v19_2 + 1)) (lv' := [(2, .int (iv (v19_2 + 1))), (0, .ref s), (3, .int (iv v40_3))]) dX1_drawSquared_87 rfl (iv_add _ _) (by decide) rfl ?_
            refine r_goto (pc := 90) (tgt := 19) dX1_drawSquared_90 (by decide) ?_
            refine Rn.pick (lv' := [(0, .ref s), (2, .int (iv (v19_2 + 1)))]) [1, 0] rfl ?_
            exact ih19 (Int.toNat (16 - (v19_2 + 1))) (by omega) ka40 kf40 kt40 kw40 kc40 _ ht40 (v19_2 + 1) ⟨by omega, by omega, by omega, by omega, by assumption⟩ (by omega)
          · refine r_aload_n (pc := 48) dX1_drawSquared_48 (i := 0) rfl rfl ?_
            refine r_iload_n (pc := 49) dX1_drawSquared_49 (i := 2) rfl rfl ?_
            refine r_iload_n (pc := 50) dX1_drawSquared_50 (i := 3) rfl rfl ?_
            obtain ⟨fs17, hfs17⟩ := t_obj ht40 (rd_of DG_0)
            refine r_callV (pc := 51) (as := [.int (iv v19_2), .int (iv v40_3)]) (st := []) kX1_99 rfl dX1_drawSquared_51 hfs17 (s_X1_lightestOfTwo (d := d - 1) (x1 := v19_2) (x2 := v40_3) (by omega)  (by omega) ht40 (by omega) (by omega)) rfl (by omega) (Nat.le_of_ble_eq_true rfl) (Nat.zero_le _) (Nat.zero_le _) rfl (fun r14 hp13 n15 hq16 => ?_)
            obtain ⟨hnn15, rr_19, ht18, hrr14, hhq160⟩ := hq16
            subst n15 r14
            have hhq160 : -2000 ≤ rr_19 ∧ rr_19 ≤ 5000 := hhq160
            change Rn _ _ _ 54 _ [.int (iv rr_19)] _ _ _ _ _
            refine r_istore (pc := 54) (lv' := [(4, .int (iv rr_19)), (0, .ref s), (2, .int (iv v19_2)), (3, .int (iv v40_3))]) dX1_drawSquared_54 (by decide) rfl ?_
            refine r_iload (pc := 56) dX1_drawSquared_56 rfl ?_
            refine r_sipush (pc := 58) (v := iv 5000) dX1_drawSquared_58 (by decide) ?_
            have B81 : ∀ ka81 : Int, ∀ kf81 : Nat → Int, ∀ kt81 : Nat → Int, ∀ kw81 : Nat → Int, ∀ kc81 : Nat → Int, ∀ hp81 : MH, Tw (DG Γ cI cJ cZ cT s (gn : Int) gdr ka81 kf81 kt81 kw81 kc81) hp81 → 0 ≤ ka81 ∧ ka81 ≤ 60 ∧ arP kf81 kt81 kw81 kc81 ka81 (gn : Int) → Rn (gG D cI cJ cZ cT lo b L xs) mX1_drawSquared d 81 [(0, .ref s), (2, .int (iv v19_2)), (3, .int (iv v40_3))] [] hp81 n 0 0 (q_X1_drawSquared Γ cI cJ cZ cT s n kn kd ka kf kt kw kc ga gF gT gW gC gTl gHd gBy gOu gIn gJo gn gm gq gdr) := by
              intro ka81 kf81 kt81 kw81 kc81 hp81 ht81 hf81
              obtain ⟨hf81_0, hf81_1, ha81_2⟩ := hf81
              refine r_iinc (pc := 81) (v := iv (v40_3 + 1)) (lv' := [(3, .int (iv (v40_3 + 1))), (0, .ref s), (2, .int (iv v19_2))]) dX1_drawSquared_81 rfl (iv_add _ _) (by decide) rfl ?_
              refine r_goto (pc := 84) (tgt := 40) dX1_drawSquared_84 (by decide) ?_
              refine Rn.pick (lv' := [(0, .ref s), (2, .int (iv v19_2)), (3, .int (iv (v40_3 + 1)))]) [1, 2, 0] rfl ?_
              exact ih40 (Int.toNat (16 - (v40_3 + 1))) (by omega) ka81 kf81 kt81 kw81 kc81 _ ht81 (v40_3 + 1) ⟨by omega, by omega, by omega, by omega, by omega, by assumption⟩ (by omega)
            refine t_icmp_ge (pc := 61) (tgt := 81) dX1_drawSquared_61 (by decide) (by omega) (by omega) (fun c61 => ?_) (fun c61 => ?_)
            · refine Rn.pick (lv' := [(0, .ref s), (2, .int (iv v19_2)), (3, .int (iv v40_3))]) [1, 2, 3] rfl ?_
              exact B81 ka40 kf40 kt40 kw40 kc40 _ ht18 ⟨by omega, by omega, by assumption⟩
            · refine r_aload_n (pc := 64) dX1_drawSquared_64 (i := 0) rfl rfl ?_
              refine r_iload_n (pc := 65) dX1_drawSquared_65 (i := 2) rfl rfl ?_
              refine r_iload_n (pc := 66) dX1_drawSquared_66 (i := 3) rfl rfl ?_
              refine r_iload (pc := 67) dX1_drawSquared_67 rfl ?_
              refine t_callSR (pc := 69) (as := [.int (iv rr_19)]) (st := [.int (iv v40_3), .int (iv v19_2), .ref s]) kX1_102 dX1_drawSquared_69 (t_X1_clamp (d := d - 1) (x0 := rr_19) (by omega)   ht18 (by omega) ) rfl (by omega) (Nat.le_of_ble_eq_true rfl) rfl (fun hp20 y22 ht21 by22 => ?_)
              refine r_iconst (pc := 72) (v := iv 0) dX1_drawSquared_72 (by decide) ?_
              obtain ⟨fs27, hfs27⟩ := t_obj ht21 (rd_of DG_0)
              refine r_callV (pc := 73) (as := [.int (iv v19_2), .int (iv v40_3), .int (iv y22), .int (iv 0)]) (st := []) kX1_74 rfl dX1_drawSquared_73 hfs27 (s_X1_add (d := d - 1) (x1 := v19_2) (x2 := v40_3) (x3 := y22) (x4 := 0) (by omega)  (by omega) ht21 (by omega) (by omega) (by omega) (by omega)) rfl (by omega) (Nat.le_of_ble_eq_true rfl) (Nat.zero_le _) (Nat.zero_le _) rfl (fun r24 hp23 n25 hq26 => ?_)
              obtain ⟨hnn25, bb_29, k1_30, f1_31, t1_32, w1_33, c1_34, ht28, hrr24, hhq260, hhq261, hhq262, hhq263⟩ := hq26
              subst n25 r24
              have hhq260 : (bb_29 = 1 ∧ ka40 < 60 ∧ k1_30 = ka40 + 1) ∨ (bb_29 = 0 ∧ 60 ≤ ka40 ∧ k1_30 = ka40) := hhq260
              have hhq261 : ka40 < 60 → f1_31 = fup kf40 (Int.toNat ka40) v19_2 ∧ t1_32 = fup kt40 (Int.toNat ka40) v40_3 ∧ w1_33 = fup kw40 (Int.toNat ka40) y22 ∧ c1_34 = fup kc40 (Int.toNat ka40) 0 := hhq261
              have hhq262 : 60 ≤ ka40 → f1_31 = kf40 ∧ t1_32 = kt40 ∧ w1_33 = kw40 ∧ c1_34 = kc40 := hhq262
              have hhq263 : 0 ≤ k1_30 ∧ k1_30 ≤ 60 := hhq263
              change Rn _ _ _ 76 _ [.int (iv bb_29)] _ _ _ _ _
              have hapq35 : arP f1_31 t1_32 w1_33 c1_34 k1_30 (gn : Int) := ar_add (by assumption) (by omega) (by omega) (by omega) (by omega) (by omega) hhq260 hhq261 hhq262
              refine t_if_ne (pc := 76) (tgt := 81) dX1_drawSquared_76 (by decide) (by omega) (fun c76 => ?_) (fun c76 => ?_)
              · refine Rn.pick (lv' := [(0, .ref s), (2, .int (iv v19_2)), (3, .int (iv v40_3))]) [1, 2, 3] rfl ?_
                exact B81 k1_30 f1_31 t1_32 w1_33 c1_34 _ ht28 ⟨by omega, by omega, by assumption⟩
              · refine r_iconst (pc := 79) (v := iv 0) dX1_drawSquared_79 (by decide) ?_
                exact r_zret (pc := 80) dX1_drawSquared_80 rfl (iv_nar (by omega)) ⟨rfl, (gn : Int), gdr, k1_30, f1_31, t1_32, w1_33, c1_34, 0, ht28, rfl, (by omega), (by omega), (by omega), (by (first | assumption | exact ar_0 _ _ _ _ _)), (by omega)⟩
        refine Rn.pick (lv' := [(0, .ref s), (2, .int (iv v19_2)), (3, .int (iv u39_0))]) [1, 2, 0] rfl ?_
        exact B40 (Int.toNat (16 - u39_0)) ka19 kf19 kt19 kw19 kc19 _ ht39 u39_0 ⟨by omega, by omega, by omega, by omega, by omega, by assumption⟩ (by omega)
      refine t_if_eq (pc := 31) (tgt := 38) dX1_drawSquared_31 (by decide) (by omega) (fun c31 => ?_) (fun c31 => ?_)
      · refine r_iload_n (pc := 38) dX1_drawSquared_38 (i := 2) rfl rfl ?_
        refine Rn.pick (lv' := [(0, .ref s), (2, .int (iv v19_2))]) [0, 1] rfl ?_
        exact B39 _ ht19 v19_2 ⟨by omega, by omega⟩
      · refine r_iconst (pc := 34) (v := iv 0) dX1_drawSquared_34 (by decide) ?_
        refine r_goto (pc := 35) (tgt := 39) dX1_drawSquared_35 (by decide) ?_
        refine Rn.pick (lv' := [(0, .ref s), (2, .int (iv v19_2))]) [0, 1] rfl ?_
        exact B39 _ ht19 0 ⟨by omega, by omega⟩
  refine Rn.pick (lv' := [(0, .ref s), (2, .int (iv 0))]) [1, 0] rfl ?_
  exact B19 (Int.toNat (16 - 0)) 0 kf kt kw kc _ ht12 0 ⟨by omega, by omega, by omega, by omega, by assumption⟩ (by omega)
def q_X1_drawLines (Γ : TG) (cI cJ cZ cT : ClassId) (s : Nat) (n : Nat) (kn : Int) (kd : Int) (ka : Int) (kf : Nat → Int) (kt : Nat → Int) (kw : Nat → Int) (kc : Nat → Int) (ga : Nat) (gF : Nat) (gT : Nat) (gW : Nat) (gC : Nat) (gTl : Nat) (gHd : Nat) (gBy : Nat) (gOu : Nat) (gIn : Nat) (gJo : Nat) (gn : Nat) (gm : Nat) (gq : Nat) (gdr : Int) : Option Value → MH → Nat → Prop := fun r hp1 n1 => n1 = n ∧ ∃ (n1 : Int) (d1 : Int) (k1 : Int) (f1 : Nat → Int) (t1 : Nat → Int) (w1 : Nat → Int) (c1 : Nat → Int) (bb : Int), Tw (DG Γ cI cJ cZ cT s n1 d1 k1 f1 t1 w1 c1) hp1 ∧ r = some (.int (iv bb)) ∧ (1 ≤ n1 ∧ n1 ≤ 16) ∧ (0 ≤ d1 ∧ d1 ≤ 1) ∧ (0 ≤ k1 ∧ k1 ≤ 60) ∧ (arP f1 t1 w1 c1 k1 n1) ∧ (bb = 0 ∨ bb = 1)
set_option maxHeartbeats 4000000 in
set_option maxRecDepth 100000 in
theorem s_X1_drawLines {D : va_G} {cI cJ cZ cT : ClassId} {lo b L : Nat} {xs : Nat → Int32} {hp : MH} {n d : Nat} {Γ : TG} {s : Nat} {kn : Int} {kd : Int} {ka : Int} {kf : Nat → Int} {kt : Nat → Int} {kw : Nat → Int} {kc : Nat → Int} {ga : Nat} {gF : Nat} {gT : Nat} {gW : Nat} {gC : Nat} {gTl : Nat} {gHd : Nat} {gBy : Nat} {gOu : Nat} {gIn : Nat} {gJo : Nat} {gn : Nat} {gm : Nat} {gq : Nat} {gdr : Int} (hd0 : 1 ≤ d) (hg : TyG Γ cI cJ cZ ga gF gT gW gC gTl gHd gBy gOu gIn gJo gn gm gq gdr) (hltg : s + 6 ≤ ga ∧ s + 6 ≤ gF ∧ s + 6 ≤ gT ∧ s + 6 ≤ gW ∧ s + 6 ≤ gC ∧ s + 6 ≤ gTl ∧ s + 6 ≤ gHd ∧ s + 6 ≤ gBy ∧ s + 6 ≤ gOu ∧ s + 6 ≤ gIn ∧ s + 6 ≤ gJo) (hn_kn : 1 ≤ kn ∧ kn ≤ 16) (hn_kd : 0 ≤ kd ∧ kd ≤ 1) (hn_ka : 0 ≤ ka ∧ ka ≤ 60) (ht : Tw (DG Γ cI cJ cZ cT s kn kd ka kf kt kw kc) hp)  (hm9 : 1 ≤ (gm : Int) ∧ (gm : Int) ≤ 16) : Mt (gG D cI cJ cZ cT lo b L xs) mX1_drawLines d 0 0 [.ref s, .ref ga] hp n (q_X1_drawLines Γ cI cJ cZ cT s n kn kd ka kf kt kw kc ga gF gT gW gC gTl gHd gBy gOu gIn gJo gn gm gq gdr) := by
  refine Mt.of rfl (Nat.le_of_ble_eq_true rfl) ?_
  refine Rn.pick (lv' := [(0, .ref s), (1, .ref ga)]) [0, 1] rfl ?_
  obtain ⟨hg_O, hg_from, hg_to, hg_weight, hg_cost, hg_tail, hg_head, hg_by, hg_out, hg_in, hg_joined, hg_b⟩ := id hg
  refine r_aload_n (pc := 0) dX1_drawLines_0 (i := 0) rfl rfl ?_
  refine r_aload_n (pc := 1) dX1_drawLines_1 (i := 1) rfl rfl ?_
  refine t_getE (pc := 2) (.int (iv (gm : Int))) ht (rd_DG (by omega) hg_O) fX1_44 dX1_drawLines_2 rfl ?_
  refine r_aload_n (pc := 5) dX1_drawLines_5 (i := 1) rfl rfl ?_
  refine t_getE (pc := 6) (.int (iv gdr)) ht (rd_DG (by omega) hg_O) fX1_61 dX1_drawLines_6 rfl ?_
  obtain ⟨fs5, hfs5⟩ := t_obj ht (rd_of DG_0)
  refine r_callV (pc := 9) (as := [.int (iv (gm : Int)), .int (iv gdr)]) (st := []) kX1_62 rfl dX1_drawLines_9 hfs5 (s_X1_restart (d := d - 1) (x1 := (gm : Int)) (x2 := gdr) (by omega)  ht (by omega) (by omega)) rfl (by omega) (Nat.le_of_ble_eq_true rfl) (Nat.zero_le _) (Nat.zero_le _) rfl (fun r2 hp1 n3 hq4 => ?_)
  obtain ⟨hnn3, ht6, hrr2⟩ := hq4
  subst n3 r2
  change Rn _ _ _ 12 _ [] _ _ _ _ _
  have ha0 : arP kf kt kw kc 0 (gm : Int) := ar_0 _ _ _ _ _
  refine r_iconst (pc := 12) (v := iv 0) dX1_drawLines_12 (by decide) ?_
  refine r_istore_n (pc := 13) (lv' := [(2, .int (iv 0)), (0, .ref s), (1, .ref ga)]) dX1_drawLines_13 (i := 2) rfl (by decide) rfl ?_
  have B14 : ∀ k : Nat, ∀ ka14 : Int, ∀ kf14 : Nat → Int, ∀ kt14 : Nat → Int, ∀ kw14 : Nat → Int, ∀ kc14 : Nat → Int, ∀ hp14 : MH, Tw (DG Γ cI cJ cZ cT s (gm : Int) gdr ka14 kf14 kt14 kw14 kc14) hp14 → ∀  (v14_2 : Int), 0 ≤ v14_2 ∧ v14_2 ≤ 60 ∧ 0 ≤ ka14 ∧ ka14 ≤ 60 ∧ arP kf14 kt14 kw14 kc14 ka14 (gm : Int) → 60 - v14_2 ≤ (k : Int) → Rn (gG D cI cJ cZ cT lo b L xs) mX1_drawLines d 14 [(0, .ref s), (1, .ref ga), (2, .int (iv v14_2))] [] hp14 n 0 0 (q_X1_drawLines Γ cI cJ cZ cT s n kn kd ka kf kt kw kc ga gF gT gW gC gTl gHd gBy gOu gIn gJo gn gm gq gdr) := by
    refine lpS _ ?_
    intro k14 ih14 ka14 kf14 kt14 kw14 kc14 hp14 ht14 v14_2 hf14 hm14
    obtain ⟨hf14_0, hf14_1, hf14_2, hf14_3, ha14_4⟩ := hf14
    refine r_iload_n (pc := 14) dX1_drawLines_14 (i := 2) rfl rfl ?_
    refine r_aload_n (pc := 15) dX1_drawLines_15 (i := 1) rfl rfl ?_
    refine t_getE (pc := 16) (.int (iv (gm : Int))) ht14 (rd_DG (by omega) hg_O) fX1_44 dX1_drawLines_16 rfl ?_
    refine t_icmp_ge (pc := 19) (tgt := 113) dX1_drawLines_19 (by decide) (by omega) (by omega) (fun c19 => ?_) (fun c19 => ?_)
    · refine r_iconst (pc := 113) (v := iv 1) dX1_drawLines_113 (by decide) ?_
      exact r_zret (pc := 114) dX1_drawLines_114 rfl (iv_nar (by omega)) ⟨rfl, (gm : Int), gdr, ka14, kf14, kt14, kw14, kc14, 1, ht14, rfl, (by omega), (by omega), (by omega), (by (first | assumption | exact ar_0 _ _ _ _ _)), (by omega)⟩
    · refine r_aload_n (pc := 22) dX1_drawLines_22 (i := 0) rfl rfl ?_
      refine t_getE (pc := 23) (.int (iv gdr)) ht14 (rd_of DG_0) fX1_15 dX1_drawLines_23 rfl ?_
      have B36 : ∀ hp36 : MH, Tw (DG Γ cI cJ cZ cT s (gm : Int) gdr ka14 kf14 kt14 kw14 kc14) hp36 → ∀  (u36_0 : Int), 0 ≤ u36_0 ∧ u36_0 ≤ 60 → Rn (gG D cI cJ cZ cT lo b L xs) mX1_drawLines d 36 [(0, .ref s), (1, .ref ga), (2, .int (iv v14_2))] [.int (iv u36_0)] hp36 n 0 0 (q_X1_drawLines Γ cI cJ cZ cT s n kn kd ka kf kt kw kc ga gF gT gW gC gTl gHd gBy gOu gIn gJo gn gm gq gdr) := by
        intro hp36 ht36 u36_0 hf36
        refine r_istore_n (pc := 36) (lv' := [(3, .int (iv u36_0)), (0, .ref s), (1, .ref ga), (2, .int (iv v14_2))]) dX1_drawLines_36 (i := 3) rfl (by decide) rfl ?_
        have B37 : ∀ k : Nat, ∀ ka37 : Int, ∀ kf37 : Nat → Int, ∀ kt37 : Nat → Int, ∀ kw37 : Nat → Int, ∀ kc37 : Nat → Int, ∀ hp37 : MH, Tw (DG Γ cI cJ cZ cT s (gm : Int) gdr ka37 kf37 kt37 kw37 kc37) hp37 → ∀  (v37_3 : Int), 0 ≤ v37_3 ∧ v37_3 ≤ 60 ∧ u36_0 ≤ v37_3 ∧ 0 ≤ ka37 ∧ ka37 ≤ 60 ∧ arP kf37 kt37 kw37 kc37 ka37 (gm : Int) → 60 - v37_3 ≤ (k : Int) → Rn (gG D cI cJ cZ cT lo b L xs) mX1_drawLines d 37 [(0, .ref s), (1, .ref ga), (2, .int (iv v14_2)), (3, .int (iv v37_3))] [] hp37 n 0 0 (q_X1_drawLines Γ cI cJ cZ cT s n kn kd ka kf kt kw kc ga gF gT gW gC gTl gHd gBy gOu gIn gJo gn gm gq gdr) := by
          refine lpS _ ?_
          intro k37 ih37 ka37 kf37 kt37 kw37 kc37 hp37 ht37 v37_3 hf37 hm37
          obtain ⟨hf37_0, hf37_1, hf37_2, hf37_3, hf37_4, ha37_5⟩ := hf37
          refine r_iload_n (pc := 37) dX1_drawLines_37 (i := 3) rfl rfl ?_
          refine r_aload_n (pc := 38) dX1_drawLines_38 (i := 1) rfl rfl ?_
          refine t_getE (pc := 39) (.int (iv (gm : Int))) ht37 (rd_DG (by omega) hg_O) fX1_44 dX1_drawLines_39 rfl ?_
          refine t_icmp_ge (pc := 42) (tgt := 107) dX1_drawLines_42 (by decide) (by omega) (by omega) (fun c42 => ?_) (fun c42 => ?_)
          · refine r_iinc (pc := 107) (v := iv (v14_2 + 1)) (lv' := [(2, .int (iv (v14_2 + 1))), (0, .ref s), (1, .ref ga), (3, .int (iv v37_3))]) dX1_drawLines_107 rfl (iv_add _ _) (by decide) rfl ?_
            refine r_goto (pc := 110) (tgt := 14) dX1_drawLines_110 (by decide) ?_
            refine Rn.pick (lv' := [(0, .ref s), (1, .ref ga), (2, .int (iv (v14_2 + 1)))]) [1, 2, 0] rfl ?_
            exact ih14 (Int.toNat (60 - (v14_2 + 1))) (by omega) ka37 kf37 kt37 kw37 kc37 _ ht37 (v14_2 + 1) ⟨by omega, by omega, by omega, by omega, by assumption⟩ (by omega)
          · refine r_aload_n (pc := 45) dX1_drawLines_45 (i := 0) rfl rfl ?_
            refine t_getE (pc := 46) (.int (iv gdr)) ht37 (rd_of DG_0) fX1_15 dX1_drawLines_46 rfl ?_
            have B81 : ∀ hp81 : MH, Tw (DG Γ cI cJ cZ cT s (gm : Int) gdr ka37 kf37 kt37 kw37 kc37) hp81 → ∀  (u81_0 : Int), 0 ≤ u81_0 ∧ u81_0 ≤ 1 → Rn (gG D cI cJ cZ cT lo b L xs) mX1_drawLines d 81 [(0, .ref s), (1, .ref ga), (2, .int (iv v14_2)), (3, .int (iv v37_3))] [.int (iv u81_0)] hp81 n 0 0 (q_X1_drawLines Γ cI cJ cZ cT s n kn kd ka kf kt kw kc ga gF gT gW gC gTl gHd gBy gOu gIn gJo gn gm gq gdr) := by
              intro hp81 ht81 u81_0 hf81
              refine r_istore (pc := 81) (lv' := [(4, .int (iv u81_0)), (0, .ref s), (1, .ref ga), (2, .int (iv v14_2)), (3, .int (iv v37_3))]) dX1_drawLines_81 (by decide) rfl ?_
              refine r_iload (pc := 83) dX1_drawLines_83 rfl ?_
              have B101 : ∀ ka101 : Int, ∀ kf101 : Nat → Int, ∀ kt101 : Nat → Int, ∀ kw101 : Nat → Int, ∀ kc101 : Nat → Int, ∀ hp101 : MH, Tw (DG Γ cI cJ cZ cT s (gm : Int) gdr ka101 kf101 kt101 kw101 kc101) hp101 → 0 ≤ ka101 ∧ ka101 ≤ 60 ∧ arP kf101 kt101 kw101 kc101 ka101 (gm : Int) → Rn (gG D cI cJ cZ cT lo b L xs) mX1_drawLines d 101 [(0, .ref s), (1, .ref ga), (2, .int (iv v14_2)), (3, .int (iv v37_3))] [] hp101 n 0 0 (q_X1_drawLines Γ cI cJ cZ cT s n kn kd ka kf kt kw kc ga gF gT gW gC gTl gHd gBy gOu gIn gJo gn gm gq gdr) := by
                intro ka101 kf101 kt101 kw101 kc101 hp101 ht101 hf101
                obtain ⟨hf101_0, hf101_1, ha101_2⟩ := hf101
                refine r_iinc (pc := 101) (v := iv (v37_3 + 1)) (lv' := [(3, .int (iv (v37_3 + 1))), (0, .ref s), (1, .ref ga), (2, .int (iv v14_2))]) dX1_drawLines_101 rfl (iv_add _ _) (by decide) rfl ?_
                refine r_goto (pc := 104) (tgt := 37) dX1_drawLines_104 (by decide) ?_
                refine Rn.pick (lv' := [(0, .ref s), (1, .ref ga), (2, .int (iv v14_2)), (3, .int (iv (v37_3 + 1)))]) [1, 2, 3, 0] rfl ?_
                exact ih37 (Int.toNat (60 - (v37_3 + 1))) (by omega) ka101 kf101 kt101 kw101 kc101 _ ht101 (v37_3 + 1) ⟨by omega, by omega, by omega, by omega, by omega, by assumption⟩ (by omega)
              refine t_if_eq (pc := 85) (tgt := 101) dX1_drawLines_85 (by decide) (by omega) (fun c85 => ?_) (fun c85 => ?_)
              · refine Rn.pick (lv' := [(0, .ref s), (1, .ref ga), (2, .int (iv v14_2)), (3, .int (iv v37_3))]) [1, 2, 3, 4] rfl ?_
                exact B101 ka37 kf37 kt37 kw37 kc37 _ ht81 ⟨by omega, by omega, by assumption⟩
              · refine r_aload_n (pc := 88) dX1_drawLines_88 (i := 0) rfl rfl ?_
                refine r_iload_n (pc := 89) dX1_drawLines_89 (i := 2) rfl rfl ?_
                refine r_iload_n (pc := 90) dX1_drawLines_90 (i := 3) rfl rfl ?_
                refine r_iconst (pc := 91) (v := iv 0) dX1_drawLines_91 (by decide) ?_
                refine r_iconst (pc := 92) (v := iv 0) dX1_drawLines_92 (by decide) ?_
                obtain ⟨fs11, hfs11⟩ := t_obj ht81 (rd_of DG_0)
                refine r_callV (pc := 93) (as := [.int (iv v14_2), .int (iv v37_3), .int (iv 0), .int (iv 0)]) (st := []) kX1_74 rfl dX1_drawLines_93 hfs11 (s_X1_add (d := d - 1) (x1 := v14_2) (x2 := v37_3) (x3 := 0) (x4 := 0) (by omega)  (by omega) ht81 (by omega) (by omega) (by omega) (by omega)) rfl (by omega) (Nat.le_of_ble_eq_true rfl) (Nat.zero_le _) (Nat.zero_le _) rfl (fun r8 hp7 n9 hq10 => ?_)
                obtain ⟨hnn9, bb_13, k1_14, f1_15, t1_16, w1_17, c1_18, ht12, hrr8, hhq100, hhq101, hhq102, hhq103⟩ := hq10
                subst n9 r8
                have hhq100 : (bb_13 = 1 ∧ ka37 < 60 ∧ k1_14 = ka37 + 1) ∨ (bb_13 = 0 ∧ 60 ≤ ka37 ∧ k1_14 = ka37) := hhq100
                have hhq101 : ka37 < 60 → f1_15 = fup kf37 (Int.toNat ka37) v14_2 ∧ t1_16 = fup kt37 (Int.toNat ka37) v37_3 ∧ w1_17 = fup kw37 (Int.toNat ka37) 0 ∧ c1_18 = fup kc37 (Int.toNat ka37) 0 := hhq101
                have hhq102 : 60 ≤ ka37 → f1_15 = kf37 ∧ t1_16 = kt37 ∧ w1_17 = kw37 ∧ c1_18 = kc37 := hhq102
                have hhq103 : 0 ≤ k1_14 ∧ k1_14 ≤ 60 := hhq103
                change Rn _ _ _ 96 _ [.int (iv bb_13)] _ _ _ _ _
                have hapq19 : arP f1_15 t1_16 w1_17 c1_18 k1_14 (gm : Int) := ar_add (by assumption) (by omega) (by omega) (by omega) (by omega) (by omega) hhq100 hhq101 hhq102
                refine t_if_ne (pc := 96) (tgt := 101) dX1_drawLines_96 (by decide) (by omega) (fun c96 => ?_) (fun c96 => ?_)
                · refine Rn.pick (lv' := [(0, .ref s), (1, .ref ga), (2, .int (iv v14_2)), (3, .int (iv v37_3))]) [1, 2, 3, 4] rfl ?_
                  exact B101 k1_14 f1_15 t1_16 w1_17 c1_18 _ ht12 ⟨by omega, by omega, by assumption⟩
                · refine r_iconst (pc := 99) (v := iv 0) dX1_drawLines_99 (by decide) ?_
                  exact r_zret (pc := 100) dX1_drawLines_100 rfl (iv_nar (by omega)) ⟨rfl, (gm : Int), gdr, k1_14, f1_15, t1_16, w1_17, c1_18, 0, ht12, rfl, (by omega), (by omega), (by omega), (by (first | assumption | exact ar_0 _ _ _ _ _)), (by omega)⟩
            refine t_if_eq (pc := 49) (tgt := 75) dX1_drawLines_49 (by decide) (by omega) (fun c49 => ?_) (fun c49 => ?_)
            · refine r_aload_n (pc := 75) dX1_drawLines_75 (i := 1) rfl rfl ?_
              refine r_iload_n (pc := 76) dX1_drawLines_76 (i := 2) rfl rfl ?_
              refine r_iload_n (pc := 77) dX1_drawLines_77 (i := 3) rfl rfl ?_
              refine t_callVR (pc := 78) (as := [.int (iv v14_2), .int (iv v37_3)]) (st := []) ht37 (rd_DG (by omega) hg_O) kX1_131 rfl dX1_drawLines_78 (t_X3_shareNode (d := d - 1) (x1 := v14_2) (x2 := v37_3) (by omega) (TyG.dg hltg hg)  ht37 (by omega) (by omega) (by omega)) rfl (by omega) (Nat.le_of_ble_eq_true rfl) rfl (fun hp20 y22 ht21 by22 => ?_)
              refine Rn.pick (lv' := [(0, .ref s), (1, .ref ga), (2, .int (iv v14_2)), (3, .int (iv v37_3))]) [0, 1, 2, 3] rfl ?_
              exact B81 _ ht21 y22 ⟨by omega, by omega⟩
            · refine r_aload_n (pc := 52) dX1_drawLines_52 (i := 1) rfl rfl ?_
              refine t_getE (pc := 53) (.ref gT) ht37 (rd_DG (by omega) hg_O) fX1_70 dX1_drawLines_53 rfl ?_
              refine r_iload_n (pc := 56) dX1_drawLines_56 (i := 2) rfl rfl ?_
              refine t_ialdR (pc := 57) (t0 := 0) ht37 (rd_DG (by omega) hg_to) dX1_drawLines_57 rfl (by omega) (by omega) (fun y23 by23 => ?_)
              refine r_aload_n (pc := 58) dX1_drawLines_58 (i := 1) rfl rfl ?_
              refine t_getE (pc := 59) (.ref gF) ht37 (rd_DG (by omega) hg_O) fX1_71 dX1_drawLines_59 rfl ?_
              refine r_iload_n (pc := 62) dX1_drawLines_62 (i := 3) rfl rfl ?_
              refine t_ialdR (pc := 63) (t0 := 0) ht37 (rd_DG (by omega) hg_from) dX1_drawLines_63 rfl (by omega) (by omega) (fun y24 by24 => ?_)
              refine t_icmp_ne (pc := 64) (tgt := 71) dX1_drawLines_64 (by decide) (by omega) (by omega) (fun c64 => ?_) (fun c64 => ?_)
              · refine r_iconst (pc := 71) (v := iv 0) dX1_drawLines_71 (by decide) ?_
                refine r_goto (pc := 72) (tgt := 81) dX1_drawLines_72 (by decide) ?_
                refine Rn.pick (lv' := [(0, .ref s), (1, .ref ga), (2, .int (iv v14_2)), (3, .int (iv v37_3))]) [0, 1, 2, 3] rfl ?_
                exact B81 _ ht37 0 ⟨by omega, by omega⟩
              · refine r_iconst (pc := 67) (v := iv 1) dX1_drawLines_67 (by decide) ?_
                refine r_goto (pc := 68) (tgt := 81) dX1_drawLines_68 (by decide) ?_
                refine Rn.pick (lv' := [(0, .ref s), (1, .ref ga), (2, .int (iv v14_2)), (3, .int (iv v37_3))]) [0, 1, 2, 3] rfl ?_
                exact B81 _ ht37 1 ⟨by omega, by omega⟩
        refine Rn.pick (lv' := [(0, .ref s), (1, .ref ga), (2, .int (iv v14_2)), (3, .int (iv u36_0))]) [1, 2, 3, 0] rfl ?_
        exact B37 (Int.toNat (60 - u36_0)) ka14 kf14 kt14 kw14 kc14 _ ht36 u36_0 ⟨by omega, by omega, by omega, by omega, by omega, by assumption⟩ (by omega)
      refine t_if_eq (pc := 26) (tgt := 33) dX1_drawLines_26 (by decide) (by omega) (fun c26 => ?_) (fun c26 => ?_)
      · refine r_iload_n (pc := 33) dX1_drawLines_33 (i := 2) rfl rfl ?_
        refine r_iconst (pc := 34) (v := iv 1) dX1_drawLines_34 (by decide) ?_
        refine r_iadd (pc := 35) (v := iv (v14_2 + 1)) dX1_drawLines_35 (iv_add _ _) ?_
        refine Rn.pick (lv' := [(0, .ref s), (1, .ref ga), (2, .int (iv v14_2))]) [0, 1, 2] rfl ?_
        exact B36 _ ht14 (v14_2 + 1) ⟨by omega, by omega⟩
      · refine r_iconst (pc := 29) (v := iv 0) dX1_drawLines_29 (by decide) ?_
        refine r_goto (pc := 30) (tgt := 36) dX1_drawLines_30 (by decide) ?_
        refine Rn.pick (lv' := [(0, .ref s), (1, .ref ga), (2, .int (iv v14_2))]) [0, 1, 2] rfl ?_
        exact B36 _ ht14 0 ⟨by omega, by omega⟩
  refine Rn.pick (lv' := [(0, .ref s), (1, .ref ga), (2, .int (iv 0))]) [1, 2, 0] rfl ?_
  exact B14 (Int.toNat (60 - 0)) 0 kf kt kw kc _ ht6 0 ⟨by omega, by omega, by omega, by omega, by assumption⟩ (by omega)
def q_X1_drawBoth (Γ : TG) (cI cJ cZ cT : ClassId) (s : Nat) (n : Nat) (kn : Int) (kd : Int) (ka : Int) (kf : Nat → Int) (kt : Nat → Int) (kw : Nat → Int) (kc : Nat → Int) (ga : Nat) (gF : Nat) (gT : Nat) (gW : Nat) (gC : Nat) (gTl : Nat) (gHd : Nat) (gBy : Nat) (gOu : Nat) (gIn : Nat) (gJo : Nat) (gn : Nat) (gm : Nat) (gq : Nat) (gdr : Int) (ja : Nat) (jF : Nat) (jT : Nat) (jW : Nat) (jC : Nat) (jTl : Nat) (jHd : Nat) (jBy : Nat) (jOu : Nat) (jIn : Nat) (jJo : Nat) (jn : Nat) (jm : Nat) (jq : Nat) (jdr : Int) : Option Value → MH → Nat → Prop := fun r hp1 n1 => n1 = n ∧ ∃ (n1 : Int) (d1 : Int) (k1 : Int) (f1 : Nat → Int) (t1 : Nat → Int) (w1 : Nat → Int) (c1 : Nat → Int), Tw (DG Γ cI cJ cZ cT s n1 d1 k1 f1 t1 w1 c1) hp1 ∧ r = none ∧ (1 ≤ n1 ∧ n1 ≤ 16) ∧ (0 ≤ d1 ∧ d1 ≤ 1) ∧ (0 ≤ k1 ∧ k1 ≤ 60) ∧ (arP f1 t1 w1 c1 k1 n1)
set_option maxHeartbeats 4000000 in
set_option maxRecDepth 100000 in
theorem s_X1_drawBoth {D : va_G} {cI cJ cZ cT : ClassId} {lo b L : Nat} {xs : Nat → Int32} {hp : MH} {n d : Nat} {Γ : TG} {s : Nat} {kn : Int} {kd : Int} {ka : Int} {kf : Nat → Int} {kt : Nat → Int} {kw : Nat → Int} {kc : Nat → Int} {ga : Nat} {gF : Nat} {gT : Nat} {gW : Nat} {gC : Nat} {gTl : Nat} {gHd : Nat} {gBy : Nat} {gOu : Nat} {gIn : Nat} {gJo : Nat} {gn : Nat} {gm : Nat} {gq : Nat} {gdr : Int} {ja : Nat} {jF : Nat} {jT : Nat} {jW : Nat} {jC : Nat} {jTl : Nat} {jHd : Nat} {jBy : Nat} {jOu : Nat} {jIn : Nat} {jJo : Nat} {jn : Nat} {jm : Nat} {jq : Nat} {jdr : Int} (hd0 : 1 ≤ d) (hg : TyG Γ cI cJ cZ ga gF gT gW gC gTl gHd gBy gOu gIn gJo gn gm gq gdr) (hltg : s + 6 ≤ ga ∧ s + 6 ≤ gF ∧ s + 6 ≤ gT ∧ s + 6 ≤ gW ∧ s + 6 ≤ gC ∧ s + 6 ≤ gTl ∧ s + 6 ≤ gHd ∧ s + 6 ≤ gBy ∧ s + 6 ≤ gOu ∧ s + 6 ≤ gIn ∧ s + 6 ≤ gJo) (hj : TyG Γ cI cJ cZ ja jF jT jW jC jTl jHd jBy jOu jIn jJo jn jm jq jdr) (hltj : s + 6 ≤ ja ∧ s + 6 ≤ jF ∧ s + 6 ≤ jT ∧ s + 6 ≤ jW ∧ s + 6 ≤ jC ∧ s + 6 ≤ jTl ∧ s + 6 ≤ jHd ∧ s + 6 ≤ jBy ∧ s + 6 ≤ jOu ∧ s + 6 ≤ jIn ∧ s + 6 ≤ jJo) (hn_kn : 1 ≤ kn ∧ kn ≤ 16) (hn_kd : 0 ≤ kd ∧ kd ≤ 1) (hn_ka : 0 ≤ ka ∧ ka ≤ 60) (ht : Tw (DG Γ cI cJ cZ cT s kn kd ka kf kt kw kc) hp)  (hm9 : ((gn : Int) + (jn : Int)) ≤ 16) : Mt (gG D cI cJ cZ cT lo b L xs) mX1_drawBoth d 0 0 [.ref s, .ref ga, .ref ja] hp n (q_X1_drawBoth Γ cI cJ cZ cT s n kn kd ka kf kt kw kc ga gF gT gW gC gTl gHd gBy gOu gIn gJo gn gm gq gdr ja jF jT jW jC jTl jHd jBy jOu jIn jJo jn jm jq jdr) := by
  refine Mt.of rfl (Nat.le_of_ble_eq_true rfl) ?_
  refine Rn.pick (lv' := [(0, .ref s), (1, .ref ga), (2, .ref ja)]) [0, 1, 2] rfl ?_
  obtain ⟨hg_O, hg_from, hg_to, hg_weight, hg_cost, hg_tail, hg_head, hg_by, hg_out, hg_in, hg_joined, hg_b⟩ := id hg
  obtain ⟨hj_O, hj_from, hj_to, hj_weight, hj_cost, hj_tail, hj_head, hj_by, hj_out, hj_in, hj_joined, hj_b⟩ := id hj
  refine r_aload_n (pc := 0) dX1_drawBoth_0 (i := 0) rfl rfl ?_
  refine r_aload_n (pc := 1) dX1_drawBoth_1 (i := 1) rfl rfl ?_
  refine t_getE (pc := 2) (.int (iv (gn : Int))) ht (rd_DG (by omega) hg_O) fX1_60 dX1_drawBoth_2 rfl ?_
  refine r_aload_n (pc := 5) dX1_drawBoth_5 (i := 2) rfl rfl ?_
  refine t_getE (pc := 6) (.int (iv (jn : Int))) ht (rd_DG (by omega) hj_O) fX1_60 dX1_drawBoth_6 rfl ?_
  refine r_iadd (pc := 9) (v := iv ((gn : Int) + (jn : Int))) dX1_drawBoth_9 (iv_add _ _) ?_
  refine r_aload_n (pc := 10) dX1_drawBoth_10 (i := 1) rfl rfl ?_
  refine t_getE (pc := 11) (.int (iv gdr)) ht (rd_DG (by omega) hg_O) fX1_61 dX1_drawBoth_11 rfl ?_
  obtain ⟨fs5, hfs5⟩ := t_obj ht (rd_of DG_0)
  refine r_callV (pc := 14) (as := [.int (iv ((gn : Int) + (jn : Int))), .int (iv gdr)]) (st := []) kX1_62 rfl dX1_drawBoth_14 hfs5 (s_X1_restart (d := d - 1) (x1 := (gn : Int) + (jn : Int)) (x2 := gdr) (by omega)  ht (by omega) (by omega)) rfl (by omega) (Nat.le_of_ble_eq_true rfl) (Nat.zero_le _) (Nat.zero_le _) rfl (fun r2 hp1 n3 hq4 => ?_)
  obtain ⟨hnn3, ht6, hrr2⟩ := hq4
  subst n3 r2
  change Rn _ _ _ 17 _ [] _ _ _ _ _
  have ha0 : arP kf kt kw kc 0 ((gn : Int) + (jn : Int)) := ar_0 _ _ _ _ _
  refine r_iconst (pc := 17) (v := iv 0) dX1_drawBoth_17 (by decide) ?_
  refine r_istore_n (pc := 18) (lv' := [(3, .int (iv 0)), (0, .ref s), (1, .ref ga), (2, .ref ja)]) dX1_drawBoth_18 (i := 3) rfl (by decide) rfl ?_
  have B19 : ∀ k : Nat, ∀ ka19 : Int, ∀ kf19 : Nat → Int, ∀ kt19 : Nat → Int, ∀ kw19 : Nat → Int, ∀ kc19 : Nat → Int, ∀ hp19 : MH, Tw (DG Γ cI cJ cZ cT s ((gn : Int) + (jn : Int)) gdr ka19 kf19 kt19 kw19 kc19) hp19 → ∀  (v19_3 : Int), 0 ≤ v19_3 ∧ v19_3 ≤ 60 ∧ 0 ≤ ka19 ∧ ka19 ≤ 60 ∧ arP kf19 kt19 kw19 kc19 ka19 ((gn : Int) + (jn : Int)) → 60 - v19_3 ≤ (k : Int) → Rn (gG D cI cJ cZ cT lo b L xs) mX1_drawBoth d 19 [(0, .ref s), (1, .ref ga), (2, .ref ja), (3, .int (iv v19_3))] [] hp19 n 0 0 (q_X1_drawBoth Γ cI cJ cZ cT s n kn kd ka kf kt kw kc ga gF gT gW gC gTl gHd gBy gOu gIn gJo gn gm gq gdr ja jF jT jW jC jTl jHd jBy jOu jIn jJo jn jm jq jdr) := by
    refine lpS _ ?_
    intro k19 ih19 ka19 kf19 kt19 kw19 kc19 hp19 ht19 v19_3 hf19 hm19
    obtain ⟨hf19_0, hf19_1, hf19_2, hf19_3, ha19_4⟩ := hf19
    refine r_iload_n (pc := 19) dX1_drawBoth_19 (i := 3) rfl rfl ?_
    refine r_aload_n (pc := 20) dX1_drawBoth_20 (i := 1) rfl rfl ?_
    refine t_getE (pc := 21) (.int (iv (gm : Int))) ht19 (rd_DG (by omega) hg_O) fX1_44 dX1_drawBoth_21 rfl ?_
    refine t_icmp_ge (pc := 24) (tgt := 62) dX1_drawBoth_24 (by decide) (by omega) (by omega) (fun c24 => ?_) (fun c24 => ?_)
    · refine r_iconst (pc := 62) (v := iv 0) dX1_drawBoth_62 (by decide) ?_
      refine r_istore_n (pc := 63) (lv' := [(3, .int (iv 0)), (0, .ref s), (1, .ref ga), (2, .ref ja)]) dX1_drawBoth_63 (i := 3) rfl (by decide) rfl ?_
      have B64 : ∀ k : Nat, ∀ ka64 : Int, ∀ kf64 : Nat → Int, ∀ kt64 : Nat → Int, ∀ kw64 : Nat → Int, ∀ kc64 : Nat → Int, ∀ hp64 : MH, Tw (DG Γ cI cJ cZ cT s ((gn : Int) + (jn : Int)) gdr ka64 kf64 kt64 kw64 kc64) hp64 → ∀  (v64_3 : Int), 0 ≤ v64_3 ∧ v64_3 ≤ 60 ∧ 0 ≤ ka64 ∧ ka64 ≤ 60 ∧ arP kf64 kt64 kw64 kc64 ka64 ((gn : Int) + (jn : Int)) → 60 - v64_3 ≤ (k : Int) → Rn (gG D cI cJ cZ cT lo b L xs) mX1_drawBoth d 64 [(0, .ref s), (1, .ref ga), (2, .ref ja), (3, .int (iv v64_3))] [] hp64 n 0 0 (q_X1_drawBoth Γ cI cJ cZ cT s n kn kd ka kf kt kw kc ga gF gT gW gC gTl gHd gBy gOu gIn gJo gn gm gq gdr ja jF jT jW jC jTl jHd jBy jOu jIn jJo jn jm jq jdr) := by
        refine lpS _ ?_
        intro k64 ih64 ka64 kf64 kt64 kw64 kc64 hp64 ht64 v64_3 hf64 hm64
        obtain ⟨hf64_0, hf64_1, hf64_2, hf64_3, ha64_4⟩ := hf64
        refine r_iload_n (pc := 64) dX1_drawBoth_64 (i := 3) rfl rfl ?_
        refine r_aload_n (pc := 65) dX1_drawBoth_65 (i := 2) rfl rfl ?_
        refine t_getE (pc := 66) (.int (iv (jm : Int))) ht64 (rd_DG (by omega) hj_O) fX1_44 dX1_drawBoth_66 rfl ?_
        refine t_icmp_ge (pc := 69) (tgt := 117) dX1_drawBoth_69 (by decide) (by omega) (by omega) (fun c69 => ?_) (fun c69 => ?_)
        · exact r_vret (pc := 117) dX1_drawBoth_117 rfl ⟨rfl, ((gn : Int) + (jn : Int)), gdr, ka64, kf64, kt64, kw64, kc64, ht64, rfl, (by omega), (by omega), (by omega), (by (first | assumption | exact ar_0 _ _ _ _ _))⟩
        · refine r_aload_n (pc := 72) dX1_drawBoth_72 (i := 0) rfl rfl ?_
          refine r_aload_n (pc := 73) dX1_drawBoth_73 (i := 1) rfl rfl ?_
          refine t_getE (pc := 74) (.int (iv (gn : Int))) ht64 (rd_DG (by omega) hg_O) fX1_60 dX1_drawBoth_74 rfl ?_
          refine r_aload_n (pc := 77) dX1_drawBoth_77 (i := 2) rfl rfl ?_
          refine t_getE (pc := 78) (.ref jF) ht64 (rd_DG (by omega) hj_O) fX1_71 dX1_drawBoth_78 rfl ?_
          refine r_iload_n (pc := 81) dX1_drawBoth_81 (i := 3) rfl rfl ?_
          refine t_ialdR (pc := 82) (t0 := 0) ht64 (rd_DG (by omega) hj_from) dX1_drawBoth_82 rfl (by omega) (by omega) (fun y7 by7 => ?_)
          refine r_iadd (pc := 83) (v := iv ((gn : Int) + y7)) dX1_drawBoth_83 (iv_add _ _) ?_
          refine r_aload_n (pc := 84) dX1_drawBoth_84 (i := 1) rfl rfl ?_
          refine t_getE (pc := 85) (.int (iv (gn : Int))) ht64 (rd_DG (by omega) hg_O) fX1_60 dX1_drawBoth_85 rfl ?_
          refine r_aload_n (pc := 88) dX1_drawBoth_88 (i := 2) rfl rfl ?_
          refine t_getE (pc := 89) (.ref jT) ht64 (rd_DG (by omega) hj_O) fX1_70 dX1_drawBoth_89 rfl ?_
          refine r_iload_n (pc := 92) dX1_drawBoth_92 (i := 3) rfl rfl ?_
          refine t_ialdR (pc := 93) (t0 := 0) ht64 (rd_DG (by omega) hj_to) dX1_drawBoth_93 rfl (by omega) (by omega) (fun y8 by8 => ?_)
          refine r_iadd (pc := 94) (v := iv ((gn : Int) + y8)) dX1_drawBoth_94 (iv_add _ _) ?_
          refine r_aload_n (pc := 95) dX1_drawBoth_95 (i := 2) rfl rfl ?_
          refine t_getE (pc := 96) (.ref jW) ht64 (rd_DG (by omega) hj_O) fX1_72 dX1_drawBoth_96 rfl ?_
          refine r_iload_n (pc := 99) dX1_drawBoth_99 (i := 3) rfl rfl ?_
          refine t_ialdR (pc := 100) (t0 := 0) ht64 (rd_DG (by omega) hj_weight) dX1_drawBoth_100 rfl (by omega) (by omega) (fun y9 by9 => ?_)
          refine r_aload_n (pc := 101) dX1_drawBoth_101 (i := 2) rfl rfl ?_
          refine t_getE (pc := 102) (.ref jC) ht64 (rd_DG (by omega) hj_O) fX1_73 dX1_drawBoth_102 rfl ?_
          refine r_iload_n (pc := 105) dX1_drawBoth_105 (i := 3) rfl rfl ?_
          refine t_ialdR (pc := 106) (t0 := 0) ht64 (rd_DG (by omega) hj_cost) dX1_drawBoth_106 rfl (by omega) (by omega) (fun y10 by10 => ?_)
          obtain ⟨fs15, hfs15⟩ := t_obj ht64 (rd_of DG_0)
          refine r_callV (pc := 107) (as := [.int (iv ((gn : Int) + y7)), .int (iv ((gn : Int) + y8)), .int (iv y9), .int (iv y10)]) (st := []) kX1_74 rfl dX1_drawBoth_107 hfs15 (s_X1_add (d := d - 1) (x1 := (gn : Int) + y7) (x2 := (gn : Int) + y8) (x3 := y9) (x4 := y10) (by omega)  (by omega) ht64 (by omega) (by omega) (by omega) (by omega)) rfl (by omega) (Nat.le_of_ble_eq_true rfl) (Nat.zero_le _) (Nat.zero_le _) rfl (fun r12 hp11 n13 hq14 => ?_)
          obtain ⟨hnn13, bb_17, k1_18, f1_19, t1_20, w1_21, c1_22, ht16, hrr12, hhq140, hhq141, hhq142, hhq143⟩ := hq14
          subst n13 r12
          have hhq140 : (bb_17 = 1 ∧ ka64 < 60 ∧ k1_18 = ka64 + 1) ∨ (bb_17 = 0 ∧ 60 ≤ ka64 ∧ k1_18 = ka64) := hhq140
          have hhq141 : ka64 < 60 → f1_19 = fup kf64 (Int.toNat ka64) ((gn : Int) + y7) ∧ t1_20 = fup kt64 (Int.toNat ka64) ((gn : Int) + y8) ∧ w1_21 = fup kw64 (Int.toNat ka64) y9 ∧ c1_22 = fup kc64 (Int.toNat ka64) y10 := hhq141
          have hhq142 : 60 ≤ ka64 → f1_19 = kf64 ∧ t1_20 = kt64 ∧ w1_21 = kw64 ∧ c1_22 = kc64 := hhq142
          have hhq143 : 0 ≤ k1_18 ∧ k1_18 ≤ 60 := hhq143
          change Rn _ _ _ 110 _ [.int (iv bb_17)] _ _ _ _ _
          have hapq23 : arP f1_19 t1_20 w1_21 c1_22 k1_18 ((gn : Int) + (jn : Int)) := ar_add (by assumption) (by omega) (by omega) (by omega) (by omega) (by omega) hhq140 hhq141 hhq142
          refine r_pop (pc := 110) dX1_drawBoth_110 rfl ?_
          refine r_iinc (pc := 111) (v := iv (v64_3 + 1)) (lv' := [(3, .int (iv (v64_3 + 1))), (0, .ref s), (1, .ref ga), (2, .ref ja)]) dX1_drawBoth_111 rfl (iv_add _ _) (by decide) rfl ?_
          refine r_goto (pc := 114) (tgt := 64) dX1_drawBoth_114 (by decide) ?_
          refine Rn.pick (lv' := [(0, .ref s), (1, .ref ga), (2, .ref ja), (3, .int (iv (v64_3 + 1)))]) [1, 2, 3, 0] rfl ?_
          exact ih64 (Int.toNat (60 - (v64_3 + 1))) (by omega) k1_18 f1_19 t1_20 w1_21 c1_22 _ ht16 (v64_3 + 1) ⟨by omega, by omega, by omega, by omega, by assumption⟩ (by omega)
      refine Rn.pick (lv' := [(0, .ref s), (1, .ref ga), (2, .ref ja), (3, .int (iv 0))]) [1, 2, 3, 0] rfl ?_
      exact B64 (Int.toNat (60 - 0)) ka19 kf19 kt19 kw19 kc19 _ ht19 0 ⟨by omega, by omega, by omega, by omega, by assumption⟩ (by omega)
    · refine r_aload_n (pc := 27) dX1_drawBoth_27 (i := 0) rfl rfl ?_
      refine r_aload_n (pc := 28) dX1_drawBoth_28 (i := 1) rfl rfl ?_
      refine t_getE (pc := 29) (.ref gF) ht19 (rd_DG (by omega) hg_O) fX1_71 dX1_drawBoth_29 rfl ?_
      refine r_iload_n (pc := 32) dX1_drawBoth_32 (i := 3) rfl rfl ?_
      refine t_ialdR (pc := 33) (t0 := 0) ht19 (rd_DG (by omega) hg_from) dX1_drawBoth_33 rfl (by omega) (by omega) (fun y24 by24 => ?_)
      refine r_aload_n (pc := 34) dX1_drawBoth_34 (i := 1) rfl rfl ?_
      refine t_getE (pc := 35) (.ref gT) ht19 (rd_DG (by omega) hg_O) fX1_70 dX1_drawBoth_35 rfl ?_
      refine r_iload_n (pc := 38) dX1_drawBoth_38 (i := 3) rfl rfl ?_
      refine t_ialdR (pc := 39) (t0 := 0) ht19 (rd_DG (by omega) hg_to) dX1_drawBoth_39 rfl (by omega) (by omega) (fun y25 by25 => ?_)
      refine r_aload_n (pc := 40) dX1_drawBoth_40 (i := 1) rfl rfl ?_
      refine t_getE (pc := 41) (.ref gW) ht19 (rd_DG (by omega) hg_O) fX1_72 dX1_drawBoth_41 rfl ?_
      refine r_iload_n (pc := 44) dX1_drawBoth_44 (i := 3) rfl rfl ?_
      refine t_ialdR (pc := 45) (t0 := 0) ht19 (rd_DG (by omega) hg_weight) dX1_drawBoth_45 rfl (by omega) (by omega) (fun y26 by26 => ?_)
      refine r_aload_n (pc := 46) dX1_drawBoth_46 (i := 1) rfl rfl ?_
      refine t_getE (pc := 47) (.ref gC) ht19 (rd_DG (by omega) hg_O) fX1_73 dX1_drawBoth_47 rfl ?_
      refine r_iload_n (pc := 50) dX1_drawBoth_50 (i := 3) rfl rfl ?_
      refine t_ialdR (pc := 51) (t0 := 0) ht19 (rd_DG (by omega) hg_cost) dX1_drawBoth_51 rfl (by omega) (by omega) (fun y27 by27 => ?_)
      obtain ⟨fs32, hfs32⟩ := t_obj ht19 (rd_of DG_0)
      refine r_callV (pc := 52) (as := [.int (iv y24), .int (iv y25), .int (iv y26), .int (iv y27)]) (st := []) kX1_74 rfl dX1_drawBoth_52 hfs32 (s_X1_add (d := d - 1) (x1 := y24) (x2 := y25) (x3 := y26) (x4 := y27) (by omega)  (by omega) ht19 (by omega) (by omega) (by omega) (by omega)) rfl (by omega) (Nat.le_of_ble_eq_true rfl) (Nat.zero_le _) (Nat.zero_le _) rfl (fun r29 hp28 n30 hq31 => ?_)
      obtain ⟨hnn30, bb_34, k1_35, f1_36, t1_37, w1_38, c1_39, ht33, hrr29, hhq310, hhq311, hhq312, hhq313⟩ := hq31
      subst n30 r29
      have hhq310 : (bb_34 = 1 ∧ ka19 < 60 ∧ k1_35 = ka19 + 1) ∨ (bb_34 = 0 ∧ 60 ≤ ka19 ∧ k1_35 = ka19) := hhq310
      have hhq311 : ka19 < 60 → f1_36 = fup kf19 (Int.toNat ka19) y24 ∧ t1_37 = fup kt19 (Int.toNat ka19) y25 ∧ w1_38 = fup kw19 (Int.toNat ka19) y26 ∧ c1_39 = fup kc19 (Int.toNat ka19) y27 := hhq311
      have hhq312 : 60 ≤ ka19 → f1_36 = kf19 ∧ t1_37 = kt19 ∧ w1_38 = kw19 ∧ c1_39 = kc19 := hhq312
      have hhq313 : 0 ≤ k1_35 ∧ k1_35 ≤ 60 := hhq313
      change Rn _ _ _ 55 _ [.int (iv bb_34)] _ _ _ _ _
      have hapq40 : arP f1_36 t1_37 w1_38 c1_39 k1_35 ((gn : Int) + (jn : Int)) := ar_add (by assumption) (by omega) (by omega) (by omega) (by omega) (by omega) hhq310 hhq311 hhq312
      refine r_pop (pc := 55) dX1_drawBoth_55 rfl ?_
      refine r_iinc (pc := 56) (v := iv (v19_3 + 1)) (lv' := [(3, .int (iv (v19_3 + 1))), (0, .ref s), (1, .ref ga), (2, .ref ja)]) dX1_drawBoth_56 rfl (iv_add _ _) (by decide) rfl ?_
      refine r_goto (pc := 59) (tgt := 19) dX1_drawBoth_59 (by decide) ?_
      refine Rn.pick (lv' := [(0, .ref s), (1, .ref ga), (2, .ref ja), (3, .int (iv (v19_3 + 1)))]) [1, 2, 3, 0] rfl ?_
      exact ih19 (Int.toNat (60 - (v19_3 + 1))) (by omega) k1_35 f1_36 t1_37 w1_38 c1_39 _ ht33 (v19_3 + 1) ⟨by omega, by omega, by omega, by omega, by assumption⟩ (by omega)
  refine Rn.pick (lv' := [(0, .ref s), (1, .ref ga), (2, .ref ja), (3, .int (iv 0))]) [1, 2, 3, 0] rfl ?_
  exact B19 (Int.toNat (60 - 0)) 0 kf kt kw kc _ ht6 0 ⟨by omega, by omega, by omega, by omega, by assumption⟩ (by omega)
def q_X1_drawMelted (Γ : TG) (cI cJ cZ cT : ClassId) (s : Nat) (n : Nat) (kn : Int) (kd : Int) (ka : Int) (kf : Nat → Int) (kt : Nat → Int) (kw : Nat → Int) (kc : Nat → Int) (ga : Nat) (gF : Nat) (gT : Nat) (gW : Nat) (gC : Nat) (gTl : Nat) (gHd : Nat) (gBy : Nat) (gOu : Nat) (gIn : Nat) (gJo : Nat) (gn : Nat) (gm : Nat) (gq : Nat) (gdr : Int) (ra : Nat) (rN : Nat) (rO : Nat) (rn : Nat) (rz : Nat) : Option Value → MH → Nat → Prop := fun r hp1 n1 => n1 = n ∧ ∃ (n1 : Int) (d1 : Int) (k1 : Int) (f1 : Nat → Int) (t1 : Nat → Int) (w1 : Nat → Int) (c1 : Nat → Int), Tw (DG Γ cI cJ cZ cT s n1 d1 k1 f1 t1 w1 c1) hp1 ∧ r = none ∧ (1 ≤ n1 ∧ n1 ≤ 16) ∧ (0 ≤ d1 ∧ d1 ≤ 1) ∧ (0 ≤ k1 ∧ k1 ≤ 60) ∧ (arP f1 t1 w1 c1 k1 n1)
set_option maxHeartbeats 4000000 in
set_option maxRecDepth 100000 in
theorem s_X1_drawMelted {D : va_G} {cI cJ cZ cT : ClassId} {lo b L : Nat} {xs : Nat → Int32} {hp : MH} {n d : Nat} {Γ : TG} {s : Nat} {kn : Int} {kd : Int} {ka : Int} {kf : Nat → Int} {kt : Nat → Int} {kw : Nat → Int} {kc : Nat → Int} {ga : Nat} {gF : Nat} {gT : Nat} {gW : Nat} {gC : Nat} {gTl : Nat} {gHd : Nat} {gBy : Nat} {gOu : Nat} {gIn : Nat} {gJo : Nat} {gn : Nat} {gm : Nat} {gq : Nat} {gdr : Int} {ra : Nat} {rN : Nat} {rO : Nat} {rn : Nat} {rz : Nat} (hd0 : 1 ≤ d) (hg : TyG Γ cI cJ cZ ga gF gT gW gC gTl gHd gBy gOu gIn gJo gn gm gq gdr) (hltg : s + 6 ≤ ga ∧ s + 6 ≤ gF ∧ s + 6 ≤ gT ∧ s + 6 ≤ gW ∧ s + 6 ≤ gC ∧ s + 6 ≤ gTl ∧ s + 6 ≤ gHd ∧ s + 6 ≤ gBy ∧ s + 6 ≤ gOu ∧ s + 6 ≤ gIn ∧ s + 6 ≤ gJo) (hr : TyP Γ cI cJ cZ ra rN rO rn rz) (hltr : s + 6 ≤ ra ∧ s + 6 ≤ rN ∧ s + 6 ≤ rO) (hn_kn : 1 ≤ kn ∧ kn ≤ 16) (hn_kd : 0 ≤ kd ∧ kd ≤ 1) (hn_ka : 0 ≤ ka ∧ ka ≤ 60) (ht : Tw (DG Γ cI cJ cZ cT s kn kd ka kf kt kw kc) hp)  (hm9 : gn = rn) : Mt (gG D cI cJ cZ cT lo b L xs) mX1_drawMelted d 0 0 [.ref s, .ref ga, .ref ra] hp n (q_X1_drawMelted Γ cI cJ cZ cT s n kn kd ka kf kt kw kc ga gF gT gW gC gTl gHd gBy gOu gIn gJo gn gm gq gdr ra rN rO rn rz) := by
  refine Mt.of rfl (Nat.le_of_ble_eq_true rfl) ?_
  refine Rn.pick (lv' := [(0, .ref s), (1, .ref ga), (2, .ref ra)]) [0, 1, 2] rfl ?_
  obtain ⟨hg_O, hg_from, hg_to, hg_weight, hg_cost, hg_tail, hg_head, hg_by, hg_out, hg_in, hg_joined, hg_b⟩ := id hg
  obtain ⟨hr_O, hr_number, hr_nodesOf, hr_b⟩ := id hr
  refine r_aload_n (pc := 0) dX1_drawMelted_0 (i := 0) rfl rfl ?_
  refine r_aload_n (pc := 1) dX1_drawMelted_1 (i := 2) rfl rfl ?_
  refine t_getE (pc := 2) (.int (iv (rz : Int))) ht (rd_DG (by omega) hr_O) fX1_134 dX1_drawMelted_2 rfl ?_
  refine r_aload_n (pc := 5) dX1_drawMelted_5 (i := 1) rfl rfl ?_
  refine t_getE (pc := 6) (.int (iv gdr)) ht (rd_DG (by omega) hg_O) fX1_61 dX1_drawMelted_6 rfl ?_
  obtain ⟨fs5, hfs5⟩ := t_obj ht (rd_of DG_0)
  refine r_callV (pc := 9) (as := [.int (iv (rz : Int)), .int (iv gdr)]) (st := []) kX1_62 rfl dX1_drawMelted_9 hfs5 (s_X1_restart (d := d - 1) (x1 := (rz : Int)) (x2 := gdr) (by omega)  ht (by omega) (by omega)) rfl (by omega) (Nat.le_of_ble_eq_true rfl) (Nat.zero_le _) (Nat.zero_le _) rfl (fun r2 hp1 n3 hq4 => ?_)
  obtain ⟨hnn3, ht6, hrr2⟩ := hq4
  subst n3 r2
  change Rn _ _ _ 12 _ [] _ _ _ _ _
  have ha0 : arP kf kt kw kc 0 (rz : Int) := ar_0 _ _ _ _ _
  refine r_iconst (pc := 12) (v := iv 0) dX1_drawMelted_12 (by decide) ?_
  refine r_istore_n (pc := 13) (lv' := [(3, .int (iv 0)), (0, .ref s), (1, .ref ga), (2, .ref ra)]) dX1_drawMelted_13 (i := 3) rfl (by decide) rfl ?_
  have B14 : ∀ k : Nat, ∀ ka14 : Int, ∀ kf14 : Nat → Int, ∀ kt14 : Nat → Int, ∀ kw14 : Nat → Int, ∀ kc14 : Nat → Int, ∀ hp14 : MH, Tw (DG Γ cI cJ cZ cT s (rz : Int) gdr ka14 kf14 kt14 kw14 kc14) hp14 → ∀  (v14_3 : Int), 0 ≤ v14_3 ∧ v14_3 ≤ 60 ∧ 0 ≤ ka14 ∧ ka14 ≤ 60 ∧ arP kf14 kt14 kw14 kc14 ka14 (rz : Int) → 60 - v14_3 ≤ (k : Int) → Rn (gG D cI cJ cZ cT lo b L xs) mX1_drawMelted d 14 [(0, .ref s), (1, .ref ga), (2, .ref ra), (3, .int (iv v14_3))] [] hp14 n 0 0 (q_X1_drawMelted Γ cI cJ cZ cT s n kn kd ka kf kt kw kc ga gF gT gW gC gTl gHd gBy gOu gIn gJo gn gm gq gdr ra rN rO rn rz) := by
    refine lpS _ ?_
    intro k14 ih14 ka14 kf14 kt14 kw14 kc14 hp14 ht14 v14_3 hf14 hm14
    obtain ⟨hf14_0, hf14_1, hf14_2, hf14_3, ha14_4⟩ := hf14
    refine r_iload_n (pc := 14) dX1_drawMelted_14 (i := 3) rfl rfl ?_
    refine r_aload_n (pc := 15) dX1_drawMelted_15 (i := 1) rfl rfl ?_
    refine t_getE (pc := 16) (.int (iv (gm : Int))) ht14 (rd_DG (by omega) hg_O) fX1_44 dX1_drawMelted_16 rfl ?_
    refine t_icmp_ge (pc := 19) (tgt := 82) dX1_drawMelted_19 (by decide) (by omega) (by omega) (fun c19 => ?_) (fun c19 => ?_)
    · exact r_vret (pc := 82) dX1_drawMelted_82 rfl ⟨rfl, (rz : Int), gdr, ka14, kf14, kt14, kw14, kc14, ht14, rfl, (by omega), (by omega), (by omega), (by (first | assumption | exact ar_0 _ _ _ _ _))⟩
    · refine r_aload_n (pc := 22) dX1_drawMelted_22 (i := 2) rfl rfl ?_
      refine t_getE (pc := 23) (.ref rN) ht14 (rd_DG (by omega) hr_O) fX1_139 dX1_drawMelted_23 rfl ?_
      refine r_aload_n (pc := 26) dX1_drawMelted_26 (i := 1) rfl rfl ?_
      refine t_getE (pc := 27) (.ref gF) ht14 (rd_DG (by omega) hg_O) fX1_71 dX1_drawMelted_27 rfl ?_
      refine r_iload_n (pc := 30) dX1_drawMelted_30 (i := 3) rfl rfl ?_
      refine t_ialdR (pc := 31) (t0 := 0) ht14 (rd_DG (by omega) hg_from) dX1_drawMelted_31 rfl (by omega) (by omega) (fun y7 by7 => ?_)
      refine t_ialdR (pc := 32) (t0 := 0) ht14 (rd_DG (by omega) hr_number) dX1_drawMelted_32 rfl (by omega) (by omega) (fun y8 by8 => ?_)
      refine r_istore (pc := 33) (lv' := [(4, .int (iv y8)), (0, .ref s), (1, .ref ga), (2, .ref ra), (3, .int (iv v14_3))]) dX1_drawMelted_33 (by decide) rfl ?_
      refine r_aload_n (pc := 35) dX1_drawMelted_35 (i := 2) rfl rfl ?_
      refine t_getE (pc := 36) (.ref rN) ht14 (rd_DG (by omega) hr_O) fX1_139 dX1_drawMelted_36 rfl ?_
      refine r_aload_n (pc := 39) dX1_drawMelted_39 (i := 1) rfl rfl ?_
      refine t_getE (pc := 40) (.ref gT) ht14 (rd_DG (by omega) hg_O) fX1_70 dX1_drawMelted_40 rfl ?_
      refine r_iload_n (pc := 43) dX1_drawMelted_43 (i := 3) rfl rfl ?_
      refine t_ialdR (pc := 44) (t0 := 0) ht14 (rd_DG (by omega) hg_to) dX1_drawMelted_44 rfl (by omega) (by omega) (fun y9 by9 => ?_)
      refine t_ialdR (pc := 45) (t0 := 0) ht14 (rd_DG (by omega) hr_number) dX1_drawMelted_45 rfl (by omega) (by omega) (fun y10 by10 => ?_)
      refine r_istore (pc := 46) (lv' := [(5, .int (iv y10)), (4, .int (iv y8)), (0, .ref s), (1, .ref ga), (2, .ref ra), (3, .int (iv v14_3))]) dX1_drawMelted_46 (by decide) rfl ?_
      refine r_iload (pc := 48) dX1_drawMelted_48 rfl ?_
      refine r_iload (pc := 50) dX1_drawMelted_50 rfl ?_
      have B76 : ∀ ka76 : Int, ∀ kf76 : Nat → Int, ∀ kt76 : Nat → Int, ∀ kw76 : Nat → Int, ∀ kc76 : Nat → Int, ∀ hp76 : MH, Tw (DG Γ cI cJ cZ cT s (rz : Int) gdr ka76 kf76 kt76 kw76 kc76) hp76 → 0 ≤ ka76 ∧ ka76 ≤ 60 ∧ arP kf76 kt76 kw76 kc76 ka76 (rz : Int) → Rn (gG D cI cJ cZ cT lo b L xs) mX1_drawMelted d 76 [(0, .ref s), (1, .ref ga), (2, .ref ra), (3, .int (iv v14_3))] [] hp76 n 0 0 (q_X1_drawMelted Γ cI cJ cZ cT s n kn kd ka kf kt kw kc ga gF gT gW gC gTl gHd gBy gOu gIn gJo gn gm gq gdr ra rN rO rn rz) := by
        intro ka76 kf76 kt76 kw76 kc76 hp76 ht76 hf76
        obtain ⟨hf76_0, hf76_1, ha76_2⟩ := hf76
        refine r_iinc (pc := 76) (v := iv (v14_3 + 1)) (lv' := [(3, .int (iv (v14_3 + 1))), (0, .ref s), (1, .ref ga), (2, .ref ra)]) dX1_drawMelted_76 rfl (iv_add _ _) (by decide) rfl ?_
        refine r_goto (pc := 79) (tgt := 14) dX1_drawMelted_79 (by decide) ?_
        refine Rn.pick (lv' := [(0, .ref s), (1, .ref ga), (2, .ref ra), (3, .int (iv (v14_3 + 1)))]) [1, 2, 3, 0] rfl ?_
        exact ih14 (Int.toNat (60 - (v14_3 + 1))) (by omega) ka76 kf76 kt76 kw76 kc76 _ ht76 (v14_3 + 1) ⟨by omega, by omega, by omega, by omega, by assumption⟩ (by omega)
      refine t_icmp_eq (pc := 52) (tgt := 76) dX1_drawMelted_52 (by decide) (by omega) (by omega) (fun c52 => ?_) (fun c52 => ?_)
      · refine Rn.pick (lv' := [(0, .ref s), (1, .ref ga), (2, .ref ra), (3, .int (iv v14_3))]) [2, 3, 4, 5] rfl ?_
        exact B76 ka14 kf14 kt14 kw14 kc14 _ ht14 ⟨by omega, by omega, by assumption⟩
      · refine r_aload_n (pc := 55) dX1_drawMelted_55 (i := 0) rfl rfl ?_
        refine r_iload (pc := 56) dX1_drawMelted_56 rfl ?_
        refine r_iload (pc := 58) dX1_drawMelted_58 rfl ?_
        refine r_aload_n (pc := 60) dX1_drawMelted_60 (i := 1) rfl rfl ?_
        refine t_getE (pc := 61) (.ref gW) ht14 (rd_DG (by omega) hg_O) fX1_72 dX1_drawMelted_61 rfl ?_
        refine r_iload_n (pc := 64) dX1_drawMelted_64 (i := 3) rfl rfl ?_
        refine t_ialdR (pc := 65) (t0 := 0) ht14 (rd_DG (by omega) hg_weight) dX1_drawMelted_65 rfl (by omega) (by omega) (fun y11 by11 => ?_)
        refine r_aload_n (pc := 66) dX1_drawMelted_66 (i := 1) rfl rfl ?_
        refine t_getE (pc := 67) (.ref gC) ht14 (rd_DG (by omega) hg_O) fX1_73 dX1_drawMelted_67 rfl ?_
        refine r_iload_n (pc := 70) dX1_drawMelted_70 (i := 3) rfl rfl ?_
        refine t_ialdR (pc := 71) (t0 := 0) ht14 (rd_DG (by omega) hg_cost) dX1_drawMelted_71 rfl (by omega) (by omega) (fun y12 by12 => ?_)
        obtain ⟨fs17, hfs17⟩ := t_obj ht14 (rd_of DG_0)
        refine r_callV (pc := 72) (as := [.int (iv y8), .int (iv y10), .int (iv y11), .int (iv y12)]) (st := []) kX1_74 rfl dX1_drawMelted_72 hfs17 (s_X1_add (d := d - 1) (x1 := y8) (x2 := y10) (x3 := y11) (x4 := y12) (by omega)  (by omega) ht14 (by omega) (by omega) (by omega) (by omega)) rfl (by omega) (Nat.le_of_ble_eq_true rfl) (Nat.zero_le _) (Nat.zero_le _) rfl (fun r14 hp13 n15 hq16 => ?_)
        obtain ⟨hnn15, bb_19, k1_20, f1_21, t1_22, w1_23, c1_24, ht18, hrr14, hhq160, hhq161, hhq162, hhq163⟩ := hq16
        subst n15 r14
        have hhq160 : (bb_19 = 1 ∧ ka14 < 60 ∧ k1_20 = ka14 + 1) ∨ (bb_19 = 0 ∧ 60 ≤ ka14 ∧ k1_20 = ka14) := hhq160
        have hhq161 : ka14 < 60 → f1_21 = fup kf14 (Int.toNat ka14) y8 ∧ t1_22 = fup kt14 (Int.toNat ka14) y10 ∧ w1_23 = fup kw14 (Int.toNat ka14) y11 ∧ c1_24 = fup kc14 (Int.toNat ka14) y12 := hhq161
        have hhq162 : 60 ≤ ka14 → f1_21 = kf14 ∧ t1_22 = kt14 ∧ w1_23 = kw14 ∧ c1_24 = kc14 := hhq162
        have hhq163 : 0 ≤ k1_20 ∧ k1_20 ≤ 60 := hhq163
        change Rn _ _ _ 75 _ [.int (iv bb_19)] _ _ _ _ _
        have hapq25 : arP f1_21 t1_22 w1_23 c1_24 k1_20 (rz : Int) := ar_add (by assumption) (by omega) (by omega) (by omega) (by omega) (by omega) hhq160 hhq161 hhq162
        refine r_pop (pc := 75) dX1_drawMelted_75 rfl ?_
        refine Rn.pick (lv' := [(0, .ref s), (1, .ref ga), (2, .ref ra), (3, .int (iv v14_3))]) [2, 3, 4, 5] rfl ?_
        exact B76 k1_20 f1_21 t1_22 w1_23 c1_24 _ ht18 ⟨by omega, by omega, by assumption⟩
  refine Rn.pick (lv' := [(0, .ref s), (1, .ref ga), (2, .ref ra), (3, .int (iv 0))]) [1, 2, 3, 0] rfl ?_
  exact B14 (Int.toNat (60 - 0)) 0 kf kt kw kc _ ht6 0 ⟨by omega, by omega, by omega, by omega, by assumption⟩ (by omega)
def q_X1_draw (Γ : TG) (cI cJ cZ cT : ClassId) (s : Nat) (n : Nat) (kn : Int) (kd : Int) (ka : Int) (kf : Nat → Int) (kt : Nat → Int) (kw : Nat → Int) (kc : Nat → Int) (ga : Nat) (gF : Nat) (gT : Nat) (gW : Nat) (gC : Nat) (gTl : Nat) (gHd : Nat) (gBy : Nat) (gOu : Nat) (gIn : Nat) (gJo : Nat) (gn : Nat) (gm : Nat) (gq : Nat) (gdr : Int) (x2 x3 : Int) : Option Value → MH → Nat → Prop := fun r hp1 n1 => n1 = n ∧ ∃ (n1 : Int) (d1 : Int) (k1 : Int) (f1 : Nat → Int) (t1 : Nat → Int) (w1 : Nat → Int) (c1 : Nat → Int) (bb : Int), Tw (DG Γ cI cJ cZ cT s n1 d1 k1 f1 t1 w1 c1) hp1 ∧ r = some (.int (iv bb)) ∧ (1 ≤ n1 ∧ n1 ≤ 16) ∧ (0 ≤ d1 ∧ d1 ≤ 1) ∧ (0 ≤ k1 ∧ k1 ≤ 60) ∧ (arP f1 t1 w1 c1 k1 n1) ∧ (bb = 0 ∨ bb = 1)
set_option maxHeartbeats 4000000 in
set_option maxRecDepth 100000 in
theorem s_X1_draw {D : va_G} {cI cJ cZ cT : ClassId} {lo b L : Nat} {xs : Nat → Int32} {hp : MH} {n d : Nat} {Γ : TG} {s : Nat} {kn : Int} {kd : Int} {ka : Int} {kf : Nat → Int} {kt : Nat → Int} {kw : Nat → Int} {kc : Nat → Int} {ga : Nat} {gF : Nat} {gT : Nat} {gW : Nat} {gC : Nat} {gTl : Nat} {gHd : Nat} {gBy : Nat} {gOu : Nat} {gIn : Nat} {gJo : Nat} {gn : Nat} {gm : Nat} {gq : Nat} {gdr : Int} {x2 x3 : Int} (hd0 : 4 ≤ d) (hg : TyG Γ cI cJ cZ ga gF gT gW gC gTl gHd gBy gOu gIn gJo gn gm gq gdr) (hltg : s + 6 ≤ ga ∧ s + 6 ≤ gF ∧ s + 6 ≤ gT ∧ s + 6 ≤ gW ∧ s + 6 ≤ gC ∧ s + 6 ≤ gTl ∧ s + 6 ≤ gHd ∧ s + 6 ≤ gBy ∧ s + 6 ≤ gOu ∧ s + 6 ≤ gIn ∧ s + 6 ≤ gJo) (hn_kn : 1 ≤ kn ∧ kn ≤ 16) (hn_kd : 0 ≤ kd ∧ kd ≤ 1) (hn_ka : 0 ≤ ka ∧ ka ≤ 60) (ht : Tw (DG Γ cI cJ cZ cT s kn kd ka kf kt kw kc) hp) (hx2 : 0 ≤ x2 ∧ x2 ≤ 7) (hx3 : (-2147483648) ≤ x3 ∧ x3 ≤ 2147483647) (hm9 : (x2 = 4 → 1 ≤ x3 ∧ x3 ≤ 65535) ∧ (x2 = 7 → 1 ≤ (gm : Int) ∧ (gm : Int) ≤ 16)) : Mt (gG D cI cJ cZ cT lo b L xs) mX1_draw d 0 0 [.ref s, .ref ga, .int (iv x2), .int (iv x3)] hp n (q_X1_draw Γ cI cJ cZ cT s n kn kd ka kf kt kw kc ga gF gT gW gC gTl gHd gBy gOu gIn gJo gn gm gq gdr x2 x3) := by
  refine Mt.of rfl (Nat.le_of_ble_eq_true rfl) ?_
  refine Rn.pick (lv' := [(0, .ref s), (1, .ref ga), (2, .int (iv x2)), (3, .int (iv x3))]) [0, 1, 2, 3] rfl ?_
  obtain ⟨hg_O, hg_from, hg_to, hg_weight, hg_cost, hg_tail, hg_head, hg_by, hg_out, hg_in, hg_joined, hg_b⟩ := id hg
  refine r_iload_n (pc := 0) dX1_draw_0 (i := 2) rfl rfl ?_
  by_cases c1 : x2 = 4
  · refine r_tableIn (pc := 1) (off := 31) (tgt := 32) dX1_draw_1 (by rw [iv_toInt (by omega) (by omega)]; omega) (by rw [iv_toInt (by omega) (by omega)]; omega) (by rw [iv_toInt (by omega) (by omega), c1]; decide) (by decide) ?_
    refine r_aload_n (pc := 32) dX1_draw_32 (i := 0) rfl rfl ?_
    refine r_aload_n (pc := 33) dX1_draw_33 (i := 1) rfl rfl ?_
    refine r_iload_n (pc := 34) dX1_draw_34 (i := 3) rfl rfl ?_
    obtain ⟨fs6, hfs6⟩ := t_obj ht (rd_of DG_0)
    refine r_callV (pc := 35) (as := [.ref ga, .int (iv x3)]) (st := []) kX1_45 rfl dX1_draw_35 hfs6 (s_X1_drawPart (d := d - 1) (x2 := x3) (by omega) hg hltg (by omega) (by omega) (by omega) ht (by omega)) rfl (by omega) (Nat.le_of_ble_eq_true rfl) (Nat.zero_le _) (Nat.zero_le _) rfl (fun r3 hp2 n4 hq5 => ?_)
    obtain ⟨hnn4, n1_8, d1_9, k1_10, f1_11, t1_12, w1_13, c1_14, bb_15, ht7, hrr3, hhq50, hhq51, hhq52, hhq53, hhq54⟩ := hq5
    subst n4 r3
    have hhq50 : 1 ≤ n1_8 ∧ n1_8 ≤ 16 := hhq50
    have hhq51 : 0 ≤ d1_9 ∧ d1_9 ≤ 1 := hhq51
    have hhq52 : 0 ≤ k1_10 ∧ k1_10 ≤ 60 := hhq52
    have hhq53 : arP f1_11 t1_12 w1_13 c1_14 k1_10 n1_8 := hhq53
    have hhq54 : bb_15 = 0 ∨ bb_15 = 1 := hhq54
    change Rn _ _ _ 38 _ [.int (iv bb_15)] _ _ _ _ _
    exact r_zret (pc := 38) dX1_draw_38 rfl (iv_nar (by omega)) ⟨rfl, n1_8, d1_9, k1_10, f1_11, t1_12, w1_13, c1_14, bb_15, ht7, rfl, (by omega), (by omega), (by omega), (by (first | assumption | exact ar_0 _ _ _ _ _)), (by omega)⟩
  by_cases c16 : x2 = 5
  · refine r_tableIn (pc := 1) (off := 50) (tgt := 51) dX1_draw_1 (by rw [iv_toInt (by omega) (by omega)]; omega) (by rw [iv_toInt (by omega) (by omega)]; omega) (by rw [iv_toInt (by omega) (by omega), c16]; decide) (by decide) ?_
    refine r_aload_n (pc := 51) dX1_draw_51 (i := 0) rfl rfl ?_
    refine r_aload_n (pc := 52) dX1_draw_52 (i := 1) rfl rfl ?_
    refine r_iload_n (pc := 53) dX1_draw_53 (i := 2) rfl rfl ?_
    refine r_iload_n (pc := 54) dX1_draw_54 (i := 3) rfl rfl ?_
    obtain ⟨fs21, hfs21⟩ := t_obj ht (rd_of DG_0)
    refine r_callV (pc := 55) (as := [.ref ga, .int (iv x2), .int (iv x3)]) (st := []) kX1_56 rfl dX1_draw_55 hfs21 (s_X1_drawKept (d := d - 1) (x2 := x2) (x3 := x3) (by omega) hg hltg (by omega) (by omega) (by omega) ht (by omega) (by omega)) rfl (by omega) (Nat.le_of_ble_eq_true rfl) (Nat.zero_le _) (Nat.zero_le _) rfl (fun r18 hp17 n19 hq20 => ?_)
    obtain ⟨hnn19, n1_23, d1_24, k1_25, f1_26, t1_27, w1_28, c1_29, bb_30, ht22, hrr18, hhq200, hhq201, hhq202, hhq203, hhq204⟩ := hq20
    subst n19 r18
    have hhq200 : 1 ≤ n1_23 ∧ n1_23 ≤ 16 := hhq200
    have hhq201 : 0 ≤ d1_24 ∧ d1_24 ≤ 1 := hhq201
    have hhq202 : 0 ≤ k1_25 ∧ k1_25 ≤ 60 := hhq202
    have hhq203 : arP f1_26 t1_27 w1_28 c1_29 k1_25 n1_23 := hhq203
    have hhq204 : bb_30 = 0 ∨ bb_30 = 1 := hhq204
    change Rn _ _ _ 58 _ [.int (iv bb_30)] _ _ _ _ _
    exact r_zret (pc := 58) dX1_draw_58 rfl (iv_nar (by omega)) ⟨rfl, n1_23, d1_24, k1_25, f1_26, t1_27, w1_28, c1_29, bb_30, ht22, rfl, (by omega), (by omega), (by omega), (by (first | assumption | exact ar_0 _ _ _ _ _)), (by omega)⟩
  by_cases c31 : x2 = 6
  · refine r_tableIn (pc := 1) (off := 38) (tgt := 39) dX1_draw_1 (by rw [iv_toInt (by omega) (by omega)]; omega) (by rw [iv_toInt (by omega) (by omega)]; omega) (by rw [iv_toInt (by omega) (by omega), c31]; decide) (by decide) ?_
    refine r_aload_n (pc := 39) dX1_draw_39 (i := 0) rfl rfl ?_
    refine r_aload_n (pc := 40) dX1_draw_40 (i := 1) rfl rfl ?_
    obtain ⟨fs36, hfs36⟩ := t_obj ht (rd_of DG_0)
    refine r_callV (pc := 41) (as := [.ref ga]) (st := []) kX1_49 rfl dX1_draw_41 hfs36 (s_X1_drawSquared (d := d - 1)  (by omega) hg hltg (by omega) (by omega) (by omega) ht ) rfl (by omega) (Nat.le_of_ble_eq_true rfl) (Nat.zero_le _) (Nat.zero_le _) rfl (fun r33 hp32 n34 hq35 => ?_)
    obtain ⟨hnn34, n1_38, d1_39, k1_40, f1_41, t1_42, w1_43, c1_44, bb_45, ht37, hrr33, hhq350, hhq351, hhq352, hhq353, hhq354⟩ := hq35
    subst n34 r33
    have hhq350 : 1 ≤ n1_38 ∧ n1_38 ≤ 16 := hhq350
    have hhq351 : 0 ≤ d1_39 ∧ d1_39 ≤ 1 := hhq351
    have hhq352 : 0 ≤ k1_40 ∧ k1_40 ≤ 60 := hhq352
    have hhq353 : arP f1_41 t1_42 w1_43 c1_44 k1_40 n1_38 := hhq353
    have hhq354 : bb_45 = 0 ∨ bb_45 = 1 := hhq354
    change Rn _ _ _ 44 _ [.int (iv bb_45)] _ _ _ _ _
    exact r_zret (pc := 44) dX1_draw_44 rfl (iv_nar (by omega)) ⟨rfl, n1_38, d1_39, k1_40, f1_41, t1_42, w1_43, c1_44, bb_45, ht37, rfl, (by omega), (by omega), (by omega), (by (first | assumption | exact ar_0 _ _ _ _ _)), (by omega)⟩
  by_cases c46 : x2 = 7
  · refine r_tableIn (pc := 1) (off := 44) (tgt := 45) dX1_draw_1 (by rw [iv_toInt (by omega) (by omega)]; omega) (by rw [iv_toInt (by omega) (by omega)]; omega) (by rw [iv_toInt (by omega) (by omega), c46]; decide) (by decide) ?_
    refine r_aload_n (pc := 45) dX1_draw_45 (i := 0) rfl rfl ?_
    refine r_aload_n (pc := 46) dX1_draw_46 (i := 1) rfl rfl ?_
    obtain ⟨fs51, hfs51⟩ := t_obj ht (rd_of DG_0)
    refine r_callV (pc := 47) (as := [.ref ga]) (st := []) kX1_53 rfl dX1_draw_47 hfs51 (s_X1_drawLines (d := d - 1)  (by omega) hg hltg (by omega) (by omega) (by omega) ht  (by omega)) rfl (by omega) (Nat.le_of_ble_eq_true rfl) (Nat.zero_le _) (Nat.zero_le _) rfl (fun r48 hp47 n49 hq50 => ?_)
    obtain ⟨hnn49, n1_53, d1_54, k1_55, f1_56, t1_57, w1_58, c1_59, bb_60, ht52, hrr48, hhq500, hhq501, hhq502, hhq503, hhq504⟩ := hq50
    subst n49 r48
    have hhq500 : 1 ≤ n1_53 ∧ n1_53 ≤ 16 := hhq500
    have hhq501 : 0 ≤ d1_54 ∧ d1_54 ≤ 1 := hhq501
    have hhq502 : 0 ≤ k1_55 ∧ k1_55 ≤ 60 := hhq502
    have hhq503 : arP f1_56 t1_57 w1_58 c1_59 k1_55 n1_53 := hhq503
    have hhq504 : bb_60 = 0 ∨ bb_60 = 1 := hhq504
    change Rn _ _ _ 50 _ [.int (iv bb_60)] _ _ _ _ _
    exact r_zret (pc := 50) dX1_draw_50 rfl (iv_nar (by omega)) ⟨rfl, n1_53, d1_54, k1_55, f1_56, t1_57, w1_58, c1_59, bb_60, ht52, rfl, (by omega), (by omega), (by omega), (by (first | assumption | exact ar_0 _ _ _ _ _)), (by omega)⟩
  refine r_tableOut (pc := 1) (tgt := 51) dX1_draw_1 (by rw [iv_toInt (by omega) (by omega)]; omega) (by decide) ?_
  refine r_aload_n (pc := 51) dX1_draw_51 (i := 0) rfl rfl ?_
  refine r_aload_n (pc := 52) dX1_draw_52 (i := 1) rfl rfl ?_
  refine r_iload_n (pc := 53) dX1_draw_53 (i := 2) rfl rfl ?_
  refine r_iload_n (pc := 54) dX1_draw_54 (i := 3) rfl rfl ?_
  obtain ⟨fs65, hfs65⟩ := t_obj ht (rd_of DG_0)
  refine r_callV (pc := 55) (as := [.ref ga, .int (iv x2), .int (iv x3)]) (st := []) kX1_56 rfl dX1_draw_55 hfs65 (s_X1_drawKept (d := d - 1) (x2 := x2) (x3 := x3) (by omega) hg hltg (by omega) (by omega) (by omega) ht (by omega) (by omega)) rfl (by omega) (Nat.le_of_ble_eq_true rfl) (Nat.zero_le _) (Nat.zero_le _) rfl (fun r62 hp61 n63 hq64 => ?_)
  obtain ⟨hnn63, n1_67, d1_68, k1_69, f1_70, t1_71, w1_72, c1_73, bb_74, ht66, hrr62, hhq640, hhq641, hhq642, hhq643, hhq644⟩ := hq64
  subst n63 r62
  have hhq640 : 1 ≤ n1_67 ∧ n1_67 ≤ 16 := hhq640
  have hhq641 : 0 ≤ d1_68 ∧ d1_68 ≤ 1 := hhq641
  have hhq642 : 0 ≤ k1_69 ∧ k1_69 ≤ 60 := hhq642
  have hhq643 : arP f1_70 t1_71 w1_72 c1_73 k1_69 n1_67 := hhq643
  have hhq644 : bb_74 = 0 ∨ bb_74 = 1 := hhq644
  change Rn _ _ _ 58 _ [.int (iv bb_74)] _ _ _ _ _
  exact r_zret (pc := 58) dX1_draw_58 rfl (iv_nar (by omega)) ⟨rfl, n1_67, d1_68, k1_69, f1_70, t1_71, w1_72, c1_73, bb_74, ht66, rfl, (by omega), (by omega), (by omega), (by (first | assumption | exact ar_0 _ _ _ _ _)), (by omega)⟩
