section PC
variable {lt lh lr lc F T W C h p : Nat → Int} {m n x : Nat}
theorem fc_key {De : Nat → Int64} {w : Int64} {k : Nat} (hl : lkR lt lh lr lc m F T W C h) (hf : fiR W 1 m h) (hk : k < 2 * m) (hn : n ≤ 16) (hT : ∀ j, j < 2 * m → (0 ≤ tlR F T j ∧ tlR F T j < (n : Int)) ∧ 0 ≤ hdR F T j ∧ hdR F T j < (n : Int)) (hfa : farP De) (hw : w.toInt = (De (lt k).toNat).toInt + lc k) (hb : (De (lt k).toNat).toInt < 1000000000000 → (De (lt k).toNat).toInt ≤ 5000000) (hc : lr k ≤ 0 ∨ 1099511627776 ≤ (De (lt k).toNat).toInt ∨ (De (lh k).toNat).toInt ≤ w.toInt) : tlR F T k ≠ hdR F T k → 0 < rmR W 1 h k → dtC De (tlR F T k).toNat < 1000000000000 → dtC De (hdR F T k).toNat ≤ dtC De (tlR F T k).toNat + csR C h k := by
  intro _ h2 h3
  obtain ⟨g1, g2, g3, g4⟩ := hl.1 k hk
  have e4 := lk_cs hl hf hk h2
  have hcb := lk_cb hl hk
  rw [← g1] at h3 ⊢
  rw [← g2, ← e4]
  have h5 : (De (lt k).toNat).toInt < 1000000000000 := Classical.byContradiction (fun g => by rw [dtc_n g] at h3; omega)
  rw [dtc_y h5]
  have h6 := hb h5
  rcases hc with c | c | c
  · omega
  · omega
  · rw [dtc_y (by omega)]; omega
theorem fc_no {De : Nat → Int64} {B : Nat → Nat} {w : Int64} {K K1 : Int} {r k : Nat} (hb : brD n x (tlR F T) (hdR F T) (rmR W 1 h) (csR C h) (2 * m) p (dtC De) B K r k) (hl : lkR lt lh lr lc m F T W C h) (hf : fiR W 1 m h) (hk : k < 2 * m) (hn : n ≤ 16) (hT : ∀ j, j < 2 * m → (0 ≤ tlR F T j ∧ tlR F T j < (n : Int)) ∧ 0 ≤ hdR F T j ∧ hdR F T j < (n : Int)) (hfa : farP De) (hK : K ≤ 5000 ∧ K ≤ K1) (hw : w.toInt = (De (lt k).toNat).toInt + lc k) (hc : lr k ≤ 0 ∨ 1099511627776 ≤ (De (lt k).toNat).toInt ∨ (De (lh k).toNat).toInt ≤ w.toInt) : brD n x (tlR F T) (hdR F T) (rmR W 1 h) (csR C h) (2 * m) p (dtC De) B K1 r (k + 1) ∧ (chN (tlR F T) (hdR F T) (rmR W 1 h) (csR C h) (dtC De) k → chN (tlR F T) (hdR F T) (rmR W 1 h) (csR C h) (dtC De) (k + 1)) := by
  have hkey := fc_key hl hf hk hn hT hfa hw (fun h5 => by
    have g1 := (hl.1 k hk).1
    have h6 := hT k hk
    have h7 := (hb.1.2.1 (lt k).toNat (by rw [g1]; omega)).2.2
    rw [dtc_y h5] at h7
    have := h7 h5
    omega) hc
  exact ⟨brd_no hb hK.2 hkey, fun hch => chn_st hch hkey⟩
theorem fc_lo {De : Nat → Int64} {B : Nat → Nat} {K : Int} {r k : Nat} (hb : brD n x (tlR F T) (hdR F T) (rmR W 1 h) (csR C h) (2 * m) p (dtC De) B K r k) (hl : lkR lt lh lr lc m F T W C h) (hk : k < 2 * m) (hT : ∀ j, j < 2 * m → (0 ≤ tlR F T j ∧ tlR F T j < (n : Int)) ∧ 0 ≤ hdR F T j ∧ hdR F T j < (n : Int)) (hK : K ≤ 5000) : -5000000 ≤ (De (lt k).toNat).toInt ∧ ((De (lt k).toNat).toInt < 1000000000000 → (De (lt k).toNat).toInt ≤ 5000000) := by
  have g1 := (hl.1 k hk).1
  have h6 := hT k hk
  have h7 := hb.1.2.1 (lt k).toNat (by rw [g1]; omega)
  by_cases h5 : (De (lt k).toNat).toInt < 1000000000000
  · rw [dtc_y h5] at h7
    have h8 := h7.2.2 h5
    omega
  · omega
theorem fch_up {De : Nat → Int64} {Bf : Nat → Int} {w : Int64} {K : Int} {r k : Nat} (hb : brD n x (tlR F T) (hdR F T) (rmR W 1 h) (csR C h) (2 * m) p (dtC De) (bfN Bf) K r k) (hp : ptR (tlR F T) (hdR F T) (rmR W 1 h) (csR C h) (2 * m) p) (hl : lkR lt lh lr lc m F T W C h) (hf : fiR W 1 m h) (hk : k < 2 * m) (hn : n ≤ 16) (hT : ∀ j, j < 2 * m → (0 ≤ tlR F T j ∧ tlR F T j < (n : Int)) ∧ 0 ≤ hdR F T j ∧ hdR F T j < (n : Int)) (hfa : farP De) (hK : K ≤ 5000) (hw : w.toInt = (De (lt k).toNat).toInt + lc k) (h1 : 0 < lr k) (h2 : (De (lt k).toNat).toInt < 1099511627776) (h3 : w.toInt < (De (lh k).toNat).toInt) : brD n x (tlR F T) (hdR F T) (rmR W 1 h) (csR C h) (2 * m) p (dtC (fuj De (lh k).toNat w)) (bfN (fup Bf (lh k).toNat ((k : Nat) : Int))) (K + 1) r (k + 1) ∧ farP (fuj De (lh k).toNat w) := by
  obtain ⟨g1, g2, g3, g4⟩ := hl.1 k hk
  have h6 := hT k hk
  have hlo := fc_lo hb hl hk hT hK
  have h5 : (De (lt k).toNat).toInt < 1000000000000 := by
    rcases hfa (lt k).toNat (by rw [g1]; omega) with g | g
    · exact g
    · omega
  have hcb := lk_cb hl hk
  have hr : 0 < rmR W 1 h k := by rw [← g3]; exact h1
  have e4 := lk_cs hl hf hk hr
  have h8 := hlo.2 h5
  have e5 : w.toInt = dtC De (tlR F T k).toNat + csR C h k := by rw [← e4, ← g1, dtc_y h5]; exact hw
  have h9 : dtC De (tlR F T k).toNat + csR C h k < dtC De (hdR F T k).toNat := by
    rw [← e5, ← g2]
    rcases hfa (lh k).toNat (by rw [g2]; omega) with g | g
    · rw [dtc_y g]; exact h3
    · rw [dtc_n (by omega)]; omega
  refine ⟨?_, farp_up hfa (by omega)⟩
  rw [dtc_up (by omega), bfn_up, e5, g2]
  exact brd_up hb hp hk h6.1 h6.2 (lk_ne hl hk) hr (by rw [← e4]; exact hcb) (by rw [← g1, dtc_y h5]; exact h5) h9
theorem lk_rb {j : Nat} (hl : lkR lt lh lr lc m F T W C h) (hf : fiR W 1 m h) (hj : j < 2 * m) : 0 ≤ lr j ∧ lr j ≤ 1000 := by
  have h1 := (hl.1 j hj).2.2.1
  have hi := (hl.2 (j / 2) (by omega)).1
  have hw : cpR W (j / 2) = W (j / 2) := by unfold cpR; rw [if_pos hi.1]
  have h3 := hf (j / 2) (by omega)
  have h4 := h3.2.2 (by omega)
  rw [h1]
  unfold rmR
  rw [hw] at h3 ⊢
  by_cases e : j % 2 = 0
  · rw [if_pos e, if_neg (by omega)]; omega
  · rw [if_neg e]
    by_cases c : 0 < h (j / 2)
    · rw [if_pos c]; omega
    · rw [if_neg c, if_pos (show (1 : Int) ≠ 0 by decide)]; omega
/-- pushing along the links of a way -/
def plkQ (lt lh lr lc F T W C h p D : Nat → Int) (B : Nat → Nat) (m n x y : Nat) (a : Int) (j v : Nat) : Prop := ∃ h1, lkR lt lh lr lc m F T W C h1 ∧ puR n x F T W C 1 m h D p B a (nfR F T (x : Int) h m) h1 j v ∧ lcS m C h1 = lcS m C h + a * (D y - D v) ∧ pxI m F T h h1 a y v
theorem plq_0 {D : Nat → Int} {B : Nat → Nat} {y : Nat} {a : Int} {j : Nat} (hl : lkR lt lh lr lc m F T W C h) (hpu : puR n x F T W C 1 m h D p B a (nfR F T (x : Int) h m) h j y) : plkQ lt lh lr lc F T W C h p D B m n x y a j y := ⟨h, hl, hpu, by rw [Int.sub_self, Int.mul_zero]; omega, px_0⟩
theorem plq_st {D : Nat → Int} {B : Nat → Nat} {y : Nat} {a : Int} {j v q : Nat} (hw : wyR n x F T W C 1 m h D B) (hp : ∀ u, u < n → D u < 1000000000000 → p u = D u) (ha : 0 < a) (hh : plkQ lt lh lr lc F T W C h p D B m n x y a (j + 1) v) (hq : q = if B v % 2 = 0 then B v + 1 else B v - 1) : plkQ lt lh (fup (fup lr (B v) (lr (B v) - a)) q (fup lr (B v) (lr (B v) - a) q + a)) lc F T W C h p D B m n x y a j (tlR F T (B v)).toNat ∧ a ≤ lr (B v) := by
  obtain ⟨h1, g1, g2, g3, g4⟩ := hh
  obtain ⟨a1, a2, a3, a4, a5, a6, a7, a8⟩ := id g2
  obtain ⟨hvx, -⟩ := a3
  obtain ⟨w1, w2, w3, w4, w5, w6, w7, w8⟩ := hw v a4 hvx a5
  have hr : a ≤ rmR W 1 h1 (B v) := by
    have := a6.1.2.2
    rw [rm_o (g1 := h) this.1]; exact this.2
  have hr2 : a ≤ lr (B v) := by rw [(g1.1 (B v) w1).2.2.1]; exact hr
  refine ⟨⟨psR h1 (B v) a, lk_ps g1 a1 w1 hq ⟨ha, hr2⟩, pu_st hw hp ha g2, ?_, px_st g4 w1 w2 w5⟩, hr2⟩
  rw [lcs_ps w1, g3]
  have e1 : (if B v % 2 = 0 then C (B v / 2) else - C (B v / 2)) = csR C h1 (B v) := by
    rw [← lk_cs g1 a1 w1 (by omega)]; exact ((g1.1 (B v) w1).2.2.2).symm
  have e2 : csR C h1 (B v) = csR C h (B v) := cs_o (a6.1.2.2.1)
  rw [e1, e2]
  have e3 : a * (D y - D (tlR F T (B v)).toNat) = a * (D y - D v) + a * csR C h (B v) := by
    rw [← Int.mul_add]; congr 1; omega
  omega
theorem plq_fi {D : Nat → Int} {B : Nat → Nat} {y : Nat} {a : Int} {j v : Nat} (hh : plkQ lt lh lr lc F T W C h p D B m n x y a j v) (k : Nat) (hk : k < 2 * m) : 0 ≤ lr k ∧ lr k ≤ 1000 := by
  obtain ⟨h1, g1, g2, -, -⟩ := hh
  exact lk_rb g1 g2.1 hk
end PC
