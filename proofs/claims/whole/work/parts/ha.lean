theorem xor1_ex {k : Int} (h : 0 ≤ k ∧ k < 240) : ∃ q : Int, iv k ^^^ iv 1 = iv q ∧ (Int.toNat q = if Int.toNat k % 2 = 0 then Int.toNat k + 1 else Int.toNat k - 1) ∧ 0 ≤ q ∧ q ≤ 240 := by
  have e := xor_one (Int.toNat k) (by omega)
  rw [show ((Int.toNat k : Nat) : Int) = k by omega] at e
  refine ⟨_, e, ?_⟩
  by_cases g : Int.toNat k % 2 = 0
  · rw [if_pos g, if_pos g]; omega
  · rw [if_neg g, if_neg g]; omega
/-- all that the price keeps -/
def pcI (lt lh lr lc F T W C : Nat → Int) (c x y : Nat) (sum rd : Int) : Prop := ∃ (h p : Nat → Int) (v : Int), lkR lt lh lr lc c F T W C h ∧ fiR W 1 c h ∧ ptR (tlR F T) (hdR F T) (rmR W 1 h) (csR C h) (2 * c) p ∧ (rd ≤ v ∧ ∀ φ : Nat → Int, phS c F T h φ = v * (φ y - φ x)) ∧ sum = lcS c C h
theorem pc_0 {lt lh lr lc F T W C : Nat → Int} {c x y : Nat} {s : Int} (hl : lkR lt lh lr lc c F T W C (fun _ => 0)) (hs : s = 0) : pcI lt lh lr lc F T W C c x y s 0 :=
  ⟨fun _ => 0, fun _ => 0, 0, hl, fi_0 (fun _ _ => rfl), pt_0 (fun _ _ => rfl), ⟨Int.le_refl _, fun φ => by
    rw [Int.zero_mul]
    unfold phS
    rw [sgm_cg (g := fun _ => 0) (fun k _ => Int.zero_mul _)]
    exact sgm_0 c⟩, by
    rw [hs]
    unfold lcS
    rw [sgm_cg (g := fun _ => 0) (fun k _ => Int.mul_zero _)]
    exact (sgm_0 c).symm⟩
theorem pc_b {lt lh lr lc F T W C h : Nat → Int} {c : Nat} (hl : lkR lt lh lr lc c F T W C h) (hf : fiR W 1 c h) (hc : c ≤ 120) : 0 ≤ lcS c C h ∧ lcS c C h ≤ 120000000 := by
  have hb : ∀ i, i < c → 0 ≤ C i * h i ∧ C i * h i ≤ 1000000 := fun i hi => by
    have h1 := hl.2 i hi
    have h2 := hf i hi
    have h3 := h2.2.2 (by omega)
    rw [cpr_p h1.1.1] at h2
    have h4 : C i * h i ≤ C i * 1000 := Int.mul_le_mul_of_nonneg_left (by omega) h1.2.1.1
    have h5 : C i * 1000 ≤ 1000 * 1000 := Int.mul_le_mul_of_nonneg_right h1.2.1.2 (by omega)
    exact ⟨Int.mul_nonneg h1.2.1.1 h3, by omega⟩
  have h1 := sgm_nn (f := fun i => C i * h i) (n := c) (fun i hi => (hb i hi).1)
  have h2 := sgm_b (f := fun i => C i * h i) (n := c) (fun i hi => (hb i hi).2)
  have h3 : (c : Int) * 1000000 ≤ 120 * 1000000 := Int.mul_le_mul_of_nonneg_right (by omega) (by omega)
  have h4 : lcS c C h = sgm (fun i => C i * h i) c := rfl
  omega
theorem lk_tl {lt lh lr lc F T W C h : Nat → Int} {c n : Nat} (hF : ∀ i, i < c → (0 ≤ F i ∧ F i < (n : Int)) ∧ 0 ≤ T i ∧ T i < (n : Int)) : ∀ j, j < 2 * c → (0 ≤ tlR F T j ∧ tlR F T j < (n : Int)) ∧ 0 ≤ hdR F T j ∧ hdR F T j < (n : Int) := fun j hj => by
  have h1 := hF (j / 2) (by omega)
  unfold tlR hdR
  by_cases e : j % 2 = 0
  · rw [if_pos e, if_pos e]; exact h1
  · rw [if_neg e, if_neg e]; exact ⟨h1.2, h1.1⟩
theorem pc_end {lt lh lr lc F T W C h p : Nat → Int} {c n x y : Nat} {De : Nat → Int64} {B : Nat → Nat} {v : Int} (hl : lkR lt lh lr lc c F T W C h) (hf : fiR W 1 c h) (hp : ptR (tlR F T) (hdR F T) (rmR W 1 h) (csR C h) (2 * c) p) (hv : ∀ φ : Nat → Int, phS c F T h φ = v * (φ y - φ x)) (hb : bfR n x (tlR F T) (hdR F T) (rmR W 1 h) (csR C h) (2 * c) p (dtC De) B 4000) (hc : cvR (tlR F T) (hdR F T) (rmR W 1 h) (csR C h) (2 * c) (dtC De)) (hT : ∀ j, j < 2 * c → (0 ≤ tlR F T j ∧ tlR F T j < (n : Int)) ∧ 0 ≤ hdR F T j ∧ hdR F T j < (n : Int)) (hy : ¬ (De y).toInt < 1000000000000) : prcA c 1 F T W C x y (lcS c C h) :=
  pr_fin hf ⟨v, hv⟩ (mx_of hb hc (by omega) (fun j hj => (hT j hj).1) (cs_bb (fun i hi => (hl.2 i hi).2.1)) (by rw [dtc_n hy]; omega)) (fun k hk e => absurd e (hl.2 k hk).2.2) hp (lcs_co (fun i hi => (hl.2 i hi).2.1.1) (fun i hi => (hf i hi).2.2 (by omega))).symm
/-- the way back that a search has found -/
theorem pc_way {F T W C h p : Nat → Int} {c n x y : Nat} {D : Nat → Int} {B : Nat → Nat} (hb : bfR n x (tlR F T) (hdR F T) (rmR W 1 h) (csR C h) (2 * c) p D B 4000) (hp : ptR (tlR F T) (hdR F T) (rmR W 1 h) (csR C h) (2 * c) p) (hc : cvR (tlR F T) (hdR F T) (rmR W 1 h) (csR C h) (2 * c) D) (hT : ∀ j, j < 2 * c → (0 ≤ tlR F T j ∧ tlR F T j < (n : Int)) ∧ 0 ≤ hdR F T j ∧ hdR F T j < (n : Int)) (hC : ∀ i, i < c → 0 ≤ C i ∧ C i ≤ 1000) (hy : y < n) (hD : D y < 1000000000000) : ∃ (j0 : Nat) (p1 : Nat → Int), exR (fun u => (tlR F T (B u)).toNat) x j0 y ∧ j0 < n ∧ ptR (tlR F T) (hdR F T) (rmR W 1 h) (csR C h) (2 * c) p1 ∧ (∀ u, u < n → D u < 1000000000000 → p1 u = D u) ∧ wyR n x F T W C 1 c h D B := by
  have hw := wy_of hb hc
  obtain ⟨i, hi⟩ := hb.2.2.2 y hy hD
  obtain ⟨j0, -, hj0⟩ := ex_rc _ _ hi
  obtain ⟨p1, q1, q2⟩ := pt_new2 hb (by omega) hp hc (fun j hj => (hT j hj).1) (fun j hj => (hT j hj).2) (cs_bb hC)
  refine ⟨j0, p1, hj0, ?_, q1, q2, hw⟩
  have hlen : ∀ (j v : Nat), exR (fun u => (tlR F T (B u)).toNat) x j v → v < n → D v < 1000000000000 → j < n := by
    intro j v h1 h2 h3
    refine ex_len (x := x) (P := fun u => if D u < 1000000000000 then (tlR F T (B u)).toNat else 0) j v ?_ h2 (fun u i hu hx => ?_)
    · have hh : ∀ (j v : Nat), v < n → D v < 1000000000000 → exR (fun u => (tlR F T (B u)).toNat) x j v → exR (fun u => if D u < 1000000000000 then (tlR F T (B u)).toNat else 0) x j v := by
        intro j
        induction j with
        | zero => intro v _ _ g; exact g
        | succ j ih =>
          intro v a1 a2 a3
          obtain ⟨w1, w2, w3, w4, w5, w6, w7, w8⟩ := hw v a1 a3.1 a2
          refine ⟨a3.1, ?_⟩
          show exR (fun u => if D u < 1000000000000 then (tlR F T (B u)).toNat else 0) x j (if D v < 1000000000000 then (tlR F T (B v)).toNat else 0)
          rw [if_pos a2]
          exact ih _ (by omega) w7 a3.2
      exact hh j v h2 h3 h1
    · show (if D u < 1000000000000 then (tlR F T (B u)).toNat else 0) < n
      by_cases e : D u < 1000000000000
      · rw [if_pos e]
        obtain ⟨w1, w2, w3, w4, w5, w6, w7, w8⟩ := hw u hu hx.1 e
        omega
      · rw [if_neg e]; omega
  exact hlen j0 y hj0 hy hD
set_option maxHeartbeats 4000000 in
set_option maxRecDepth 100000 in
theorem c_X2_pushLinksx {D : va_G} {cI cJ cZ cT : ClassId} {lo b L : Nat} {xs : Nat → Int32} {hp : MH} {n d : Nat} {Γ : TG} {s : Nat} {Lk : Int} {B lt lh lr lc : Nat → Int} {De : Nat → Int64} {x1 x2 : Int} {nn j0 : Nat} {m : Nat} {F T W C h p : Nat → Int} (hd0 : 0 ≤ d) (hL0 : 0 ≤ Lk ∧ Lk ≤ 240) (hB0 : Rfx 16 0 239 B) (hlt0 : Rfx 240 0 15 lt) (hlh0 : Rfx 240 0 15 lh) (ht : Tw (LSt Γ cI cJ s Lk B lt lh lr lc De) hp) (hL2 : Lk = 2 * (m : Int)) (hlk : lkR lt lh lr lc m F T W C h) (hfi : fiR W 1 m h) (hpt : ptR (tlR F T) (hdR F T) (rmR W 1 h) (csR C h) (2 * m) p) (hTL : ∀ j, j < 2 * m → (0 ≤ tlR F T j ∧ tlR F T j < ((nn : Nat) : Int)) ∧ 0 ≤ hdR F T j ∧ hdR F T j < ((nn : Nat) : Int)) (hx1 : 0 ≤ x1 ∧ x1 ≤ 15) (hx2 : 0 ≤ x2 ∧ x2 ≤ 15) (hnn : nn ≤ 16) (hyn : x2 < (nn : Int)) (hxy : x1 ≠ x2) (hwy : wyR nn (Int.toNat x1) F T W C 1 m h (dtC De) (bfN B)) (hpd : ∀ u, u < nn → (dtC De) u < 1000000000000 → p u = (dtC De) u) (hj0 : exR (fun u => (tlR F T (bfN B u)).toNat) (Int.toNat x1) j0 (Int.toNat x2)) (hj15 : j0 < nn) (hy1 : (dtC De) (Int.toNat x2) < 1000000000000) : Mt (gG D cI cJ cZ cT lo b L xs) mX2_pushLinks d 0 0 [.ref s, .int (iv x1), .int (iv x2)] hp n (fun r9 hp1 n1 => n1 = n ∧ ∃ (lr1 h1 : Nat → Int) (a : Int), Tw (LSt Γ cI cJ s Lk B lt lh lr1 lc De) hp1 ∧ ∃ q : Int64, r9 = some (.long q) ∧ q.toInt = a ∧ (1 ≤ a ∧ a ≤ 1000) ∧ lkR lt lh lr1 lc m F T W C h1 ∧ fiR W 1 m h1 ∧ ptR (tlR F T) (hdR F T) (rmR W 1 h1) (csR C h1) (2 * m) p ∧ lcS m C h1 = lcS m C h + a * ((dtC De) (Int.toNat x2) - (dtC De) (Int.toNat x1)) ∧ pxI m F T h h1 a (Int.toNat x2) (Int.toNat x1)) := by
  refine Mt.of rfl (Nat.le_of_ble_eq_true rfl) ?_
  refine Rn.pick (lv' := [(0, .ref s), (1, .int (iv x1)), (2, .int (iv x2))]) [0, 1, 2] rfl ?_
  have t0 : Tw (ov (ov (ov (ov (ov (ov (ov Γ s (tO 2 (flG s Lk))) (s + 2) (xI cI 16 B)) (s + 4) (xI cI 240 lt)) (s + 5) (xI cI 240 lh)) (s + 6) (xI cI 240 lr)) (s + 7) (xI cI 240 lc)) (s + 8) (xJ cJ 16 De)) hp := ht
  refine r_ldc (pc := 0) (v := iv 1073741824) dX2_pushLinks_0 kX2_85 ?_
  refine r_istore_n (pc := 2) (lv' := [(3, .int (iv 1073741824)), (0, .ref s), (1, .int (iv x1)), (2, .int (iv x2))]) dX2_pushLinks_2 (i := 3) rfl (by decide) rfl ?_
  refine r_iload_n (pc := 3) dX2_pushLinks_3 (i := 2) rfl rfl ?_
  refine r_istore (pc := 4) (lv' := [(4, .int (iv x2)), (3, .int (iv 1073741824)), (0, .ref s), (1, .int (iv x1)), (2, .int (iv x2))]) dX2_pushLinks_4 (by decide) rfl ?_
  refine r_iconst (pc := 6) (v := iv 0) dX2_pushLinks_6 (by decide) ?_
  refine r_istore (pc := 7) (lv' := [(5, .int (iv 0)), (4, .int (iv x2)), (3, .int (iv 1073741824)), (0, .ref s), (1, .int (iv x1)), (2, .int (iv x2))]) dX2_pushLinks_7 (by decide) rfl ?_
  have B9 : ∀ k : Nat, ∀ hp9 : MH, Tw (ov (ov (ov (ov (ov (ov (ov Γ s (tO 2 (flG s Lk))) (s + 2) (xI cI 16 B)) (s + 4) (xI cI 240 lt)) (s + 5) (xI cI 240 lh)) (s + 6) (xI cI 240 lr)) (s + 7) (xI cI 240 lc)) (s + 8) (xJ cJ 16 De)) hp9 → ∀  (v9_3 : Int) (v9_4 : Int) (v9_5 : Int), 1 ≤ v9_3 ∧ v9_3 ≤ 1073741824 ∧ 0 ≤ v9_4 ∧ v9_4 ≤ 15 ∧ 0 ≤ v9_5 ∧ v9_5 ≤ 16 ∧ (v9_5 ≤ (j0 : Int)) ∧ (v9_4 < (nn : Int)) ∧ (exR (fun u => (tlR F T (bfN B u)).toNat) (Int.toNat x1) (j0 - Int.toNat v9_5) (Int.toNat v9_4)) ∧ ((dtC De) (Int.toNat v9_4) < 1000000000000) ∧ (mnP nn F T W 1 h (dtC De) (bfN B) j0 (Int.toNat x2) v9_3 (j0 - Int.toNat v9_5) (Int.toNat v9_4)) → 16 - v9_5 ≤ (k : Int) → Rn (gG D cI cJ cZ cT lo b L xs) mX2_pushLinks d 9 [(0, .ref s), (1, .int (iv x1)), (2, .int (iv x2)), (3, .int (iv v9_3)), (4, .int (iv v9_4)), (5, .int (iv v9_5))] [] hp9 n 0 0 (fun r9 hp1 n1 => n1 = n ∧ ∃ (lr1 h1 : Nat → Int) (a : Int), Tw (LSt Γ cI cJ s Lk B lt lh lr1 lc De) hp1 ∧ ∃ q : Int64, r9 = some (.long q) ∧ q.toInt = a ∧ (1 ≤ a ∧ a ≤ 1000) ∧ lkR lt lh lr1 lc m F T W C h1 ∧ fiR W 1 m h1 ∧ ptR (tlR F T) (hdR F T) (rmR W 1 h1) (csR C h1) (2 * m) p ∧ lcS m C h1 = lcS m C h + a * ((dtC De) (Int.toNat x2) - (dtC De) (Int.toNat x1)) ∧ pxI m F T h h1 a (Int.toNat x2) (Int.toNat x1)) := by
    refine lpS _ ?_
    intro k9 ih9 hp9 ht9 v9_3 v9_4 v9_5 hf9 hm9
    obtain ⟨hf9_0, hf9_1, hf9_2, hf9_3, hf9_4, hf9_5, hf9_6, hf9_7, ha9_8, ha9_9, ha9_10⟩ := hf9
    refine r_iload (pc := 9) dX2_pushLinks_9 rfl ?_
    have hex := (by assumption : exR (fun u => (tlR F T (bfN B u)).toNat) (Int.toNat x1) (j0 - Int.toNat v9_5) (Int.toNat v9_4))
    have hmn := (by assumption : mnP nn F T W 1 h (dtC De) (bfN B) j0 (Int.toNat x2) v9_3 (j0 - Int.toNat v9_5) (Int.toNat v9_4))
    have hDv := (by assumption : (dtC De) (Int.toNat v9_4) < 1000000000000)
    refine r_bipush (pc := 11) (v := iv 16) dX2_pushLinks_11 (by decide) ?_
    refine t_icmp_ge (pc := 13) (tgt := 59) dX2_pushLinks_13 (by decide) (by omega) (by omega) (fun c13 => ?_) (fun c13 => ?_)
    · exfalso
      omega
    · refine r_iload (pc := 16) dX2_pushLinks_16 rfl ?_
      refine r_iload_n (pc := 18) dX2_pushLinks_18 (i := 1) rfl rfl ?_
      refine t_icmp_eq (pc := 19) (tgt := 59) dX2_pushLinks_19 (by decide) (by omega) (by omega) (fun c19 => ?_) (fun c19 => ?_)
      · have ej9 := ex_zero hex (by omega)
        rw [ej9] at hmn
        have hon := mn_fin hmn
        have hpu0 : puR nn (Int.toNat x1) F T W C 1 m h (dtC De) p (bfN B) v9_3 (nfR F T (((Int.toNat x1) : Nat) : Int) h m) h j0 (Int.toNat x2) := ⟨hfi, hpt, hj0, by omega, hy1, hon, fun _ => rfl, fun h9 => by omega⟩
        have hpl0 := plq_0 hlk hpu0
        have ha9 : 1 ≤ v9_3 ∧ v9_3 ≤ 1000 := by
          obtain ⟨j9, e9, -⟩ := ex_pos hj0 (by omega)
          rw [e9] at hon
          obtain ⟨w1, -⟩ := hwy (Int.toNat x2) (by omega) (by omega) hy1
          have h8 := hon.1.2.2.2
          have h7 := lk_rb hlk hfi w1
          rw [(hlk.1 _ w1).2.2.1] at h7
          omega
        refine r_iload_n (pc := 59) dX2_pushLinks_59 (i := 2) rfl rfl ?_
        refine r_istore (pc := 60) (lv' := [(4, .int (iv x2)), (0, .ref s), (1, .int (iv x1)), (2, .int (iv x2)), (3, .int (iv v9_3)), (5, .int (iv v9_5))]) dX2_pushLinks_60 (by decide) rfl ?_
        refine r_iconst (pc := 62) (v := iv 0) dX2_pushLinks_62 (by decide) ?_
        refine r_istore (pc := 63) (lv' := [(5, .int (iv 0)), (4, .int (iv x2)), (0, .ref s), (1, .int (iv x1)), (2, .int (iv x2)), (3, .int (iv v9_3))]) dX2_pushLinks_63 (by decide) rfl ?_
        have B65 : ∀ k : Nat, ∀ lr65 : Nat → Int, ∀ hp65 : MH, Tw (ov (ov (ov (ov (ov (ov (ov Γ s (tO 2 (flG s Lk))) (s + 2) (xI cI 16 B)) (s + 4) (xI cI 240 lt)) (s + 5) (xI cI 240 lh)) (s + 6) (xI cI 240 lr65)) (s + 7) (xI cI 240 lc)) (s + 8) (xJ cJ 16 De)) hp65 → ∀  (v65_4 : Int) (v65_5 : Int), 0 ≤ v65_4 ∧ v65_4 ≤ 15 ∧ 0 ≤ v65_5 ∧ v65_5 ≤ 16 ∧ (v65_5 ≤ (j0 : Int)) ∧ (v65_4 < (nn : Int)) ∧ (plkQ lt lh lr65 lc F T W C h p (dtC De) (bfN B) m nn (Int.toNat x1) (Int.toNat x2) v9_3 (j0 - Int.toNat v65_5) (Int.toNat v65_4)) → 16 - v65_5 ≤ (k : Int) → Rn (gG D cI cJ cZ cT lo b L xs) mX2_pushLinks d 65 [(0, .ref s), (1, .int (iv x1)), (3, .int (iv v9_3)), (4, .int (iv v65_4)), (5, .int (iv v65_5))] [] hp65 n 0 0 (fun r9 hp1 n1 => n1 = n ∧ ∃ (lr1 h1 : Nat → Int) (a : Int), Tw (LSt Γ cI cJ s Lk B lt lh lr1 lc De) hp1 ∧ ∃ q : Int64, r9 = some (.long q) ∧ q.toInt = a ∧ (1 ≤ a ∧ a ≤ 1000) ∧ lkR lt lh lr1 lc m F T W C h1 ∧ fiR W 1 m h1 ∧ ptR (tlR F T) (hdR F T) (rmR W 1 h1) (csR C h1) (2 * m) p ∧ lcS m C h1 = lcS m C h + a * ((dtC De) (Int.toNat x2) - (dtC De) (Int.toNat x1)) ∧ pxI m F T h h1 a (Int.toNat x2) (Int.toNat x1)) := by
          refine lpS _ ?_
          intro k65 ih65 lr65 hp65 ht65 v65_4 v65_5 hf65 hm65
          obtain ⟨hf65_0, hf65_1, hf65_2, hf65_3, hf65_4, hf65_5, ha65_6⟩ := hf65
          refine r_iload (pc := 65) dX2_pushLinks_65 rfl ?_
          have hpl := (by assumption : plkQ lt lh lr65 lc F T W C h p (dtC De) (bfN B) m nn (Int.toNat x1) (Int.toNat x2) v9_3 (j0 - Int.toNat v65_5) (Int.toNat v65_4))
          have hpx := (show ∃ h1, _ from hpl)
          obtain ⟨h1, g1, g2, g3, g4⟩ := hpx
          have hex2 := g2.2.2.1
          have hDv2 := g2.2.2.2.2.1
          refine r_bipush (pc := 67) (v := iv 16) dX2_pushLinks_67 (by decide) ?_
          refine t_icmp_ge (pc := 69) (tgt := 126) dX2_pushLinks_69 (by decide) (by omega) (by omega) (fun c69 => ?_) (fun c69 => ?_)
          · exfalso
            omega
          · refine r_iload (pc := 72) dX2_pushLinks_72 rfl ?_
            refine r_iload_n (pc := 74) dX2_pushLinks_74 (i := 1) rfl rfl ?_
            refine t_icmp_eq (pc := 75) (tgt := 126) dX2_pushLinks_75 (by decide) (by omega) (by omega) (fun c75 => ?_) (fun c75 => ?_)
            · have ej8 := ex_zero hex2 (by omega)
              refine r_iload_n (pc := 126) dX2_pushLinks_126 (i := 3) rfl rfl ?_
              refine r_i2l (pc := 127) (v := (iv v9_3).toInt64) dX2_pushLinks_127 rfl ?_
              exact r_lret (pc := 128) dX2_pushLinks_128 rfl ⟨rfl, lr65, h1, v9_3, ht65, _, rfl, iv_long (by omega), ha9, g1, g2.1, g2.2.1, by rw [g3, show Int.toNat v65_4 = (Int.toNat x1) by omega], by rw [← show Int.toNat v65_4 = (Int.toNat x1) by omega]; exact g4⟩
            · obtain ⟨jn, ejn, hxn⟩ := ex_pos hex2 (by omega)
              obtain ⟨w1, w2, w3, w4, w5, w6, w7, w8⟩ := hwy (Int.toNat v65_4) (by omega) (by omega) hDv2
              have w1b : Int.toNat (B (Int.toNat v65_4)) < 2 * m := w1
              obtain ⟨l1, l2, l3, l4⟩ := hlk.1 (Int.toNat (B (Int.toNat v65_4))) w1b
              have lrb := plq_fi hpl _ w1b
              rw [ejn] at hpl
              refine r_aload_n (pc := 78) dX2_pushLinks_78 (i := 0) rfl rfl ?_
              refine t_getE (pc := 79) (.ref (s + 2)) ht65 (rd_ov (by omega) (rd_ov (by omega) (rd_ov (by omega) (rd_ov (by omega) (rd_ov (by omega) (rd_ov (by omega) (rd_of (ov_s _ _ _)))))))) fX2_15 dX2_pushLinks_79 rfl ?_
              refine r_iload (pc := 82) dX2_pushLinks_82 rfl ?_
              refine t_ialdX (pc := 84) (t0 := 0) ht65 (rd_ov (by omega) (rd_ov (by omega) (rd_ov (by omega) (rd_ov (by omega) (rd_ov (by omega) (rd_of (ov_s _ _ _))))))) dX2_pushLinks_84 rfl (by decide) (by omega) (fun b1 => ?_)
              have rb1 := (show Rfx 16 0 239 B by assumption) (Int.toNat v65_4) (by omega)
              refine r_istore (pc := 85) (lv' := [(6, .int (iv (B (Int.toNat v65_4)))), (0, .ref s), (1, .int (iv x1)), (3, .int (iv v9_3)), (4, .int (iv v65_4)), (5, .int (iv v65_5))]) dX2_pushLinks_85 (by decide) rfl ?_
              refine r_aload_n (pc := 87) dX2_pushLinks_87 (i := 0) rfl rfl ?_
              refine t_getE (pc := 88) (.ref (s + 6)) ht65 (rd_ov (by omega) (rd_ov (by omega) (rd_ov (by omega) (rd_ov (by omega) (rd_ov (by omega) (rd_ov (by omega) (rd_of (ov_s _ _ _)))))))) fX2_27 dX2_pushLinks_88 rfl ?_
              refine r_iload (pc := 91) dX2_pushLinks_91 rfl ?_
              refine r_dup2_11 (pc := 93) dX2_pushLinks_93 rfl rfl ?_
              refine t_ialdX (pc := 94) (t0 := 0) ht65 (rd_ov (by omega) (rd_ov (by omega) (rd_of (ov_s _ _ _)))) dX2_pushLinks_94 rfl (by decide) (by omega) (fun b2 => ?_)
              refine r_iload_n (pc := 95) dX2_pushLinks_95 (i := 3) rfl rfl ?_
              refine r_isub (pc := 96) (v := iv ((lr65 (Int.toNat (B (Int.toNat v65_4)))) - v9_3)) dX2_pushLinks_96 (iv_sub _ _) ?_
              refine t_iastX (pc := 97) (t0 := 0) ht65 (eq_ov (by omega) (eq_ov (by omega) (ov_s _ _ _))) dX2_pushLinks_97 rfl (by decide) (by omega) (by omega) (fun hp3 ht4 => ?_)
              rw [ov_in3 (by omega) (by omega) ] at ht4
              refine r_aload_n (pc := 98) dX2_pushLinks_98 (i := 0) rfl rfl ?_
              refine t_getE (pc := 99) (.ref (s + 6)) ht4 (rd_ov (by omega) (rd_ov (by omega) (rd_ov (by omega) (rd_ov (by omega) (rd_ov (by omega) (rd_ov (by omega) (rd_of (ov_s _ _ _)))))))) fX2_27 dX2_pushLinks_99 rfl ?_
              refine r_iload (pc := 102) dX2_pushLinks_102 rfl ?_
              refine r_iconst (pc := 104) (v := iv 1) dX2_pushLinks_104 (by decide) ?_
              obtain ⟨q9, hq9, hqe, hq0, hq1⟩ := xor1_ex (k := B (Int.toNat v65_4)) (by omega)
              have hq2 : Int.toNat q9 < 2 * m ∧ Int.toNat q9 ≠ Int.toNat (B (Int.toNat v65_4)) := by
                by_cases e9 : Int.toNat (B (Int.toNat v65_4)) % 2 = 0
                · rw [if_pos e9] at hqe; omega
                · rw [if_neg e9] at hqe; omega
              refine r_ixor (pc := 105) (v := iv q9) dX2_pushLinks_105 hq9 ?_
              refine r_dup2_11 (pc := 106) dX2_pushLinks_106 rfl rfl ?_
              refine t_ialdX (pc := 107) (t0 := 0) ht4 (rd_ov (by omega) (rd_ov (by omega) (rd_of (ov_s _ _ _)))) dX2_pushLinks_107 rfl (by decide) (by omega) (fun b5 => ?_)
              have eb107 : (fup lr65 (Int.toNat (B (Int.toNat v65_4))) ((lr65 (Int.toNat (B (Int.toNat v65_4)))) - v9_3)) (Int.toNat q9) = lr65 (Int.toNat q9) := if_neg hq2.2
              have lrq := plq_fi hpl _ hq2.1
              refine r_iload_n (pc := 108) dX2_pushLinks_108 (i := 3) rfl rfl ?_
              refine r_iadd (pc := 109) (v := iv (((fup lr65 (Int.toNat (B (Int.toNat v65_4))) ((lr65 (Int.toNat (B (Int.toNat v65_4)))) - v9_3)) (Int.toNat q9)) + v9_3)) dX2_pushLinks_109 (iv_add _ _) ?_
              refine t_iastX (pc := 110) (t0 := 0) ht4 (eq_ov (by omega) (eq_ov (by omega) (ov_s _ _ _))) dX2_pushLinks_110 rfl (by decide) (by omega) (by omega) (fun hp6 ht7 => ?_)
              rw [ov_in3 (by omega) (by omega) ] at ht7
              have hpl1 := (plq_st hwy hpd (by omega) hpl hqe).1
              refine r_aload_n (pc := 111) dX2_pushLinks_111 (i := 0) rfl rfl ?_
              refine t_getE (pc := 112) (.ref (s + 4)) ht7 (rd_ov (by omega) (rd_ov (by omega) (rd_ov (by omega) (rd_ov (by omega) (rd_ov (by omega) (rd_ov (by omega) (rd_of (ov_s _ _ _)))))))) fX2_21 dX2_pushLinks_112 rfl ?_
              refine r_iload (pc := 115) dX2_pushLinks_115 rfl ?_
              refine t_ialdX (pc := 117) (t0 := 0) ht7 (rd_ov (by omega) (rd_ov (by omega) (rd_ov (by omega) (rd_ov (by omega) (rd_of (ov_s _ _ _)))))) dX2_pushLinks_117 rfl (by decide) (by omega) (fun b8 => ?_)
              have rb8 := (show Rfx 240 0 15 lt by assumption) (Int.toNat (B (Int.toNat v65_4))) (by omega)
              refine r_istore (pc := 118) (lv' := [(4, .int (iv (lt (Int.toNat (B (Int.toNat v65_4)))))), (6, .int (iv (B (Int.toNat v65_4)))), (0, .ref s), (1, .int (iv x1)), (3, .int (iv v9_3)), (5, .int (iv v65_5))]) dX2_pushLinks_118 (by decide) rfl ?_
              have ev : Int.toNat (lt (Int.toNat (B (Int.toNat v65_4)))) = (tlR F T ((bfN B) (Int.toNat v65_4))).toNat := by show _ = (tlR F T (Int.toNat (B (Int.toNat v65_4)))).toNat; rw [← l1]
              have ejm : j0 - Int.toNat (v65_5 + 1) = jn := by omega
              have hpl2 : plkQ lt lh (fup (fup lr65 (Int.toNat (B (Int.toNat v65_4))) ((lr65 (Int.toNat (B (Int.toNat v65_4)))) - v9_3)) (Int.toNat q9) (((fup lr65 (Int.toNat (B (Int.toNat v65_4))) ((lr65 (Int.toNat (B (Int.toNat v65_4)))) - v9_3)) (Int.toNat q9)) + v9_3)) lc F T W C h p (dtC De) (bfN B) m nn (Int.toNat x1) (Int.toNat x2) v9_3 (j0 - Int.toNat (v65_5 + 1)) (Int.toNat (lt (Int.toNat (B (Int.toNat v65_4))))) := by rw [ejm, ev]; exact hpl1
              have hvn1 : (lt (Int.toNat (B (Int.toNat v65_4)))) < (nn : Int) := by rw [l1]; exact w4
              refine r_iinc (pc := 120) (v := iv (v65_5 + 1)) (lv' := [(5, .int (iv (v65_5 + 1))), (4, .int (iv (lt (Int.toNat (B (Int.toNat v65_4)))))), (6, .int (iv (B (Int.toNat v65_4)))), (0, .ref s), (1, .int (iv x1)), (3, .int (iv v9_3))]) dX2_pushLinks_120 rfl (iv_add _ _) (by decide) rfl ?_
              refine r_goto (pc := 123) (tgt := 65) dX2_pushLinks_123 (by decide) ?_
              refine Rn.pick (lv' := [(0, .ref s), (1, .int (iv x1)), (3, .int (iv v9_3)), (4, .int (iv (lt (Int.toNat (B (Int.toNat v65_4)))))), (5, .int (iv (v65_5 + 1)))]) [3, 4, 5, 1, 0] rfl ?_
              exact ih65 (Int.toNat (16 - (v65_5 + 1))) (by omega) (fup (fup lr65 (Int.toNat (B (Int.toNat v65_4))) ((lr65 (Int.toNat (B (Int.toNat v65_4)))) - v9_3)) (Int.toNat q9) (((fup lr65 (Int.toNat (B (Int.toNat v65_4))) ((lr65 (Int.toNat (B (Int.toNat v65_4)))) - v9_3)) (Int.toNat q9)) + v9_3)) _ ht7 (lt (Int.toNat (B (Int.toNat v65_4)))) (v65_5 + 1) ⟨by omega, by omega, by omega, by omega, by omega, by omega, by (first | exact hpl2 | exact hpl0)⟩ (by omega)
        refine Rn.pick (lv' := [(0, .ref s), (1, .int (iv x1)), (3, .int (iv v9_3)), (4, .int (iv x2)), (5, .int (iv 0))]) [2, 3, 5, 1, 0] rfl ?_
        exact B65 (Int.toNat (16 - 0)) lr _ ht9 x2 0 ⟨by omega, by omega, by omega, by omega, by omega, by omega, by (first | exact hpl2 | exact hpl0)⟩ (by omega)
      · obtain ⟨jn, ejn, hxn⟩ := ex_pos hex (by omega)
        obtain ⟨w1, w2, w3, w4, w5, w6, w7, w8⟩ := hwy (Int.toNat v9_4) (by omega) (by omega) hDv
        have w1b : Int.toNat (B (Int.toNat v9_4)) < 2 * m := w1
        obtain ⟨l1, l2, l3, l4⟩ := hlk.1 (Int.toNat (B (Int.toNat v9_4))) w1b
        have lrb := lk_rb hlk hfi w1b
        rw [ejn] at hmn
        refine r_iload_n (pc := 22) dX2_pushLinks_22 (i := 3) rfl rfl ?_
        refine r_aload_n (pc := 23) dX2_pushLinks_23 (i := 0) rfl rfl ?_
        refine t_getE (pc := 24) (.ref (s + 6)) ht9 (rd_ov (by omega) (rd_ov (by omega) (rd_ov (by omega) (rd_ov (by omega) (rd_ov (by omega) (rd_ov (by omega) (rd_of (ov_s _ _ _)))))))) fX2_27 dX2_pushLinks_24 rfl ?_
        refine r_aload_n (pc := 27) dX2_pushLinks_27 (i := 0) rfl rfl ?_
        refine t_getE (pc := 28) (.ref (s + 2)) ht9 (rd_ov (by omega) (rd_ov (by omega) (rd_ov (by omega) (rd_ov (by omega) (rd_ov (by omega) (rd_ov (by omega) (rd_of (ov_s _ _ _)))))))) fX2_15 dX2_pushLinks_28 rfl ?_
        refine r_iload (pc := 31) dX2_pushLinks_31 rfl ?_
        refine t_ialdX (pc := 33) (t0 := 0) ht9 (rd_ov (by omega) (rd_ov (by omega) (rd_ov (by omega) (rd_ov (by omega) (rd_ov (by omega) (rd_of (ov_s _ _ _))))))) dX2_pushLinks_33 rfl (by decide) (by omega) (fun b9 => ?_)
        have rb9 := (show Rfx 16 0 239 B by assumption) (Int.toNat v9_4) (by omega)
        refine t_ialdX (pc := 34) (t0 := 0) ht9 (rd_ov (by omega) (rd_ov (by omega) (rd_of (ov_s _ _ _)))) dX2_pushLinks_34 rfl (by decide) (by omega) (fun b10 => ?_)
        obtain ⟨z11, hz11, bz11⟩ := min_b v9_3 (lr (Int.toNat (B (Int.toNat v9_4)))) (by omega) (by omega)
        refine r_mmin (pc := 35) (v := iv z11) qX2_86 dX2_pushLinks_35 (Nat.le_of_ble_eq_true rfl) hz11 ?_
        have hz35 : 1 ≤ z11 := by have h9 : 0 < rmR W 1 h (Int.toNat (B (Int.toNat v9_4))) := w6; omega
        refine r_istore_n (pc := 38) (lv' := [(3, .int (iv z11)), (0, .ref s), (1, .int (iv x1)), (2, .int (iv x2)), (4, .int (iv v9_4)), (5, .int (iv v9_5))]) dX2_pushLinks_38 (i := 3) rfl (by decide) rfl ?_
        refine r_aload_n (pc := 39) dX2_pushLinks_39 (i := 0) rfl rfl ?_
        refine t_getE (pc := 40) (.ref (s + 4)) ht9 (rd_ov (by omega) (rd_ov (by omega) (rd_ov (by omega) (rd_ov (by omega) (rd_ov (by omega) (rd_ov (by omega) (rd_of (ov_s _ _ _)))))))) fX2_21 dX2_pushLinks_40 rfl ?_
        refine r_aload_n (pc := 43) dX2_pushLinks_43 (i := 0) rfl rfl ?_
        refine t_getE (pc := 44) (.ref (s + 2)) ht9 (rd_ov (by omega) (rd_ov (by omega) (rd_ov (by omega) (rd_ov (by omega) (rd_ov (by omega) (rd_ov (by omega) (rd_of (ov_s _ _ _)))))))) fX2_15 dX2_pushLinks_44 rfl ?_
        refine r_iload (pc := 47) dX2_pushLinks_47 rfl ?_
        refine t_ialdX (pc := 49) (t0 := 0) ht9 (rd_ov (by omega) (rd_ov (by omega) (rd_ov (by omega) (rd_ov (by omega) (rd_ov (by omega) (rd_of (ov_s _ _ _))))))) dX2_pushLinks_49 rfl (by decide) (by omega) (fun b12 => ?_)
        have rb12 := (show Rfx 16 0 239 B by assumption) (Int.toNat v9_4) (by omega)
        refine t_ialdX (pc := 50) (t0 := 0) ht9 (rd_ov (by omega) (rd_ov (by omega) (rd_ov (by omega) (rd_ov (by omega) (rd_of (ov_s _ _ _)))))) dX2_pushLinks_50 rfl (by decide) (by omega) (fun b13 => ?_)
        have rb13 := (show Rfx 240 0 15 lt by assumption) (Int.toNat (B (Int.toNat v9_4))) (by omega)
        refine r_istore (pc := 51) (lv' := [(4, .int (iv (lt (Int.toNat (B (Int.toNat v9_4)))))), (3, .int (iv z11)), (0, .ref s), (1, .int (iv x1)), (2, .int (iv x2)), (5, .int (iv v9_5))]) dX2_pushLinks_51 (by decide) rfl ?_
        have ev : Int.toNat (lt (Int.toNat (B (Int.toNat v9_4)))) = (tlR F T ((bfN B) (Int.toNat v9_4))).toNat := by show _ = (tlR F T (Int.toNat (B (Int.toNat v9_4)))).toNat; rw [← l1]
        have ejm : j0 - Int.toNat (v9_5 + 1) = jn := by omega
        have hex1 : exR (fun u => (tlR F T (bfN B u)).toNat) (Int.toNat x1) (j0 - Int.toNat (v9_5 + 1)) (Int.toNat (lt (Int.toNat (B (Int.toNat v9_4))))) := by rw [ejm, ev]; exact hxn
        have hD1 : (dtC De) (Int.toNat (lt (Int.toNat (B (Int.toNat v9_4))))) < 1000000000000 := by rw [ev]; exact w7
        have hmn1 : mnP nn F T W 1 h (dtC De) (bfN B) j0 (Int.toNat x2) z11 (j0 - Int.toNat (v9_5 + 1)) (Int.toNat (lt (Int.toNat (B (Int.toNat v9_4))))) := by
          rw [ejm, ev]
          exact mn_go hmn (by omega) hDv (by omega) (by show z11 ≤ rmR W 1 h (Int.toNat (B (Int.toNat v9_4))); omega)
        have hvn1 : (lt (Int.toNat (B (Int.toNat v9_4)))) < (nn : Int) := by rw [l1]; exact w4
        refine r_iinc (pc := 53) (v := iv (v9_5 + 1)) (lv' := [(5, .int (iv (v9_5 + 1))), (4, .int (iv (lt (Int.toNat (B (Int.toNat v9_4)))))), (3, .int (iv z11)), (0, .ref s), (1, .int (iv x1)), (2, .int (iv x2))]) dX2_pushLinks_53 rfl (iv_add _ _) (by decide) rfl ?_
        refine r_goto (pc := 56) (tgt := 9) dX2_pushLinks_56 (by decide) ?_
        refine Rn.pick (lv' := [(0, .ref s), (1, .int (iv x1)), (2, .int (iv x2)), (3, .int (iv z11)), (4, .int (iv (lt (Int.toNat (B (Int.toNat v9_4)))))), (5, .int (iv (v9_5 + 1)))]) [3, 4, 5, 2, 1, 0] rfl ?_
        exact ih9 (Int.toNat (16 - (v9_5 + 1))) (by omega) _ ht9 z11 (lt (Int.toNat (B (Int.toNat v9_4)))) (v9_5 + 1) ⟨by omega, by omega, by omega, by omega, by omega, by omega, by omega, by omega, by (first | exact hex1 | exact hj0), by (first | exact hD1 | exact hy1), by (first | exact hmn1 | exact mn_id)⟩ (by omega)
  refine Rn.pick (lv' := [(0, .ref s), (1, .int (iv x1)), (2, .int (iv x2)), (3, .int (iv 1073741824)), (4, .int (iv x2)), (5, .int (iv 0))]) [3, 4, 5, 2, 1, 0] rfl ?_
  exact B9 (Int.toNat (16 - 0)) _ t0 1073741824 x2 0 ⟨by omega, by omega, by omega, by omega, by omega, by omega, by omega, by omega, by (first | exact hex1 | exact hj0), by (first | exact hD1 | exact hy1), by (first | exact hmn1 | exact mn_id)⟩ (by omega)
