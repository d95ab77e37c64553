theorem tv_m0 {sp : Nat → Int} {e : Nat → Nat → Int} {r s S t : Nat} (h : sp t * sp (S ^^^ t) * e r t = 0) : tvF sp e r s S t = 0 := by
  unfold tvF
  by_cases g : t &&& (S ^^^ 2 ^ r) = t ∧ t.testBit s = true
  · rw [if_pos g]; exact h
  · exact if_neg g
theorem sp_b {sp : Nat → Int64} {e : Nat → Nat → Int} {X b : Int} (h : spT (spI sp) e 1000000007 X) (h0 : 0 < b) (hb : b < X) : 0 ≤ (sp (Int.toNat b)).toInt ∧ (sp (Int.toNat b)).toInt < 1000000007 := (h (Int.toNat b) (by omega) (by omega)).1
theorem sp_pos {S z b y : Int} {r : Nat} (hr : Me S r) (hz : ∀ j, Me z j ↔ Me S j ∧ j ≠ r) (hb : suP b z) (hy : ∀ j, Me y j ↔ Me S j ∧ ¬ Me b j) (h0 : 0 ≤ y) : 0 < y := Classical.byContradiction (fun g => by
  have h1 : Me y r := (hy r).mpr ⟨hr, fun q => ((hz r).mp (hb r q)).2 rfl⟩
  rw [show y = 0 by omega] at h1
  exact Me_0 _ h1)
theorem sp_lt {S b y : Int} {s : Nat} (hs : b.toNat.testBit s = true) (hy : ∀ j, Me y j ↔ Me S j ∧ ¬ Me b j) (hb : ∀ j, Me b j → Me S j) (h0 : 0 ≤ y) (hS : 0 ≤ S) : y < S := su_lt h0 hS (fun j g => ((hy j).mp g).1) (hb s hs) (fun g => ((hy s).mp g).2 hs)
theorem mul_pp {x y : Int} (hx : 0 ≤ x ∧ x < 1000000007) (hy : 0 ≤ y ∧ y < 1000000007) : -9223372036854775808 ≤ x * y ∧ x * y ≤ 9223372036854775807 := by
  have h1 : x * y ≤ 1000000007 * y := Int.mul_le_mul_of_nonneg_right (by omega) hy.1
  have h2 := Int.mul_nonneg hx.1 hy.1
  omega
theorem mul_60 {x y : Int} (hx : 0 ≤ x ∧ x < 1000000007) (hy : 0 ≤ y ∧ y ≤ 60) : -9223372036854775808 ≤ x * y ∧ x * y ≤ 60000000420 := by
  have h1 : x * y ≤ 1000000007 * y := Int.mul_le_mul_of_nonneg_right (by omega) hy.1
  have h2 := Int.mul_nonneg hx.1 hy.1
  omega
theorem spr_1 {sp : Nat → Int} {e : Nat → Nat → Int} {p S z w : Int} {r : Int} (hr : Me S (Int.toNat r)) (hl : ∀ j : Nat, (j : Int) < r → ¬ Me S j) (hz : ∀ j, Me z j ↔ Me S j ∧ j ≠ Int.toNat r) (hz0 : z = 0) (hS : 0 < S) (hw : w = 1) : spR (fup sp (Int.toNat S) w) e p (Int.toNat S) := by
  refine ⟨Int.toNat r, hr, fun j hj => Bool.eq_false_iff.mpr (hl j (by omega)), Or.inl ⟨Nat.eq_of_testBit_eq (fun j => ?_), by rw [show fup sp (Int.toNat S) w (Int.toNat S) = w from if_pos rfl]; exact hw⟩⟩
  rw [Nat.testBit_two_pow]
  by_cases e : Int.toNat r = j
  · rw [decide_eq_true e, ← e]; exact hr
  · rw [decide_eq_false e]
    refine Bool.eq_false_iff.mpr (fun g => ?_)
    have := (hz j).mpr ⟨g, fun q => e q.symm⟩
    rw [hz0] at this
    exact Me_0 _ this
theorem spr_n {sp : Nat → Int} {e : Nat → Nat → Int} {p S z w : Int} {r : Int} {s : Nat} (hT : spT sp e p S) (hr : Me S (Int.toNat r)) (hl : ∀ j : Nat, (j : Int) < r → ¬ Me S j) (hs : Me z s) (hm : ∀ j, j < s → ¬ Me z j) (hz : ∀ j, Me z j ↔ Me S j ∧ j ≠ Int.toNat r) (hS : 0 < S) (hw : w = sgm (tvF sp e (Int.toNat r) s (Int.toNat S)) (Int.toNat S) % p) : spR (fup sp (Int.toNat S) w) e p (Int.toNat S) := by
  have hs1 := (hz s).mp hs
  refine ⟨Int.toNat r, hr, fun j hj => Bool.eq_false_iff.mpr (hl j (by omega)), Or.inr ⟨s, fun q => hs1.2 q.symm, hs1.1, fun j h1 h2 => Bool.eq_false_iff.mpr (fun g => hm j h1 ((hz j).mpr ⟨g, h2⟩)), ?_⟩⟩
  rw [show fup sp (Int.toNat S) w (Int.toNat S) = w from if_pos rfl]
  exact hw.trans (congrArg (fun x => x % p) (sgm_cg (f := tvF (fup sp (Int.toNat S) w) e (Int.toNat r) s (Int.toNat S)) (g := tvF sp e (Int.toNat r) s (Int.toNat S)) (fun t ht => tv_x hr hs1.1 (fun q => hs1.2 q.symm) (fun t _ h2 => if_neg (by omega)) t ht)).symm)
theorem spt_e {sp : Nat → Int64} {m n : Nat} {F T : Nat → Int} {p X : Int} (h : spT (spI sp) (ebA m F T) p X) (hX : ((2 ^ n : Nat) : Int) ≤ X) (hn : 1 ≤ 2 ^ n) : stA m F T n p (sp (Int.toNat (((2 ^ n : Nat) : Int) - 1))).toInt :=
  ⟨spI sp, fun S h1 h2 => h S h1 (Int.lt_of_lt_of_le (Int.ofNat_lt.mpr h2) hX), by
    show _ = (sp (2 ^ n - 1)).toInt
    rw [show Int.toNat (((2 ^ n : Nat) : Int) - 1) = 2 ^ n - 1 by omega]⟩
set_option maxHeartbeats 4000000 in
set_option maxRecDepth 100000 in
theorem x_X12_trees {D : va_G} {cI cJ cZ cT : ClassId} {lo b L : Nat} {xs : Nat → Int32} {hp : MH} {n d : Nat} {Γ : TG} {y : Nat} {rf cn nm : Int} {so sz dr mn fr tt wt co : Nat → Int} {nu : Nat → Int64} {sa : Nat → Int} {wo : Nat → Int64} {ln : Nat → Int} {hw : Nat → Int64} {ro qi qc nf nt nw nc : Nat → Int} {cl nx : Nat → Int64} {ie be sd bl : Nat → Int} {bs wy ra rb : Nat → Int64} {lb bg os js ls : Nat → Int} {sp : Nat → Int64} {jw go : Nat → Int} {de : Nat → Int64} {yb ah im : Nat → Int} {x1 : Int} {Po9 : Option Value → MH → Nat → Prop} (hd0 : 1 ≤ d) (hR_sizes : Rfx 121 0 16 sz) (hR_many : Rfx 121 0 60 mn) (hR_from : Rfx 7260 0 15 fr) (hR_to : Rfx 7260 0 15 tt) (ht : Tw (RX Γ cI cJ cZ y rf cn nm so sz dr mn fr tt wt co nu sa wo ln hw ro qi qc nf nt nw nc cl nx ie be sd bl bs wy ra rb lb bg os js ls sp jw go de yb ah im) hp) (hx1 : 0 ≤ x1 ∧ x1 ≤ 120) (hEn : enP fr tt mn sz x1) (hPo : ∀ r hp1 n1, (n1 = n ∧ ∃ (q9 : Int64) (w1 : Nat → Int64), Tw (RX Γ cI cJ cZ y rf cn nm so sz dr mn fr tt wt co nu sa wo ln hw ro qi qc nf nt nw nc cl nx ie be sd bl bs wy ra rb lb bg os js ls w1 jw go de yb ah im) hp1 ∧ r = some (.long q9) ∧ (stA (Int.toNat (mn (Int.toNat x1))) (sh fr (60 * x1)) (sh tt (60 * x1)) (Int.toNat (sz (Int.toNat x1))) 1000000007 q9.toInt)) → Po9 r hp1 n1) : Mt (gG D cI cJ cZ cT lo b L xs) mX12_trees d 0 0 [.ref y, .int (iv x1)] hp n Po9 := by
  refine Mt.of rfl (Nat.le_of_ble_eq_true rfl) ?_
  refine Rn.pick (lv' := [(0, .ref y), (1, .int (iv x1))]) [0, 1] rfl ?_
  have rsz := hR_sizes (Int.toNat x1) (by omega)
  have rmn := hR_many (Int.toNat x1) (by omega)
  have hFT := enF hEn (by assumption) (by assumption) (by omega) (by omega)
  have mp5 : 1 ≤ 2 ^ (Int.toNat (sz (Int.toNat x1))) := Nat.one_le_two_pow
  have mq5 : 2 ^ (Int.toNat (sz (Int.toNat x1))) ≤ 2 ^ 16 := Nat.pow_le_pow_right (by omega) (by omega)
  refine r_aload_n (pc := 0) dX12_trees_0 (i := 0) rfl rfl ?_
  refine t_getE (pc := 1) (.ref (y + 2)) ht (rd_of RX_y) fX12_13 dX12_trees_1 rfl ?_
  refine r_iload_n (pc := 4) dX12_trees_4 (i := 1) rfl rfl ?_
  refine t_ialdX (pc := 5) (t0 := 0) ht (rd_of RX_sizes) dX12_trees_5 rfl (by decide) (by omega) (fun b1 => ?_)
  have rb1 := (show Rfx 121 0 16 sz by assumption) (Int.toNat x1) (by omega)
  refine r_istore_n (pc := 6) (lv' := [(2, .int (iv (sz (Int.toNat x1)))), (0, .ref y), (1, .int (iv x1))]) dX12_trees_6 (i := 2) rfl (by decide) rfl ?_
  refine r_aload_n (pc := 7) dX12_trees_7 (i := 0) rfl rfl ?_
  refine t_getE (pc := 8) (.ref (y + 36)) ht (rd_of RX_y) fX12_118 dX12_trees_8 rfl ?_
  refine r_iconst (pc := 11) (v := iv 0) dX12_trees_11 (by decide) ?_
  refine r_lconst (pc := 12) (v := 0) dX12_trees_12 (by decide) ?_
  have hk12 : (0 : Int64).toInt = 0 := by decide
  refine t_lastX (pc := 13) (t0 := 1) ht RX_spans dX12_trees_13 rfl (by decide) (by omega) (fun hp2 ht3 => ?_)
  have ht4 := RXw_sp ht3
  refine r_iconst (pc := 14) (v := iv 1) dX12_trees_14 (by decide) ?_
  refine r_istore_n (pc := 15) (lv' := [(3, .int (iv 1)), (2, .int (iv (sz (Int.toNat x1)))), (0, .ref y), (1, .int (iv x1))]) dX12_trees_15 (i := 3) rfl (by decide) rfl ?_
  have B16 : ∀ k : Nat, ∀ sp16 : Nat → Int64, ∀ hp16 : MH, Tw (RX Γ cI cJ cZ y rf cn nm so sz dr mn fr tt wt co nu sa wo ln hw ro qi qc nf nt nw nc cl nx ie be sd bl bs wy ra rb lb bg os js ls sp16 jw go de yb ah im) hp16 → ∀  (v16_3 : Int), 1 ≤ v16_3 ∧ v16_3 ≤ 65536 ∧ (v16_3 ≤ ((2 ^ (Int.toNat (sz (Int.toNat x1))) : Nat) : Int)) ∧ (spT (spI sp16) (ebA (Int.toNat (mn (Int.toNat x1))) (sh fr (60 * x1)) (sh tt (60 * x1))) 1000000007 v16_3) → 65536 - v16_3 ≤ (k : Int) → Rn (gG D cI cJ cZ cT lo b L xs) mX12_trees d 16 [(0, .ref y), (1, .int (iv x1)), (2, .int (iv (sz (Int.toNat x1)))), (3, .int (iv v16_3))] [] hp16 n 0 0 Po9 := by
    refine lpS _ ?_
    intro k16 ih16 sp16 hp16 ht16 v16_3 hf16 hm16
    obtain ⟨hf16_0, hf16_1, hf16_2, ha16_3⟩ := hf16
    refine r_iload_n (pc := 16) dX12_trees_16 (i := 3) rfl rfl ?_
    refine r_iconst (pc := 17) (v := iv 1) dX12_trees_17 (by decide) ?_
    refine r_iload_n (pc := 18) dX12_trees_18 (i := 2) rfl rfl ?_
    refine r_ishl (pc := 19) (v := iv ((2 ^ Int.toNat (sz (Int.toNat x1)) : Nat) : Int)) dX12_trees_19 (shl_e (by omega)) ?_
    have mp19_5 : 1 ≤ 2 ^ Int.toNat (sz (Int.toNat x1)) := Nat.one_le_two_pow
    have mq19_6 : 2 ^ Int.toNat (sz (Int.toNat x1)) ≤ 2 ^ 16 := Nat.pow_le_pow_right (by omega) (by omega)
    have ms19 := Me_shl (Int.toNat (sz (Int.toNat x1)))
    refine t_icmp_ge (pc := 20) (tgt := 275) dX12_trees_20 (by decide) (by omega) (by omega) (fun c20 => ?_) (fun c20 => ?_)
    · refine r_aload_n (pc := 275) dX12_trees_275 (i := 0) rfl rfl ?_
      refine t_getE (pc := 276) (.ref (y + 36)) ht16 (rd_of RX_y) fX12_118 dX12_trees_276 rfl ?_
      refine r_iconst (pc := 279) (v := iv 1) dX12_trees_279 (by decide) ?_
      refine r_iload_n (pc := 280) dX12_trees_280 (i := 2) rfl rfl ?_
      refine r_ishl (pc := 281) (v := iv ((2 ^ Int.toNat (sz (Int.toNat x1)) : Nat) : Int)) dX12_trees_281 (shl_e (by omega)) ?_
      have mp281_7 : 1 ≤ 2 ^ Int.toNat (sz (Int.toNat x1)) := Nat.one_le_two_pow
      have mq281_8 : 2 ^ Int.toNat (sz (Int.toNat x1)) ≤ 2 ^ 16 := Nat.pow_le_pow_right (by omega) (by omega)
      have ms281 := Me_shl (Int.toNat (sz (Int.toNat x1)))
      refine r_iconst (pc := 282) (v := iv 1) dX12_trees_282 (by decide) ?_
      refine r_isub (pc := 283) (v := iv (((2 ^ Int.toNat (sz (Int.toNat x1)) : Nat) : Int) - 1)) dX12_trees_283 (iv_sub _ _) ?_
      refine t_laldX (pc := 284) (t0 := 1) ht16 (rd_of RX_spans) dX12_trees_284 rfl (by decide) (by omega) ?_
      exact r_lret (pc := 285) dX12_trees_285 rfl (hPo _ _ _ ⟨rfl, (sp16 (Int.toNat (((2 ^ Int.toNat (sz (Int.toNat x1)) : Nat) : Int) - 1))), sp16, ht16, rfl, (by exact spt_e (by assumption : spT (spI sp16) (ebA (Int.toNat (mn (Int.toNat x1))) (sh fr (60 * x1)) (sh tt (60 * x1))) 1000000007 v16_3) (by omega) (by omega))⟩)
    · refine r_iconst (pc := 23) (v := iv 0) dX12_trees_23 (by decide) ?_
      refine r_istore (pc := 24) (lv' := [(4, .int (iv 0)), (0, .ref y), (1, .int (iv x1)), (2, .int (iv (sz (Int.toNat x1)))), (3, .int (iv v16_3))]) dX12_trees_24 (by decide) rfl ?_
      have B26 : ∀ k : Nat, ∀ hp26 : MH, Tw (RX Γ cI cJ cZ y rf cn nm so sz dr mn fr tt wt co nu sa wo ln hw ro qi qc nf nt nw nc cl nx ie be sd bl bs wy ra rb lb bg os js ls sp16 jw go de yb ah im) hp26 → ∀  (v26_4 : Int), 0 ≤ v26_4 ∧ v26_4 ≤ 15 ∧ (∀ j : Nat, (j : Int) < v26_4 → ¬ Me v16_3 j) → 15 - v26_4 ≤ (k : Int) → Rn (gG D cI cJ cZ cT lo b L xs) mX12_trees d 26 [(0, .ref y), (1, .int (iv x1)), (2, .int (iv (sz (Int.toNat x1)))), (3, .int (iv v16_3)), (4, .int (iv v26_4))] [] hp26 n 0 0 Po9 := by
        refine lpS _ ?_
        intro k26 ih26 hp26 ht26 v26_4 hf26 hm26
        obtain ⟨hf26_0, hf26_1, ha26_2⟩ := hf26
        refine r_iload_n (pc := 26) dX12_trees_26 (i := 3) rfl rfl ?_
        obtain ⟨ix, hix⟩ := Me_ex (show 0 < v16_3 by omega)
        have hix16 := Me_lt hix (by omega)
        have hlo := (by assumption : ∀ j : Nat, (j : Int) < v26_4 → ¬ Me v16_3 j)
        have hrx : v26_4 ≤ (ix : Int) := Classical.byContradiction (fun g => hlo ix (by omega) hix)
        refine r_iload (pc := 27) dX12_trees_27 rfl ?_
        have hq29_9 := shr_le (Int.toNat v16_3) (Int.toNat v26_4)
        refine r_ishr (pc := 29) (v := iv ((Int.toNat v16_3 >>> Int.toNat v26_4 : Nat) : Int)) dX12_trees_29 (shr_e (by omega) (by omega)) ?_
        refine r_iconst (pc := 30) (v := iv 1) dX12_trees_30 (by decide) ?_
        refine r_iand (pc := 31) (v := iv (((Int.toNat v16_3 >>> Int.toNat v26_4 : Nat) : Int) % 2)) dX12_trees_31 (and1_e _ (by omega)) ?_
        have mb31 := @Me_bit v16_3 v26_4
        refine t_if_ne (pc := 32) (tgt := 41) dX12_trees_32 (by decide) (by omega) (fun c32 => ?_) (fun c32 => ?_)
        · have pm32 : Me v16_3 (Int.toNat v26_4) := Me_bit.mp (by omega)
          have hmr := pm32
          refine r_iload_n (pc := 41) dX12_trees_41 (i := 3) rfl rfl ?_
          refine r_iconst (pc := 42) (v := iv 1) dX12_trees_42 (by decide) ?_
          refine r_iload (pc := 43) dX12_trees_43 rfl ?_
          refine r_ishl (pc := 45) (v := iv ((2 ^ Int.toNat v26_4 : Nat) : Int)) dX12_trees_45 (shl_e (by omega)) ?_
          have mp45_10 : 1 ≤ 2 ^ Int.toNat v26_4 := Nat.one_le_two_pow
          have mq45_11 : 2 ^ Int.toNat v26_4 ≤ 2 ^ 15 := Nat.pow_le_pow_right (by omega) (by omega)
          have ms45 := Me_shl (Int.toNat v26_4)
          refine r_iconst (pc := 46) (v := iv (-1)) dX12_trees_46 (by decide) ?_
          refine r_ixor (pc := 47) (v := iv (-((2 ^ Int.toNat v26_4 : Nat) : Int) - 1)) dX12_trees_47 (iv_not _) ?_
          obtain ⟨z12, hz12, bz12⟩ := and_l v16_3 (-((2 ^ Int.toNat v26_4 : Nat) : Int) - 1) (by omega) (by omega)
          refine r_iand (pc := 48) (v := iv z12) dX12_trees_48 hz12 ?_
          have mez12 := Me_not (y := ((2 ^ Int.toNat v26_4 : Nat) : Int)) hz12 (by omega) (by omega) (by omega)
          have hz48 : ∀ j, Me z12 j ↔ Me v16_3 j ∧ j ≠ (Int.toNat v26_4) := fun j => by rw [mez12 j, ms45 j]
          have hzx : Int.toNat z12 = (Int.toNat v16_3) ^^^ 2 ^ (Int.toNat v26_4) := by
            have h9 := xo_eq (S := v16_3) (b := ((2 ^ (Int.toNat v26_4) : Nat) : Int)) (z := z12) (fun j => by rw [hz48 j, ms45 j]) (fun j g => by rw [(ms45 j).mp g]; exact hmr)
            exact h9
          have hzl := su_lt (s := z12) (by omega) (by omega) (fun j g => ((hz48 j).mp g).1) hmr (fun g => ((hz48 _).mp g).2 rfl)
          refine r_istore (pc := 49) (lv' := [(5, .int (iv z12)), (0, .ref y), (1, .int (iv x1)), (2, .int (iv (sz (Int.toNat x1)))), (3, .int (iv v16_3)), (4, .int (iv v26_4))]) dX12_trees_49 (by decide) rfl ?_
          refine r_iload (pc := 51) dX12_trees_51 rfl ?_
          refine t_if_ne (pc := 53) (tgt := 60) dX12_trees_53 (by decide) (by omega) (fun c53 => ?_) (fun c53 => ?_)
          · refine r_lconst (pc := 60) (v := 0) dX12_trees_60 (by decide) ?_
            have hk60 : (0 : Int64).toInt = 0 := by decide
            refine r_lstore (pc := 61) (lv' := [(6, .long (0 : Int64)), (5, .int (iv z12)), (0, .ref y), (1, .int (iv x1)), (2, .int (iv (sz (Int.toNat x1)))), (3, .int (iv v16_3)), (4, .int (iv v26_4))]) dX12_trees_61 (by decide) rfl ?_
            refine r_iload (pc := 63) dX12_trees_63 rfl ?_
            refine r_iload (pc := 65) dX12_trees_65 rfl ?_
            refine r_ineg (pc := 67) (v := iv (-z12)) dX12_trees_67 (iv_neg _) ?_
            obtain ⟨z13, hz13, bz13⟩ := and_l z12 (-z12) (by omega) (by omega)
            refine r_iand (pc := 68) (v := iv z13) dX12_trees_68 hz13 ?_
            have mez13 := Me_low hz13 (by omega) (by omega)
            obtain ⟨sx, hz0, hm0, hn0⟩ := mez13.2 (by omega)
            have hzs : ∀ i, Me z13 i ↔ i = sx := fun i => by rw [hz0]; exact Me_shl sx i
            have htr0 : trI (tvF (spI sp16) (ebA (Int.toNat (mn (Int.toNat x1))) (sh fr (60 * x1)) (sh tt (60 * x1))) (Int.toNat v26_4) sx (Int.toNat v16_3)) (Int.toNat v16_3) (Int.toNat z12) 1000000007 (0 : Int64).toInt := tri_0 (by omega) hzx (by omega) hk60
            refine r_istore (pc := 69) (lv' := [(8, .int (iv z13)), (6, .long (0 : Int64)), (5, .int (iv z12)), (0, .ref y), (1, .int (iv x1)), (2, .int (iv (sz (Int.toNat x1)))), (3, .int (iv v16_3)), (4, .int (iv v26_4))]) dX12_trees_69 (by decide) rfl ?_
            refine r_iload (pc := 71) dX12_trees_71 rfl ?_
            refine r_istore (pc := 73) (lv' := [(9, .int (iv z12)), (8, .int (iv z13)), (6, .long (0 : Int64)), (5, .int (iv z12)), (0, .ref y), (1, .int (iv x1)), (2, .int (iv (sz (Int.toNat x1)))), (3, .int (iv v16_3)), (4, .int (iv v26_4))]) dX12_trees_73 (by decide) rfl ?_
            have B75 : ∀ k : Nat, ∀ hp75 : MH, Tw (RX Γ cI cJ cZ y rf cn nm so sz dr mn fr tt wt co nu sa wo ln hw ro qi qc nf nt nw nc cl nx ie be sd bl bs wy ra rb lb bg os js ls sp16 jw go de yb ah im) hp75 → ∀  (v75_9 : Int) (w75_6 : Int64), 0 ≤ v75_9 ∧ v75_9 ≤ 65535 ∧ (0 ≤ v75_9) ∧ (v75_9 ≤ z12) ∧ (suP v75_9 z12) ∧ (trI (tvF (spI sp16) (ebA (Int.toNat (mn (Int.toNat x1))) (sh fr (60 * x1)) (sh tt (60 * x1))) (Int.toNat v26_4) sx (Int.toNat v16_3)) (Int.toNat v16_3) (Int.toNat v75_9) 1000000007 w75_6.toInt) → v75_9 ≤ (k : Int) → Rn (gG D cI cJ cZ cT lo b L xs) mX12_trees d 75 [(0, .ref y), (1, .int (iv x1)), (2, .int (iv (sz (Int.toNat x1)))), (3, .int (iv v16_3)), (4, .int (iv v26_4)), (5, .int (iv z12)), (6, .long w75_6), (8, .int (iv z13)), (9, .int (iv v75_9))] [] hp75 n 0 0 Po9 := by
              refine lpS _ ?_
              intro k75 ih75 hp75 ht75 v75_9 w75_6 hf75 hm75
              obtain ⟨hf75_0, hf75_1, hf75_2, hf75_3, ha75_4, ha75_5⟩ := hf75
              refine r_iload (pc := 75) dX12_trees_75 rfl ?_
              refine t_if_le (pc := 77) (tgt := 261) dX12_trees_77 (by decide) (by omega) (fun c77 => ?_) (fun c77 => ?_)
              · have hsr : 0 ≤ w75_6.toInt ∧ w75_6.toInt < 1000000007 := (by assumption : trI (tvF (spI sp16) (ebA (Int.toNat (mn (Int.toNat x1))) (sh fr (60 * x1)) (sh tt (60 * x1))) (Int.toNat v26_4) sx (Int.toNat v16_3)) (Int.toNat v16_3) (Int.toNat v75_9) 1000000007 w75_6.toInt).1
                have hsf := tri_e (by assumption : trI (tvF (spI sp16) (ebA (Int.toNat (mn (Int.toNat x1))) (sh fr (60 * x1)) (sh tt (60 * x1))) (Int.toNat v26_4) sx (Int.toNat v16_3)) (Int.toNat v16_3) (Int.toNat v75_9) 1000000007 w75_6.toInt) (by omega)
                refine r_aload_n (pc := 261) dX12_trees_261 (i := 0) rfl rfl ?_
                refine t_getE (pc := 262) (.ref (y + 36)) ht75 (rd_of RX_y) fX12_118 dX12_trees_262 rfl ?_
                refine r_iload_n (pc := 265) dX12_trees_265 (i := 3) rfl rfl ?_
                refine r_lload (pc := 266) dX12_trees_266 rfl ?_
                refine t_lastX (pc := 268) (t0 := 1) ht75 RX_spans dX12_trees_268 rfl (by decide) (by omega) (fun hp14 ht15 => ?_)
                have ht16 := RXw_sp ht15
                have hsn : spT (spI (fuj sp16 (Int.toNat v16_3) w75_6)) (ebA (Int.toNat (mn (Int.toNat x1))) (sh fr (60 * x1)) (sh tt (60 * x1))) 1000000007 (v16_3 + 1) := by rw [spi_up]; exact spt_up (by assumption : spT (spI sp16) (ebA (Int.toNat (mn (Int.toNat x1))) (sh fr (60 * x1)) (sh tt (60 * x1))) 1000000007 v16_3) (by omega) hsr (spr_n (by assumption : spT (spI sp16) (ebA (Int.toNat (mn (Int.toNat x1))) (sh fr (60 * x1)) (sh tt (60 * x1))) 1000000007 v16_3) hmr hlo hm0 (fun j g => hn0 j g) hz48 (by omega) hsf)
                refine r_iinc (pc := 269) (v := iv (v16_3 + 1)) (lv' := [(3, .int (iv (v16_3 + 1))), (0, .ref y), (1, .int (iv x1)), (2, .int (iv (sz (Int.toNat x1)))), (4, .int (iv v26_4)), (5, .int (iv z12)), (6, .long w75_6), (8, .int (iv z13)), (9, .int (iv v75_9))]) dX12_trees_269 rfl (iv_add _ _) (by decide) rfl ?_
                refine r_goto (pc := 272) (tgt := 16) dX12_trees_272 (by decide) ?_
                refine Rn.pick (lv' := [(0, .ref y), (1, .int (iv x1)), (2, .int (iv (sz (Int.toNat x1)))), (3, .int (iv (v16_3 + 1)))]) [1, 2, 3, 0] rfl ?_
                exact ih16 (Int.toNat (65536 - (v16_3 + 1))) (by omega) (fuj sp16 (Int.toNat v16_3) w75_6) _ ht16 (v16_3 + 1) ⟨by omega, by omega, by omega, by (first | exact hsn | exact spt_1)⟩ (by omega)
              · refine r_iload (pc := 80) dX12_trees_80 rfl ?_
                refine r_iload (pc := 82) dX12_trees_82 rfl ?_
                obtain ⟨z17, hz17, bz17⟩ := and_2 v75_9 z13 (by omega) (by omega)
                refine r_iand (pc := 84) (v := iv z17) dX12_trees_84 hz17 ?_
                have mez17 := Me_and hz17 (by omega) (by omega) (by omega)
                refine t_if_eq (pc := 85) (tgt := 249) dX12_trees_85 (by decide) (by omega) (fun c85 => ?_) (fun c85 => ?_)
                · have hsu := (by assumption : suP v75_9 z12)
                  have hbs : ∀ i, (Int.toNat v75_9).testBit i = true → ((Int.toNat v16_3) ^^^ 2 ^ (Int.toNat v26_4)).testBit i = true := fun i g => by rw [← hzx]; exact hsu i g
                  have hsS : ∀ j, Me v75_9 j → Me v16_3 j := fun j g => ((hz48 j).mp (hsu j g)).1
                  have hf0 : (tvF (spI sp16) (ebA (Int.toNat (mn (Int.toNat x1))) (sh fr (60 * x1)) (sh tt (60 * x1))) (Int.toNat v26_4) sx (Int.toNat v16_3)) (Int.toNat v75_9) = 0 := tv_0 (fun g => by
                    have h8 := (mez17 sx).mpr ⟨g.2, (hzs sx).mpr rfl⟩
                    rw [show z17 = 0 by omega] at h8
                    exact Me_0 _ h8)
                  refine r_iload (pc := 249) dX12_trees_249 rfl ?_
                  refine r_iconst (pc := 251) (v := iv 1) dX12_trees_251 (by decide) ?_
                  refine r_isub (pc := 252) (v := iv (v75_9 - 1)) dX12_trees_252 (iv_sub _ _) ?_
                  refine r_iload (pc := 253) dX12_trees_253 rfl ?_
                  obtain ⟨z18, hz18, bz18⟩ := and_2 (v75_9 - 1) z12 (by omega) (by omega)
                  refine r_iand (pc := 255) (v := iv z18) dX12_trees_255 hz18 ?_
                  have mez18 := Me_and hz18 (by omega) (by omega) (by omega)
                  have hnz : Int.toNat z18 = (Int.toNat v75_9 - 1) &&& ((Int.toNat v16_3) ^^^ 2 ^ (Int.toNat v26_4)) := by rw [an_eq mez18, ← hzx, show Int.toNat (v75_9 - 1) = Int.toNat v75_9 - 1 by omega]
                  have hsu1 : suP z18 z12 := fun j g => ((mez18 j).mp g).2
                  have htr := tri_sk (by assumption : trI (tvF (spI sp16) (ebA (Int.toNat (mn (Int.toNat x1))) (sh fr (60 * x1)) (sh tt (60 * x1))) (Int.toNat v26_4) sx (Int.toNat v16_3)) (Int.toNat v16_3) (Int.toNat v75_9) 1000000007 w75_6.toInt) (by omega) hbs hnz hf0
                  refine r_istore (pc := 256) (lv' := [(9, .int (iv z18)), (0, .ref y), (1, .int (iv x1)), (2, .int (iv (sz (Int.toNat x1)))), (3, .int (iv v16_3)), (4, .int (iv v26_4)), (5, .int (iv z12)), (6, .long w75_6), (8, .int (iv z13))]) dX12_trees_256 (by decide) rfl ?_
                  refine r_goto (pc := 258) (tgt := 75) dX12_trees_258 (by decide) ?_
                  refine Rn.pick (lv' := [(0, .ref y), (1, .int (iv x1)), (2, .int (iv (sz (Int.toNat x1)))), (3, .int (iv v16_3)), (4, .int (iv v26_4)), (5, .int (iv z12)), (6, .long w75_6), (8, .int (iv z13)), (9, .int (iv z18))]) [1, 2, 3, 4, 5, 6, 7, 8, 0] rfl ?_
                  exact ih75 (Int.toNat (z18)) (by omega) _ ht75 z18 w75_6 ⟨by omega, by omega, by omega, by omega, by (first | exact hsu1 | exact fun j g => g), by (first | exact htr | exact htr0)⟩ (by omega)
                · have hsu := (by assumption : suP v75_9 z12)
                  have hbs : ∀ i, (Int.toNat v75_9).testBit i = true → ((Int.toNat v16_3) ^^^ 2 ^ (Int.toNat v26_4)).testBit i = true := fun i g => by rw [← hzx]; exact hsu i g
                  have hsS : ∀ j, Me v75_9 j → Me v16_3 j := fun j g => ((hz48 j).mp (hsu j g)).1
                  have hys : (Int.toNat v75_9).testBit sx = true := by
                    obtain ⟨j, hj⟩ := Me_ex (show 0 < z17 by omega)
                    have h8 := (mez17 j).mp hj
                    have h7 := (hzs j).mp h8.2
                    rw [← h7]; exact h8.1
                  refine r_aload_n (pc := 88) dX12_trees_88 (i := 0) rfl rfl ?_
                  refine t_getE (pc := 89) (.ref (y + 36)) ht75 (rd_of RX_y) fX12_118 dX12_trees_89 rfl ?_
                  refine r_iload (pc := 92) dX12_trees_92 rfl ?_
                  refine t_laldX (pc := 94) (t0 := 1) ht75 (rd_of RX_spans) dX12_trees_94 rfl (by decide) (by omega) ?_
                  refine r_lconst (pc := 95) (v := 0) dX12_trees_95 (by decide) ?_
                  have hk95 : (0 : Int64).toInt = 0 := by decide
                  refine r_lcmp (pc := 96) dX12_trees_96 ?_
                  refine t_lif_eq (pc := 97) (tgt := 249) dX12_trees_97 (by decide) (fun c97 => ?_) (fun c97 => ?_)
                  · have hf0 : (tvF (spI sp16) (ebA (Int.toNat (mn (Int.toNat x1))) (sh fr (60 * x1)) (sh tt (60 * x1))) (Int.toNat v26_4) sx (Int.toNat v16_3)) (Int.toNat v75_9) = 0 := tv_m0 (by have h9 : spI sp16 (Int.toNat v75_9) = 0 := c97.trans hk95; rw [h9, Int.zero_mul, Int.zero_mul])
                    refine r_iload (pc := 249) dX12_trees_249 rfl ?_
                    refine r_iconst (pc := 251) (v := iv 1) dX12_trees_251 (by decide) ?_
                    refine r_isub (pc := 252) (v := iv (v75_9 - 1)) dX12_trees_252 (iv_sub _ _) ?_
                    refine r_iload (pc := 253) dX12_trees_253 rfl ?_
                    obtain ⟨z19, hz19, bz19⟩ := and_2 (v75_9 - 1) z12 (by omega) (by omega)
                    refine r_iand (pc := 255) (v := iv z19) dX12_trees_255 hz19 ?_
                    have mez19 := Me_and hz19 (by omega) (by omega) (by omega)
                    have hnz : Int.toNat z19 = (Int.toNat v75_9 - 1) &&& ((Int.toNat v16_3) ^^^ 2 ^ (Int.toNat v26_4)) := by rw [an_eq mez19, ← hzx, show Int.toNat (v75_9 - 1) = Int.toNat v75_9 - 1 by omega]
                    have hsu1 : suP z19 z12 := fun j g => ((mez19 j).mp g).2
                    have htr := tri_sk (by assumption : trI (tvF (spI sp16) (ebA (Int.toNat (mn (Int.toNat x1))) (sh fr (60 * x1)) (sh tt (60 * x1))) (Int.toNat v26_4) sx (Int.toNat v16_3)) (Int.toNat v16_3) (Int.toNat v75_9) 1000000007 w75_6.toInt) (by omega) hbs hnz hf0
                    refine r_istore (pc := 256) (lv' := [(9, .int (iv z19)), (0, .ref y), (1, .int (iv x1)), (2, .int (iv (sz (Int.toNat x1)))), (3, .int (iv v16_3)), (4, .int (iv v26_4)), (5, .int (iv z12)), (6, .long w75_6), (8, .int (iv z13))]) dX12_trees_256 (by decide) rfl ?_
                    refine r_goto (pc := 258) (tgt := 75) dX12_trees_258 (by decide) ?_
                    refine Rn.pick (lv' := [(0, .ref y), (1, .int (iv x1)), (2, .int (iv (sz (Int.toNat x1)))), (3, .int (iv v16_3)), (4, .int (iv v26_4)), (5, .int (iv z12)), (6, .long w75_6), (8, .int (iv z13)), (9, .int (iv z19))]) [1, 2, 3, 4, 5, 6, 7, 8, 0] rfl ?_
                    exact ih75 (Int.toNat (z19)) (by omega) _ ht75 z19 w75_6 ⟨by omega, by omega, by omega, by omega, by (first | exact hsu1 | exact fun j g => g), by (first | exact htr | exact htr0)⟩ (by omega)
                  · refine r_aload_n (pc := 100) dX12_trees_100 (i := 0) rfl rfl ?_
                    refine t_getE (pc := 101) (.ref (y + 36)) ht75 (rd_of RX_y) fX12_118 dX12_trees_101 rfl ?_
                    refine r_iload_n (pc := 104) dX12_trees_104 (i := 3) rfl rfl ?_
                    refine r_iload (pc := 105) dX12_trees_105 rfl ?_
                    refine r_iconst (pc := 107) (v := iv (-1)) dX12_trees_107 (by decide) ?_
                    refine r_ixor (pc := 108) (v := iv (-v75_9 - 1)) dX12_trees_108 (iv_not _) ?_
                    obtain ⟨z20, hz20, bz20⟩ := and_l v16_3 (-v75_9 - 1) (by omega) (by omega)
                    refine r_iand (pc := 109) (v := iv z20) dX12_trees_109 hz20 ?_
                    have mez20 := Me_not (y := v75_9) hz20 (by omega) (by omega) (by omega)
                    have hx109 : Int.toNat z20 = (Int.toNat v16_3) ^^^ Int.toNat v75_9 := xo_eq mez20 hsS
                    refine t_laldX (pc := 110) (t0 := 1) ht75 (rd_of RX_spans) dX12_trees_110 rfl (by decide) (by omega) ?_
                    refine r_lconst (pc := 111) (v := 0) dX12_trees_111 (by decide) ?_
                    have hk111 : (0 : Int64).toInt = 0 := by decide
                    refine r_lcmp (pc := 112) dX12_trees_112 ?_
                    refine t_lif_eq (pc := 113) (tgt := 249) dX12_trees_113 (by decide) (fun c113 => ?_) (fun c113 => ?_)
                    · have hf0 : (tvF (spI sp16) (ebA (Int.toNat (mn (Int.toNat x1))) (sh fr (60 * x1)) (sh tt (60 * x1))) (Int.toNat v26_4) sx (Int.toNat v16_3)) (Int.toNat v75_9) = 0 := tv_m0 (by have h9 : spI sp16 ((Int.toNat v16_3) ^^^ Int.toNat v75_9) = 0 := (by rw [← hx109]; exact c113.trans hk111); rw [h9, Int.mul_zero, Int.zero_mul])
                      refine r_iload (pc := 249) dX12_trees_249 rfl ?_
                      refine r_iconst (pc := 251) (v := iv 1) dX12_trees_251 (by decide) ?_
                      refine r_isub (pc := 252) (v := iv (v75_9 - 1)) dX12_trees_252 (iv_sub _ _) ?_
                      refine r_iload (pc := 253) dX12_trees_253 rfl ?_
                      obtain ⟨z21, hz21, bz21⟩ := and_2 (v75_9 - 1) z12 (by omega) (by omega)
                      refine r_iand (pc := 255) (v := iv z21) dX12_trees_255 hz21 ?_
                      have mez21 := Me_and hz21 (by omega) (by omega) (by omega)
                      have hnz : Int.toNat z21 = (Int.toNat v75_9 - 1) &&& ((Int.toNat v16_3) ^^^ 2 ^ (Int.toNat v26_4)) := by rw [an_eq mez21, ← hzx, show Int.toNat (v75_9 - 1) = Int.toNat v75_9 - 1 by omega]
                      have hsu1 : suP z21 z12 := fun j g => ((mez21 j).mp g).2
                      have htr := tri_sk (by assumption : trI (tvF (spI sp16) (ebA (Int.toNat (mn (Int.toNat x1))) (sh fr (60 * x1)) (sh tt (60 * x1))) (Int.toNat v26_4) sx (Int.toNat v16_3)) (Int.toNat v16_3) (Int.toNat v75_9) 1000000007 w75_6.toInt) (by omega) hbs hnz hf0
                      refine r_istore (pc := 256) (lv' := [(9, .int (iv z21)), (0, .ref y), (1, .int (iv x1)), (2, .int (iv (sz (Int.toNat x1)))), (3, .int (iv v16_3)), (4, .int (iv v26_4)), (5, .int (iv z12)), (6, .long w75_6), (8, .int (iv z13))]) dX12_trees_256 (by decide) rfl ?_
                      refine r_goto (pc := 258) (tgt := 75) dX12_trees_258 (by decide) ?_
                      refine Rn.pick (lv' := [(0, .ref y), (1, .int (iv x1)), (2, .int (iv (sz (Int.toNat x1)))), (3, .int (iv v16_3)), (4, .int (iv v26_4)), (5, .int (iv z12)), (6, .long w75_6), (8, .int (iv z13)), (9, .int (iv z21))]) [1, 2, 3, 4, 5, 6, 7, 8, 0] rfl ?_
                      exact ih75 (Int.toNat (z21)) (by omega) _ ht75 z21 w75_6 ⟨by omega, by omega, by omega, by omega, by (first | exact hsu1 | exact fun j g => g), by (first | exact htr | exact htr0)⟩ (by omega)
                    · refine r_iconst (pc := 116) (v := iv 0) dX12_trees_116 (by decide) ?_
                      refine r_istore (pc := 117) (lv' := [(10, .int (iv 0)), (0, .ref y), (1, .int (iv x1)), (2, .int (iv (sz (Int.toNat x1)))), (3, .int (iv v16_3)), (4, .int (iv v26_4)), (5, .int (iv z12)), (6, .long w75_6), (8, .int (iv z13)), (9, .int (iv v75_9))]) dX12_trees_117 (by decide) rfl ?_
                      refine r_iconst (pc := 119) (v := iv 0) dX12_trees_119 (by decide) ?_
                      refine r_istore (pc := 120) (lv' := [(11, .int (iv 0)), (10, .int (iv 0)), (0, .ref y), (1, .int (iv x1)), (2, .int (iv (sz (Int.toNat x1)))), (3, .int (iv v16_3)), (4, .int (iv v26_4)), (5, .int (iv z12)), (6, .long w75_6), (8, .int (iv z13)), (9, .int (iv v75_9))]) dX12_trees_120 (by decide) rfl ?_
                      have B122 : ∀ k : Nat, ∀ hp122 : MH, Tw (RX Γ cI cJ cZ y rf cn nm so sz dr mn fr tt wt co nu sa wo ln hw ro qi qc nf nt nw nc cl nx ie be sd bl bs wy ra rb lb bg os js ls sp16 jw go de yb ah im) hp122 → ∀  (v122_10 : Int) (v122_11 : Int), 0 ≤ v122_10 ∧ v122_10 ≤ 60 ∧ 0 ≤ v122_11 ∧ v122_11 ≤ 60 ∧ (v122_11 ≤ (mn (Int.toNat x1))) ∧ (v122_10 ≤ v122_11) ∧ (v122_10 = sgm (ebF (sh fr (60 * x1)) (sh tt (60 * x1)) (Int.toNat v26_4) (Int.toNat v75_9)) (Int.toNat v122_11)) → 60 - v122_11 ≤ (k : Int) → Rn (gG D cI cJ cZ cT lo b L xs) mX12_trees d 122 [(0, .ref y), (1, .int (iv x1)), (2, .int (iv (sz (Int.toNat x1)))), (3, .int (iv v16_3)), (4, .int (iv v26_4)), (5, .int (iv z12)), (6, .long w75_6), (8, .int (iv z13)), (9, .int (iv v75_9)), (10, .int (iv v122_10)), (11, .int (iv v122_11))] [] hp122 n 0 0 Po9 := by
                        refine lpS _ ?_
                        intro k122 ih122 hp122 ht122 v122_10 v122_11 hf122 hm122
                        obtain ⟨hf122_0, hf122_1, hf122_2, hf122_3, hf122_4, hf122_5, ha122_6⟩ := hf122
                        refine r_iload (pc := 122) dX12_trees_122 rfl ?_
                        refine r_aload_n (pc := 124) dX12_trees_124 (i := 0) rfl rfl ?_
                        refine t_getE (pc := 125) (.ref (y + 4)) ht122 (rd_of RX_y) fX12_20 dX12_trees_125 rfl ?_
                        refine r_iload_n (pc := 128) dX12_trees_128 (i := 1) rfl rfl ?_
                        refine t_ialdX (pc := 129) (t0 := 0) ht122 (rd_of RX_many) dX12_trees_129 rfl (by decide) (by omega) (fun b22 => ?_)
                        have rb22 := (show Rfx 121 0 60 mn by assumption) (Int.toNat x1) (by omega)
                        refine t_icmp_ge (pc := 130) (tgt := 213) dX12_trees_130 (by decide) (by omega) (by omega) (fun c130 => ?_) (fun c130 => ?_)
                        · have hcc : v122_10 = (ebA (Int.toNat (mn (Int.toNat x1))) (sh fr (60 * x1)) (sh tt (60 * x1))) (Int.toNat v26_4) (Int.toNat v75_9) := by rw [(by assumption : v122_10 = sgm (ebF (sh fr (60 * x1)) (sh tt (60 * x1)) (Int.toNat v26_4) (Int.toNat v75_9)) (Int.toNat v122_11)), show Int.toNat v122_11 = (Int.toNat (mn (Int.toNat x1))) by omega]; rfl
                          refine r_lload (pc := 213) dX12_trees_213 rfl ?_
                          refine r_aload_n (pc := 215) dX12_trees_215 (i := 0) rfl rfl ?_
                          refine t_getE (pc := 216) (.ref (y + 36)) ht122 (rd_of RX_y) fX12_118 dX12_trees_216 rfl ?_
                          refine r_iload (pc := 219) dX12_trees_219 rfl ?_
                          refine t_laldX (pc := 221) (t0 := 1) ht122 (rd_of RX_spans) dX12_trees_221 rfl (by decide) (by omega) ?_
                          refine r_aload_n (pc := 222) dX12_trees_222 (i := 0) rfl rfl ?_
                          refine t_getE (pc := 223) (.ref (y + 36)) ht122 (rd_of RX_y) fX12_118 dX12_trees_223 rfl ?_
                          refine r_iload_n (pc := 226) dX12_trees_226 (i := 3) rfl rfl ?_
                          refine r_iload (pc := 227) dX12_trees_227 rfl ?_
                          refine r_iconst (pc := 229) (v := iv (-1)) dX12_trees_229 (by decide) ?_
                          refine r_ixor (pc := 230) (v := iv (-v75_9 - 1)) dX12_trees_230 (iv_not _) ?_
                          obtain ⟨z23, hz23, bz23⟩ := and_l v16_3 (-v75_9 - 1) (by omega) (by omega)
                          refine r_iand (pc := 231) (v := iv z23) dX12_trees_231 hz23 ?_
                          have mez23 := Me_not (y := v75_9) hz23 (by omega) (by omega) (by omega)
                          have hx231 : Int.toNat z23 = (Int.toNat v16_3) ^^^ Int.toNat v75_9 := xo_eq mez23 hsS
                          refine t_laldX (pc := 232) (t0 := 1) ht122 (rd_of RX_spans) dX12_trees_232 rfl (by decide) (by omega) ?_
                          refine r_lmul (pc := 233) (v := (sp16 (Int.toNat v75_9)) * (sp16 (Int.toNat z23))) dX12_trees_233 rfl ?_
                          refine r_ldc2 (pc := 234) (v := 1000000007) dX12_trees_234 kX12_366 ?_
                          have hk234 : (1000000007 : Int64).toInt = 1000000007 := by decide
                          have hb1 := sp_b (by assumption : spT (spI sp16) (ebA (Int.toNat (mn (Int.toNat x1))) (sh fr (60 * x1)) (sh tt (60 * x1))) 1000000007 v16_3) (b := v75_9) (by omega) (by omega)
                          have hb2 := sp_b (by assumption : spT (spI sp16) (ebA (Int.toNat (mn (Int.toNat x1))) (sh fr (60 * x1)) (sh tt (60 * x1))) 1000000007 v16_3) (b := z23) (sp_pos hmr hz48 hsu mez23 (by omega)) (by have h9 := sp_lt hys mez23 hsS (by omega) (by omega); omega)
                          have hml := l_mul (x := sp16 (Int.toNat v75_9)) (y := sp16 (Int.toNat z23)) (mul_pp hb1 hb2)
                          have hmn := Int.mul_nonneg hb1.1 hb2.1
                          refine r_lrem (pc := 237) (v := ((sp16 (Int.toNat v75_9)) * (sp16 (Int.toNat z23))) - ((sp16 (Int.toNat v75_9)) * (sp16 (Int.toNat z23))) / (1000000007 : Int64) * (1000000007 : Int64)) dX12_trees_237 (by decide) rfl ?_
                          have hrm : (((sp16 (Int.toNat v75_9)) * (sp16 (Int.toNat z23))) - ((sp16 (Int.toNat v75_9)) * (sp16 (Int.toNat z23))) / (1000000007 : Int64) * (1000000007 : Int64)).toInt = (sp16 (Int.toNat v75_9)).toInt * (sp16 (Int.toNat z23)).toInt % 1000000007 := by rw [l_rem (by rw [hml]; exact hmn) (by omega), hml, hk234]
                          have hrb : 0 ≤ (((sp16 (Int.toNat v75_9)) * (sp16 (Int.toNat z23))) - ((sp16 (Int.toNat v75_9)) * (sp16 (Int.toNat z23))) / (1000000007 : Int64) * (1000000007 : Int64)).toInt ∧ (((sp16 (Int.toNat v75_9)) * (sp16 (Int.toNat z23))) - ((sp16 (Int.toNat v75_9)) * (sp16 (Int.toNat z23))) / (1000000007 : Int64) * (1000000007 : Int64)).toInt < 1000000007 := by rw [hrm]; exact ⟨Int.emod_nonneg _ (by omega), Int.emod_lt_of_pos _ (by omega)⟩
                          generalize ((sp16 (Int.toNat v75_9)) * (sp16 (Int.toNat z23))) - ((sp16 (Int.toNat v75_9)) * (sp16 (Int.toNat z23))) / (1000000007 : Int64) * (1000000007 : Int64) = w237 at hrm hrb ⊢
                          refine r_iload (pc := 238) dX12_trees_238 rfl ?_
                          refine r_i2l (pc := 240) (v := (iv v122_10).toInt64) dX12_trees_240 rfl ?_
                          refine r_lmul (pc := 241) (v := w237 * ((iv v122_10).toInt64)) dX12_trees_241 rfl ?_
                          refine r_ladd (pc := 242) (v := w75_6 + (w237 * ((iv v122_10).toInt64))) dX12_trees_242 rfl ?_
                          refine r_ldc2 (pc := 243) (v := 1000000007) dX12_trees_243 kX12_366 ?_
                          have hk243 : (1000000007 : Int64).toInt = 1000000007 := by decide
                          have hce := eb_b (m := 0) (F := (sh fr (60 * x1))) (T := (sh tt (60 * x1))) (r := (Int.toNat v26_4)) (t := Int.toNat v75_9) (Int.toNat (mn (Int.toNat x1)))
                          have hcb : 0 ≤ v122_10 ∧ v122_10 ≤ 60 := by have h9 : v122_10 = sgm _ _ := hcc; omega
                          have hci := iv_long (x := v122_10) (by omega)
                          have hm2 := l_mul (x := w237) (y := (iv v122_10).toInt64) (by rw [hci]; have h9 := mul_60 hrb hcb; omega)
                          have hn2 := mul_60 hrb hcb
                          have hn3 : 0 ≤ (w237).toInt * v122_10 := Int.mul_nonneg hrb.1 hcb.1
                          rw [hci] at hm2
                          have h75 := (by assumption : trI (tvF (spI sp16) (ebA (Int.toNat (mn (Int.toNat x1))) (sh fr (60 * x1)) (sh tt (60 * x1))) (Int.toNat v26_4) sx (Int.toNat v16_3)) (Int.toNat v16_3) (Int.toNat v75_9) 1000000007 w75_6.toInt)
                          have ha2 := l_add (x := w75_6) (y := (w237) * (iv v122_10).toInt64) (by have h9 := h75.1; omega)
                          refine r_lrem (pc := 246) (v := (w75_6 + (w237 * ((iv v122_10).toInt64))) - (w75_6 + (w237 * ((iv v122_10).toInt64))) / (1000000007 : Int64) * (1000000007 : Int64)) dX12_trees_246 (by decide) rfl ?_
                          have hsm : ((w75_6 + (w237 * ((iv v122_10).toInt64))) - (w75_6 + (w237 * ((iv v122_10).toInt64))) / (1000000007 : Int64) * (1000000007 : Int64)).toInt = (w75_6.toInt + spI sp16 (Int.toNat v75_9) * spI sp16 ((Int.toNat v16_3) ^^^ Int.toNat v75_9) % 1000000007 * v122_10) % 1000000007 := by
                            rw [l_rem (by rw [ha2, hm2]; have h9 := h75.1; omega) (by omega), ha2, hm2, hrm, hk243, ← hx231]; rfl
                          generalize (w75_6 + (w237 * ((iv v122_10).toInt64))) - (w75_6 + (w237 * ((iv v122_10).toInt64))) / (1000000007 : Int64) * (1000000007 : Int64) = w246 at hsm ⊢
                          refine r_lstore (pc := 247) (lv' := [(6, .long w246), (0, .ref y), (1, .int (iv x1)), (2, .int (iv (sz (Int.toNat x1)))), (3, .int (iv v16_3)), (4, .int (iv v26_4)), (5, .int (iv z12)), (8, .int (iv z13)), (9, .int (iv v75_9)), (10, .int (iv v122_10)), (11, .int (iv v122_11))]) dX12_trees_247 (by decide) rfl ?_
                          refine r_iload (pc := 249) dX12_trees_249 rfl ?_
                          refine r_iconst (pc := 251) (v := iv 1) dX12_trees_251 (by decide) ?_
                          refine r_isub (pc := 252) (v := iv (v75_9 - 1)) dX12_trees_252 (iv_sub _ _) ?_
                          refine r_iload (pc := 253) dX12_trees_253 rfl ?_
                          obtain ⟨z24, hz24, bz24⟩ := and_2 (v75_9 - 1) z12 (by omega) (by omega)
                          refine r_iand (pc := 255) (v := iv z24) dX12_trees_255 hz24 ?_
                          have mez24 := Me_and hz24 (by omega) (by omega) (by omega)
                          have hnz : Int.toNat z24 = (Int.toNat v75_9 - 1) &&& ((Int.toNat v16_3) ^^^ 2 ^ (Int.toNat v26_4)) := by rw [an_eq mez24, ← hzx, show Int.toNat (v75_9 - 1) = Int.toNat v75_9 - 1 by omega]
                          have hsu1 : suP z24 z12 := fun j g => ((mez24 j).mp g).2
                          have htr : trI (tvF (spI sp16) (ebA (Int.toNat (mn (Int.toNat x1))) (sh fr (60 * x1)) (sh tt (60 * x1))) (Int.toNat v26_4) sx (Int.toNat v16_3)) (Int.toNat v16_3) (Int.toNat z24) 1000000007 (w246).toInt := by rw [hsm]; exact tri_st h75 (by omega) (by omega) hbs hnz hys hcc
                          refine r_istore (pc := 256) (lv' := [(9, .int (iv z24)), (6, .long w246), (0, .ref y), (1, .int (iv x1)), (2, .int (iv (sz (Int.toNat x1)))), (3, .int (iv v16_3)), (4, .int (iv v26_4)), (5, .int (iv z12)), (8, .int (iv z13)), (10, .int (iv v122_10)), (11, .int (iv v122_11))]) dX12_trees_256 (by decide) rfl ?_
                          refine r_goto (pc := 258) (tgt := 75) dX12_trees_258 (by decide) ?_
                          refine Rn.pick (lv' := [(0, .ref y), (1, .int (iv x1)), (2, .int (iv (sz (Int.toNat x1)))), (3, .int (iv v16_3)), (4, .int (iv v26_4)), (5, .int (iv z12)), (6, .long w246), (8, .int (iv z13)), (9, .int (iv z24))]) [2, 3, 4, 5, 6, 7, 1, 8, 0] rfl ?_
                          exact ih75 (Int.toNat (z24)) (by omega) _ ht122 z24 w246 ⟨by omega, by omega, by omega, by omega, by (first | exact hsu1 | exact fun j g => g), by (first | exact htr | exact htr0)⟩ (by omega)
                        · refine r_iload_n (pc := 133) dX12_trees_133 (i := 1) rfl rfl ?_
                          refine r_iload (pc := 134) dX12_trees_134 rfl ?_
                          refine t_callSI (pc := 136) (as := [.int (iv x1), .int (iv v122_11)]) (st := []) kX12_157 dX12_trees_136 (t_X12_at1x (d := d - 1) (x1 := x1) (x2 := v122_11) (by omega)  ht122 (by omega) (by omega)) rfl (by omega) (Nat.le_of_ble_eq_true rfl) rfl (fun hp25 y27 ht26 by27 => ?_)
                          have ey27 : y27 = 60 * x1 + v122_11 := by27
                          subst ey27
                          have eF := sh_at fr (60 * x1) (v := v122_11) (by omega)
                          have eT := sh_at tt (60 * x1) (v := v122_11) (by omega)
                          refine r_istore (pc := 139) (lv' := [(12, .int (iv (60 * x1 + v122_11))), (0, .ref y), (1, .int (iv x1)), (2, .int (iv (sz (Int.toNat x1)))), (3, .int (iv v16_3)), (4, .int (iv v26_4)), (5, .int (iv z12)), (6, .long w75_6), (8, .int (iv z13)), (9, .int (iv v75_9)), (10, .int (iv v122_10)), (11, .int (iv v122_11))]) dX12_trees_139 (by decide) rfl ?_
                          refine r_iload (pc := 141) dX12_trees_141 rfl ?_
                          refine r_aload_n (pc := 143) dX12_trees_143 (i := 0) rfl rfl ?_
                          refine t_getE (pc := 144) (.ref (y + 5)) ht26 (rd_of RX_y) fX12_23 dX12_trees_144 rfl ?_
                          refine r_iload (pc := 147) dX12_trees_147 rfl ?_
                          refine t_ialdX (pc := 149) (t0 := 0) ht26 (rd_of RX_from) dX12_trees_149 rfl (by decide) (by omega) (fun b28 => ?_)
                          have rb28 := (show Rfx 7260 0 15 fr by assumption) (Int.toNat (60 * x1 + v122_11)) (by omega)
                          refine r_iload (pc := 150) dX12_trees_150 rfl ?_
                          refine t_icmp_ne (pc := 152) (tgt := 171) dX12_trees_152 (by decide) (by omega) (by omega) (fun c152 => ?_) (fun c152 => ?_)
                          · have hA : (sh fr (60 * x1)) (Int.toNat v122_11) ≠ (((Int.toNat v26_4) : Nat) : Int) := by rw [← eF]; omega
                            refine r_aload_n (pc := 171) dX12_trees_171 (i := 0) rfl rfl ?_
                            refine t_getE (pc := 172) (.ref (y + 6)) ht26 (rd_of RX_y) fX12_26 dX12_trees_172 rfl ?_
                            refine r_iload (pc := 175) dX12_trees_175 rfl ?_
                            refine t_ialdX (pc := 177) (t0 := 0) ht26 (rd_of RX_to) dX12_trees_177 rfl (by decide) (by omega) (fun b29 => ?_)
                            have rb29 := (show Rfx 7260 0 15 tt by assumption) (Int.toNat (60 * x1 + v122_11)) (by omega)
                            refine r_iload (pc := 178) dX12_trees_178 rfl ?_
                            refine t_icmp_ne (pc := 180) (tgt := 203) dX12_trees_180 (by decide) (by omega) (by omega) (fun c180 => ?_) (fun c180 => ?_)
                            · have hC : (sh tt (60 * x1)) (Int.toNat v122_11) ≠ (((Int.toNat v26_4) : Nat) : Int) := by rw [← eT]; omega
                              refine r_iconst (pc := 203) (v := iv 0) dX12_trees_203 (by decide) ?_
                              refine r_iadd (pc := 204) (v := iv (v122_10 + 0)) dX12_trees_204 (iv_add _ _) ?_
                              have heb := eb_n (by omega) (by assumption : v122_10 = sgm (ebF (sh fr (60 * x1)) (sh tt (60 * x1)) (Int.toNat v26_4) (Int.toNat v75_9)) (Int.toNat v122_11)) (fun g8 => g8.elim (fun g9 => absurd g9.1 hA) (fun g9 => absurd g9.1 hC))
                              refine r_istore (pc := 205) (lv' := [(10, .int (iv (v122_10 + 0))), (12, .int (iv (60 * x1 + v122_11))), (0, .ref y), (1, .int (iv x1)), (2, .int (iv (sz (Int.toNat x1)))), (3, .int (iv v16_3)), (4, .int (iv v26_4)), (5, .int (iv z12)), (6, .long w75_6), (8, .int (iv z13)), (9, .int (iv v75_9)), (11, .int (iv v122_11))]) dX12_trees_205 (by decide) rfl ?_
                              refine r_iinc (pc := 207) (v := iv (v122_11 + 1)) (lv' := [(11, .int (iv (v122_11 + 1))), (10, .int (iv (v122_10 + 0))), (12, .int (iv (60 * x1 + v122_11))), (0, .ref y), (1, .int (iv x1)), (2, .int (iv (sz (Int.toNat x1)))), (3, .int (iv v16_3)), (4, .int (iv v26_4)), (5, .int (iv z12)), (6, .long w75_6), (8, .int (iv z13)), (9, .int (iv v75_9))]) dX12_trees_207 rfl (iv_add _ _) (by decide) rfl ?_
                              refine r_goto (pc := 210) (tgt := 122) dX12_trees_210 (by decide) ?_
                              refine Rn.pick (lv' := [(0, .ref y), (1, .int (iv x1)), (2, .int (iv (sz (Int.toNat x1)))), (3, .int (iv v16_3)), (4, .int (iv v26_4)), (5, .int (iv z12)), (6, .long w75_6), (8, .int (iv z13)), (9, .int (iv v75_9)), (10, .int (iv (v122_10 + 0))), (11, .int (iv (v122_11 + 1)))]) [3, 4, 5, 6, 7, 8, 9, 10, 11, 1, 0] rfl ?_
                              exact ih122 (Int.toNat (60 - (v122_11 + 1))) (by omega) _ ht26 (v122_10 + 0) (v122_11 + 1) ⟨by omega, by omega, by omega, by omega, by omega, by omega, by (first | exact heb | rfl)⟩ (by omega)
                            · have hC : (sh tt (60 * x1)) (Int.toNat v122_11) = (((Int.toNat v26_4) : Nat) : Int) := by rw [← eT]; omega
                              refine r_iload (pc := 183) dX12_trees_183 rfl ?_
                              refine r_aload_n (pc := 185) dX12_trees_185 (i := 0) rfl rfl ?_
                              refine t_getE (pc := 186) (.ref (y + 5)) ht26 (rd_of RX_y) fX12_23 dX12_trees_186 rfl ?_
                              refine r_iload (pc := 189) dX12_trees_189 rfl ?_
                              refine t_ialdX (pc := 191) (t0 := 0) ht26 (rd_of RX_from) dX12_trees_191 rfl (by decide) (by omega) (fun b30 => ?_)
                              have rb30 := (show Rfx 7260 0 15 fr by assumption) (Int.toNat (60 * x1 + v122_11)) (by omega)
                              have hq192_31 := shr_le (Int.toNat v75_9) (Int.toNat (fr (Int.toNat (60 * x1 + v122_11))))
                              refine r_ishr (pc := 192) (v := iv ((Int.toNat v75_9 >>> Int.toNat (fr (Int.toNat (60 * x1 + v122_11))) : Nat) : Int)) dX12_trees_192 (shr_e (by omega) (by omega)) ?_
                              refine r_iconst (pc := 193) (v := iv 1) dX12_trees_193 (by decide) ?_
                              refine r_iand (pc := 194) (v := iv (((Int.toNat v75_9 >>> Int.toNat (fr (Int.toNat (60 * x1 + v122_11))) : Nat) : Int) % 2)) dX12_trees_194 (and1_e _ (by omega)) ?_
                              have mb194 := @Me_bit v75_9 (fr (Int.toNat (60 * x1 + v122_11)))
                              refine r_iconst (pc := 195) (v := iv 1) dX12_trees_195 (by decide) ?_
                              refine t_icmp_ne (pc := 196) (tgt := 203) dX12_trees_196 (by decide) (by omega) (by omega) (fun c196 => ?_) (fun c196 => ?_)
                              · have nm196 : ¬ Me v75_9 (Int.toNat (fr (Int.toNat (60 * x1 + v122_11)))) := fun h9 => absurd (Me_bit.mpr h9) (by omega)
                                have hD : (Int.toNat v75_9).testBit ((sh fr (60 * x1)) (Int.toNat v122_11)).toNat = false := Bool.eq_false_iff.mpr (fun g9 => nm196 (by rw [eF]; exact g9))
                                refine r_iconst (pc := 203) (v := iv 0) dX12_trees_203 (by decide) ?_
                                refine r_iadd (pc := 204) (v := iv (v122_10 + 0)) dX12_trees_204 (iv_add _ _) ?_
                                have heb := eb_n (by omega) (by assumption : v122_10 = sgm (ebF (sh fr (60 * x1)) (sh tt (60 * x1)) (Int.toNat v26_4) (Int.toNat v75_9)) (Int.toNat v122_11)) (fun g8 => g8.elim (fun g9 => absurd g9.1 hA) (fun g9 => by rw [hD] at g9; cases g9.2))
                                refine r_istore (pc := 205) (lv' := [(10, .int (iv (v122_10 + 0))), (12, .int (iv (60 * x1 + v122_11))), (0, .ref y), (1, .int (iv x1)), (2, .int (iv (sz (Int.toNat x1)))), (3, .int (iv v16_3)), (4, .int (iv v26_4)), (5, .int (iv z12)), (6, .long w75_6), (8, .int (iv z13)), (9, .int (iv v75_9)), (11, .int (iv v122_11))]) dX12_trees_205 (by decide) rfl ?_
                                refine r_iinc (pc := 207) (v := iv (v122_11 + 1)) (lv' := [(11, .int (iv (v122_11 + 1))), (10, .int (iv (v122_10 + 0))), (12, .int (iv (60 * x1 + v122_11))), (0, .ref y), (1, .int (iv x1)), (2, .int (iv (sz (Int.toNat x1)))), (3, .int (iv v16_3)), (4, .int (iv v26_4)), (5, .int (iv z12)), (6, .long w75_6), (8, .int (iv z13)), (9, .int (iv v75_9))]) dX12_trees_207 rfl (iv_add _ _) (by decide) rfl ?_
                                refine r_goto (pc := 210) (tgt := 122) dX12_trees_210 (by decide) ?_
                                refine Rn.pick (lv' := [(0, .ref y), (1, .int (iv x1)), (2, .int (iv (sz (Int.toNat x1)))), (3, .int (iv v16_3)), (4, .int (iv v26_4)), (5, .int (iv z12)), (6, .long w75_6), (8, .int (iv z13)), (9, .int (iv v75_9)), (10, .int (iv (v122_10 + 0))), (11, .int (iv (v122_11 + 1)))]) [3, 4, 5, 6, 7, 8, 9, 10, 11, 1, 0] rfl ?_
                                exact ih122 (Int.toNat (60 - (v122_11 + 1))) (by omega) _ ht26 (v122_10 + 0) (v122_11 + 1) ⟨by omega, by omega, by omega, by omega, by omega, by omega, by (first | exact heb | rfl)⟩ (by omega)
                              · have pm196 : Me v75_9 (Int.toNat (fr (Int.toNat (60 * x1 + v122_11)))) := Me_bit.mp (by omega)
                                have hD : (Int.toNat v75_9).testBit ((sh fr (60 * x1)) (Int.toNat v122_11)).toNat = true := by rw [← eF]; exact pm196
                                refine r_iconst (pc := 199) (v := iv 1) dX12_trees_199 (by decide) ?_
                                refine r_goto (pc := 200) (tgt := 204) dX12_trees_200 (by decide) ?_
                                refine r_iadd (pc := 204) (v := iv (v122_10 + 1)) dX12_trees_204 (iv_add _ _) ?_
                                have heb := eb_y (by omega) (by assumption : v122_10 = sgm (ebF (sh fr (60 * x1)) (sh tt (60 * x1)) (Int.toNat v26_4) (Int.toNat v75_9)) (Int.toNat v122_11)) (Or.inr ⟨hC, hD⟩)
                                refine r_istore (pc := 205) (lv' := [(10, .int (iv (v122_10 + 1))), (12, .int (iv (60 * x1 + v122_11))), (0, .ref y), (1, .int (iv x1)), (2, .int (iv (sz (Int.toNat x1)))), (3, .int (iv v16_3)), (4, .int (iv v26_4)), (5, .int (iv z12)), (6, .long w75_6), (8, .int (iv z13)), (9, .int (iv v75_9)), (11, .int (iv v122_11))]) dX12_trees_205 (by decide) rfl ?_
                                refine r_iinc (pc := 207) (v := iv (v122_11 + 1)) (lv' := [(11, .int (iv (v122_11 + 1))), (10, .int (iv (v122_10 + 1))), (12, .int (iv (60 * x1 + v122_11))), (0, .ref y), (1, .int (iv x1)), (2, .int (iv (sz (Int.toNat x1)))), (3, .int (iv v16_3)), (4, .int (iv v26_4)), (5, .int (iv z12)), (6, .long w75_6), (8, .int (iv z13)), (9, .int (iv v75_9))]) dX12_trees_207 rfl (iv_add _ _) (by decide) rfl ?_
                                refine r_goto (pc := 210) (tgt := 122) dX12_trees_210 (by decide) ?_
                                refine Rn.pick (lv' := [(0, .ref y), (1, .int (iv x1)), (2, .int (iv (sz (Int.toNat x1)))), (3, .int (iv v16_3)), (4, .int (iv v26_4)), (5, .int (iv z12)), (6, .long w75_6), (8, .int (iv z13)), (9, .int (iv v75_9)), (10, .int (iv (v122_10 + 1))), (11, .int (iv (v122_11 + 1)))]) [3, 4, 5, 6, 7, 8, 9, 10, 11, 1, 0] rfl ?_
                                exact ih122 (Int.toNat (60 - (v122_11 + 1))) (by omega) _ ht26 (v122_10 + 1) (v122_11 + 1) ⟨by omega, by omega, by omega, by omega, by omega, by omega, by (first | exact heb | rfl)⟩ (by omega)
                          · have hA : (sh fr (60 * x1)) (Int.toNat v122_11) = (((Int.toNat v26_4) : Nat) : Int) := by rw [← eF]; omega
                            refine r_iload (pc := 155) dX12_trees_155 rfl ?_
                            refine r_aload_n (pc := 157) dX12_trees_157 (i := 0) rfl rfl ?_
                            refine t_getE (pc := 158) (.ref (y + 6)) ht26 (rd_of RX_y) fX12_26 dX12_trees_158 rfl ?_
                            refine r_iload (pc := 161) dX12_trees_161 rfl ?_
                            refine t_ialdX (pc := 163) (t0 := 0) ht26 (rd_of RX_to) dX12_trees_163 rfl (by decide) (by omega) (fun b32 => ?_)
                            have rb32 := (show Rfx 7260 0 15 tt by assumption) (Int.toNat (60 * x1 + v122_11)) (by omega)
                            have hq164_33 := shr_le (Int.toNat v75_9) (Int.toNat (tt (Int.toNat (60 * x1 + v122_11))))
                            refine r_ishr (pc := 164) (v := iv ((Int.toNat v75_9 >>> Int.toNat (tt (Int.toNat (60 * x1 + v122_11))) : Nat) : Int)) dX12_trees_164 (shr_e (by omega) (by omega)) ?_
                            refine r_iconst (pc := 165) (v := iv 1) dX12_trees_165 (by decide) ?_
                            refine r_iand (pc := 166) (v := iv (((Int.toNat v75_9 >>> Int.toNat (tt (Int.toNat (60 * x1 + v122_11))) : Nat) : Int) % 2)) dX12_trees_166 (and1_e _ (by omega)) ?_
                            have mb166 := @Me_bit v75_9 (tt (Int.toNat (60 * x1 + v122_11)))
                            refine r_iconst (pc := 167) (v := iv 1) dX12_trees_167 (by decide) ?_
                            refine t_icmp_eq (pc := 168) (tgt := 199) dX12_trees_168 (by decide) (by omega) (by omega) (fun c168 => ?_) (fun c168 => ?_)
                            · have pm168 : Me v75_9 (Int.toNat (tt (Int.toNat (60 * x1 + v122_11)))) := Me_bit.mp (by omega)
                              have hB : (Int.toNat v75_9).testBit ((sh tt (60 * x1)) (Int.toNat v122_11)).toNat = true := by rw [← eT]; exact pm168
                              refine r_iconst (pc := 199) (v := iv 1) dX12_trees_199 (by decide) ?_
                              refine r_goto (pc := 200) (tgt := 204) dX12_trees_200 (by decide) ?_
                              refine r_iadd (pc := 204) (v := iv (v122_10 + 1)) dX12_trees_204 (iv_add _ _) ?_
                              have heb := eb_y (by omega) (by assumption : v122_10 = sgm (ebF (sh fr (60 * x1)) (sh tt (60 * x1)) (Int.toNat v26_4) (Int.toNat v75_9)) (Int.toNat v122_11)) (Or.inl ⟨hA, hB⟩)
                              refine r_istore (pc := 205) (lv' := [(10, .int (iv (v122_10 + 1))), (12, .int (iv (60 * x1 + v122_11))), (0, .ref y), (1, .int (iv x1)), (2, .int (iv (sz (Int.toNat x1)))), (3, .int (iv v16_3)), (4, .int (iv v26_4)), (5, .int (iv z12)), (6, .long w75_6), (8, .int (iv z13)), (9, .int (iv v75_9)), (11, .int (iv v122_11))]) dX12_trees_205 (by decide) rfl ?_
                              refine r_iinc (pc := 207) (v := iv (v122_11 + 1)) (lv' := [(11, .int (iv (v122_11 + 1))), (10, .int (iv (v122_10 + 1))), (12, .int (iv (60 * x1 + v122_11))), (0, .ref y), (1, .int (iv x1)), (2, .int (iv (sz (Int.toNat x1)))), (3, .int (iv v16_3)), (4, .int (iv v26_4)), (5, .int (iv z12)), (6, .long w75_6), (8, .int (iv z13)), (9, .int (iv v75_9))]) dX12_trees_207 rfl (iv_add _ _) (by decide) rfl ?_
                              refine r_goto (pc := 210) (tgt := 122) dX12_trees_210 (by decide) ?_
                              refine Rn.pick (lv' := [(0, .ref y), (1, .int (iv x1)), (2, .int (iv (sz (Int.toNat x1)))), (3, .int (iv v16_3)), (4, .int (iv v26_4)), (5, .int (iv z12)), (6, .long w75_6), (8, .int (iv z13)), (9, .int (iv v75_9)), (10, .int (iv (v122_10 + 1))), (11, .int (iv (v122_11 + 1)))]) [3, 4, 5, 6, 7, 8, 9, 10, 11, 1, 0] rfl ?_
                              exact ih122 (Int.toNat (60 - (v122_11 + 1))) (by omega) _ ht26 (v122_10 + 1) (v122_11 + 1) ⟨by omega, by omega, by omega, by omega, by omega, by omega, by (first | exact heb | rfl)⟩ (by omega)
                            · have nm168 : ¬ Me v75_9 (Int.toNat (tt (Int.toNat (60 * x1 + v122_11)))) := fun h9 => absurd (Me_bit.mpr h9) (by omega)
                              have hB : (Int.toNat v75_9).testBit ((sh tt (60 * x1)) (Int.toNat v122_11)).toNat = false := Bool.eq_false_iff.mpr (fun g9 => nm168 (by rw [eT]; exact g9))
                              refine r_aload_n (pc := 171) dX12_trees_171 (i := 0) rfl rfl ?_
                              refine t_getE (pc := 172) (.ref (y + 6)) ht26 (rd_of RX_y) fX12_26 dX12_trees_172 rfl ?_
                              refine r_iload (pc := 175) dX12_trees_175 rfl ?_
                              refine t_ialdX (pc := 177) (t0 := 0) ht26 (rd_of RX_to) dX12_trees_177 rfl (by decide) (by omega) (fun b34 => ?_)
                              have rb34 := (show Rfx 7260 0 15 tt by assumption) (Int.toNat (60 * x1 + v122_11)) (by omega)
                              refine r_iload (pc := 178) dX12_trees_178 rfl ?_
                              refine t_icmp_ne (pc := 180) (tgt := 203) dX12_trees_180 (by decide) (by omega) (by omega) (fun c180 => ?_) (fun c180 => ?_)
                              · have hC : (sh tt (60 * x1)) (Int.toNat v122_11) ≠ (((Int.toNat v26_4) : Nat) : Int) := by rw [← eT]; omega
                                refine r_iconst (pc := 203) (v := iv 0) dX12_trees_203 (by decide) ?_
                                refine r_iadd (pc := 204) (v := iv (v122_10 + 0)) dX12_trees_204 (iv_add _ _) ?_
                                have heb := eb_n (by omega) (by assumption : v122_10 = sgm (ebF (sh fr (60 * x1)) (sh tt (60 * x1)) (Int.toNat v26_4) (Int.toNat v75_9)) (Int.toNat v122_11)) (fun g8 => g8.elim (fun g9 => by rw [hB] at g9; cases g9.2) (fun g9 => absurd g9.1 hC))
                                refine r_istore (pc := 205) (lv' := [(10, .int (iv (v122_10 + 0))), (12, .int (iv (60 * x1 + v122_11))), (0, .ref y), (1, .int (iv x1)), (2, .int (iv (sz (Int.toNat x1)))), (3, .int (iv v16_3)), (4, .int (iv v26_4)), (5, .int (iv z12)), (6, .long w75_6), (8, .int (iv z13)), (9, .int (iv v75_9)), (11, .int (iv v122_11))]) dX12_trees_205 (by decide) rfl ?_
                                refine r_iinc (pc := 207) (v := iv (v122_11 + 1)) (lv' := [(11, .int (iv (v122_11 + 1))), (10, .int (iv (v122_10 + 0))), (12, .int (iv (60 * x1 + v122_11))), (0, .ref y), (1, .int (iv x1)), (2, .int (iv (sz (Int.toNat x1)))), (3, .int (iv v16_3)), (4, .int (iv v26_4)), (5, .int (iv z12)), (6, .long w75_6), (8, .int (iv z13)), (9, .int (iv v75_9))]) dX12_trees_207 rfl (iv_add _ _) (by decide) rfl ?_
                                refine r_goto (pc := 210) (tgt := 122) dX12_trees_210 (by decide) ?_
                                refine Rn.pick (lv' := [(0, .ref y), (1, .int (iv x1)), (2, .int (iv (sz (Int.toNat x1)))), (3, .int (iv v16_3)), (4, .int (iv v26_4)), (5, .int (iv z12)), (6, .long w75_6), (8, .int (iv z13)), (9, .int (iv v75_9)), (10, .int (iv (v122_10 + 0))), (11, .int (iv (v122_11 + 1)))]) [3, 4, 5, 6, 7, 8, 9, 10, 11, 1, 0] rfl ?_
                                exact ih122 (Int.toNat (60 - (v122_11 + 1))) (by omega) _ ht26 (v122_10 + 0) (v122_11 + 1) ⟨by omega, by omega, by omega, by omega, by omega, by omega, by (first | exact heb | rfl)⟩ (by omega)
                              · have hC : (sh tt (60 * x1)) (Int.toNat v122_11) = (((Int.toNat v26_4) : Nat) : Int) := by rw [← eT]; omega
                                refine r_iload (pc := 183) dX12_trees_183 rfl ?_
                                refine r_aload_n (pc := 185) dX12_trees_185 (i := 0) rfl rfl ?_
                                refine t_getE (pc := 186) (.ref (y + 5)) ht26 (rd_of RX_y) fX12_23 dX12_trees_186 rfl ?_
                                refine r_iload (pc := 189) dX12_trees_189 rfl ?_
                                refine t_ialdX (pc := 191) (t0 := 0) ht26 (rd_of RX_from) dX12_trees_191 rfl (by decide) (by omega) (fun b35 => ?_)
                                have rb35 := (show Rfx 7260 0 15 fr by assumption) (Int.toNat (60 * x1 + v122_11)) (by omega)
                                have hq192_36 := shr_le (Int.toNat v75_9) (Int.toNat (fr (Int.toNat (60 * x1 + v122_11))))
                                refine r_ishr (pc := 192) (v := iv ((Int.toNat v75_9 >>> Int.toNat (fr (Int.toNat (60 * x1 + v122_11))) : Nat) : Int)) dX12_trees_192 (shr_e (by omega) (by omega)) ?_
                                refine r_iconst (pc := 193) (v := iv 1) dX12_trees_193 (by decide) ?_
                                refine r_iand (pc := 194) (v := iv (((Int.toNat v75_9 >>> Int.toNat (fr (Int.toNat (60 * x1 + v122_11))) : Nat) : Int) % 2)) dX12_trees_194 (and1_e _ (by omega)) ?_
                                have mb194 := @Me_bit v75_9 (fr (Int.toNat (60 * x1 + v122_11)))
                                refine r_iconst (pc := 195) (v := iv 1) dX12_trees_195 (by decide) ?_
                                refine t_icmp_ne (pc := 196) (tgt := 203) dX12_trees_196 (by decide) (by omega) (by omega) (fun c196 => ?_) (fun c196 => ?_)
                                · have nm196 : ¬ Me v75_9 (Int.toNat (fr (Int.toNat (60 * x1 + v122_11)))) := fun h9 => absurd (Me_bit.mpr h9) (by omega)
                                  have hD : (Int.toNat v75_9).testBit ((sh fr (60 * x1)) (Int.toNat v122_11)).toNat = false := Bool.eq_false_iff.mpr (fun g9 => nm196 (by rw [eF]; exact g9))
                                  refine r_iconst (pc := 203) (v := iv 0) dX12_trees_203 (by decide) ?_
                                  refine r_iadd (pc := 204) (v := iv (v122_10 + 0)) dX12_trees_204 (iv_add _ _) ?_
                                  have heb := eb_n (by omega) (by assumption : v122_10 = sgm (ebF (sh fr (60 * x1)) (sh tt (60 * x1)) (Int.toNat v26_4) (Int.toNat v75_9)) (Int.toNat v122_11)) (fun g8 => g8.elim (fun g9 => by rw [hB] at g9; cases g9.2) (fun g9 => by rw [hD] at g9; cases g9.2))
                                  refine r_istore (pc := 205) (lv' := [(10, .int (iv (v122_10 + 0))), (12, .int (iv (60 * x1 + v122_11))), (0, .ref y), (1, .int (iv x1)), (2, .int (iv (sz (Int.toNat x1)))), (3, .int (iv v16_3)), (4, .int (iv v26_4)), (5, .int (iv z12)), (6, .long w75_6), (8, .int (iv z13)), (9, .int (iv v75_9)), (11, .int (iv v122_11))]) dX12_trees_205 (by decide) rfl ?_
                                  refine r_iinc (pc := 207) (v := iv (v122_11 + 1)) (lv' := [(11, .int (iv (v122_11 + 1))), (10, .int (iv (v122_10 + 0))), (12, .int (iv (60 * x1 + v122_11))), (0, .ref y), (1, .int (iv x1)), (2, .int (iv (sz (Int.toNat x1)))), (3, .int (iv v16_3)), (4, .int (iv v26_4)), (5, .int (iv z12)), (6, .long w75_6), (8, .int (iv z13)), (9, .int (iv v75_9))]) dX12_trees_207 rfl (iv_add _ _) (by decide) rfl ?_
                                  refine r_goto (pc := 210) (tgt := 122) dX12_trees_210 (by decide) ?_
                                  refine Rn.pick (lv' := [(0, .ref y), (1, .int (iv x1)), (2, .int (iv (sz (Int.toNat x1)))), (3, .int (iv v16_3)), (4, .int (iv v26_4)), (5, .int (iv z12)), (6, .long w75_6), (8, .int (iv z13)), (9, .int (iv v75_9)), (10, .int (iv (v122_10 + 0))), (11, .int (iv (v122_11 + 1)))]) [3, 4, 5, 6, 7, 8, 9, 10, 11, 1, 0] rfl ?_
                                  exact ih122 (Int.toNat (60 - (v122_11 + 1))) (by omega) _ ht26 (v122_10 + 0) (v122_11 + 1) ⟨by omega, by omega, by omega, by omega, by omega, by omega, by (first | exact heb | rfl)⟩ (by omega)
                                · have pm196 : Me v75_9 (Int.toNat (fr (Int.toNat (60 * x1 + v122_11)))) := Me_bit.mp (by omega)
                                  have hD : (Int.toNat v75_9).testBit ((sh fr (60 * x1)) (Int.toNat v122_11)).toNat = true := by rw [← eF]; exact pm196
                                  refine r_iconst (pc := 199) (v := iv 1) dX12_trees_199 (by decide) ?_
                                  refine r_goto (pc := 200) (tgt := 204) dX12_trees_200 (by decide) ?_
                                  refine r_iadd (pc := 204) (v := iv (v122_10 + 1)) dX12_trees_204 (iv_add _ _) ?_
                                  have heb := eb_y (by omega) (by assumption : v122_10 = sgm (ebF (sh fr (60 * x1)) (sh tt (60 * x1)) (Int.toNat v26_4) (Int.toNat v75_9)) (Int.toNat v122_11)) (Or.inr ⟨hC, hD⟩)
                                  refine r_istore (pc := 205) (lv' := [(10, .int (iv (v122_10 + 1))), (12, .int (iv (60 * x1 + v122_11))), (0, .ref y), (1, .int (iv x1)), (2, .int (iv (sz (Int.toNat x1)))), (3, .int (iv v16_3)), (4, .int (iv v26_4)), (5, .int (iv z12)), (6, .long w75_6), (8, .int (iv z13)), (9, .int (iv v75_9)), (11, .int (iv v122_11))]) dX12_trees_205 (by decide) rfl ?_
                                  refine r_iinc (pc := 207) (v := iv (v122_11 + 1)) (lv' := [(11, .int (iv (v122_11 + 1))), (10, .int (iv (v122_10 + 1))), (12, .int (iv (60 * x1 + v122_11))), (0, .ref y), (1, .int (iv x1)), (2, .int (iv (sz (Int.toNat x1)))), (3, .int (iv v16_3)), (4, .int (iv v26_4)), (5, .int (iv z12)), (6, .long w75_6), (8, .int (iv z13)), (9, .int (iv v75_9))]) dX12_trees_207 rfl (iv_add _ _) (by decide) rfl ?_
                                  refine r_goto (pc := 210) (tgt := 122) dX12_trees_210 (by decide) ?_
                                  refine Rn.pick (lv' := [(0, .ref y), (1, .int (iv x1)), (2, .int (iv (sz (Int.toNat x1)))), (3, .int (iv v16_3)), (4, .int (iv v26_4)), (5, .int (iv z12)), (6, .long w75_6), (8, .int (iv z13)), (9, .int (iv v75_9)), (10, .int (iv (v122_10 + 1))), (11, .int (iv (v122_11 + 1)))]) [3, 4, 5, 6, 7, 8, 9, 10, 11, 1, 0] rfl ?_
                                  exact ih122 (Int.toNat (60 - (v122_11 + 1))) (by omega) _ ht26 (v122_10 + 1) (v122_11 + 1) ⟨by omega, by omega, by omega, by omega, by omega, by omega, by (first | exact heb | rfl)⟩ (by omega)
                      refine Rn.pick (lv' := [(0, .ref y), (1, .int (iv x1)), (2, .int (iv (sz (Int.toNat x1)))), (3, .int (iv v16_3)), (4, .int (iv v26_4)), (5, .int (iv z12)), (6, .long w75_6), (8, .int (iv z13)), (9, .int (iv v75_9)), (10, .int (iv 0)), (11, .int (iv 0))]) [2, 3, 4, 5, 6, 7, 8, 9, 10, 1, 0] rfl ?_
                      exact B122 (Int.toNat (60 - 0)) _ ht75 0 0 ⟨by omega, by omega, by omega, by omega, by omega, by omega, by (first | exact heb | rfl)⟩ (by omega)
            refine Rn.pick (lv' := [(0, .ref y), (1, .int (iv x1)), (2, .int (iv (sz (Int.toNat x1)))), (3, .int (iv v16_3)), (4, .int (iv v26_4)), (5, .int (iv z12)), (6, .long (0 : Int64)), (8, .int (iv z13)), (9, .int (iv z12))]) [4, 5, 6, 7, 8, 3, 2, 1, 0] rfl ?_
            exact B75 (Int.toNat (z12)) _ ht26 z12 (0 : Int64) ⟨by omega, by omega, by omega, by omega, by (first | exact hsu1 | exact fun j g => g), by (first | exact htr | exact htr0)⟩ (by omega)
          · refine r_lconst (pc := 56) (v := 1) dX12_trees_56 (by decide) ?_
            have hk56 : (1 : Int64).toInt = 1 := by decide
            refine r_goto (pc := 57) (tgt := 61) dX12_trees_57 (by decide) ?_
            refine r_lstore (pc := 61) (lv' := [(6, .long (1 : Int64)), (5, .int (iv z12)), (0, .ref y), (1, .int (iv x1)), (2, .int (iv (sz (Int.toNat x1)))), (3, .int (iv v16_3)), (4, .int (iv v26_4))]) dX12_trees_61 (by decide) rfl ?_
            refine r_iload (pc := 63) dX12_trees_63 rfl ?_
            refine r_iload (pc := 65) dX12_trees_65 rfl ?_
            refine r_ineg (pc := 67) (v := iv (-z12)) dX12_trees_67 (iv_neg _) ?_
            obtain ⟨z37, hz37, bz37⟩ := and_2 z12 (-z12) (by omega) (by omega)
            refine r_iand (pc := 68) (v := iv z37) dX12_trees_68 hz37 ?_
            have mez37 := Me_and hz37 (by omega) (by omega) (by omega)
            obtain ⟨sx, hsx⟩ : ∃ sx : Nat, sx = 0 := ⟨0, rfl⟩
            have hrz : z12 = 0 := by omega
            refine r_istore (pc := 69) (lv' := [(8, .int (iv z37)), (6, .long (1 : Int64)), (5, .int (iv z12)), (0, .ref y), (1, .int (iv x1)), (2, .int (iv (sz (Int.toNat x1)))), (3, .int (iv v16_3)), (4, .int (iv v26_4))]) dX12_trees_69 (by decide) rfl ?_
            refine r_iload (pc := 71) dX12_trees_71 rfl ?_
            refine r_istore (pc := 73) (lv' := [(9, .int (iv z12)), (8, .int (iv z37)), (6, .long (1 : Int64)), (5, .int (iv z12)), (0, .ref y), (1, .int (iv x1)), (2, .int (iv (sz (Int.toNat x1)))), (3, .int (iv v16_3)), (4, .int (iv v26_4))]) dX12_trees_73 (by decide) rfl ?_
            have B75 : ∀ k : Nat, ∀ hp75 : MH, Tw (RX Γ cI cJ cZ y rf cn nm so sz dr mn fr tt wt co nu sa wo ln hw ro qi qc nf nt nw nc cl nx ie be sd bl bs wy ra rb lb bg os js ls sp16 jw go de yb ah im) hp75 → ∀  (v75_9 : Int) (w75_6 : Int64), 0 ≤ v75_9 ∧ v75_9 ≤ 65535 ∧ (0 ≤ v75_9) ∧ (v75_9 ≤ z12) ∧ (w75_6 = 1) → v75_9 ≤ (k : Int) → Rn (gG D cI cJ cZ cT lo b L xs) mX12_trees d 75 [(0, .ref y), (1, .int (iv x1)), (2, .int (iv (sz (Int.toNat x1)))), (3, .int (iv v16_3)), (4, .int (iv v26_4)), (5, .int (iv z12)), (6, .long w75_6), (8, .int (iv z37)), (9, .int (iv v75_9))] [] hp75 n 0 0 Po9 := by
              refine lpS _ ?_
              intro k75 ih75 hp75 ht75 v75_9 w75_6 hf75 hm75
              obtain ⟨hf75_0, hf75_1, hf75_2, hf75_3, ha75_4⟩ := hf75
              refine r_iload (pc := 75) dX12_trees_75 rfl ?_
              refine t_if_le (pc := 77) (tgt := 261) dX12_trees_77 (by decide) (by omega) (fun c77 => ?_) (fun c77 => ?_)
              · have hw1 : w75_6.toInt = 1 := by rw [(by assumption : w75_6 = 1)]; exact hk56
                refine r_aload_n (pc := 261) dX12_trees_261 (i := 0) rfl rfl ?_
                refine t_getE (pc := 262) (.ref (y + 36)) ht75 (rd_of RX_y) fX12_118 dX12_trees_262 rfl ?_
                refine r_iload_n (pc := 265) dX12_trees_265 (i := 3) rfl rfl ?_
                refine r_lload (pc := 266) dX12_trees_266 rfl ?_
                refine t_lastX (pc := 268) (t0 := 1) ht75 RX_spans dX12_trees_268 rfl (by decide) (by omega) (fun hp38 ht39 => ?_)
                have ht40 := RXw_sp ht39
                have hsn : spT (spI (fuj sp16 (Int.toNat v16_3) w75_6)) (ebA (Int.toNat (mn (Int.toNat x1))) (sh fr (60 * x1)) (sh tt (60 * x1))) 1000000007 (v16_3 + 1) := by rw [spi_up]; exact spt_up (by assumption : spT (spI sp16) (ebA (Int.toNat (mn (Int.toNat x1))) (sh fr (60 * x1)) (sh tt (60 * x1))) 1000000007 v16_3) (by omega) (by rw [hw1]; omega) (spr_1 hmr hlo hz48 hrz (by omega) hw1)
                refine r_iinc (pc := 269) (v := iv (v16_3 + 1)) (lv' := [(3, .int (iv (v16_3 + 1))), (0, .ref y), (1, .int (iv x1)), (2, .int (iv (sz (Int.toNat x1)))), (4, .int (iv v26_4)), (5, .int (iv z12)), (6, .long w75_6), (8, .int (iv z37)), (9, .int (iv v75_9))]) dX12_trees_269 rfl (iv_add _ _) (by decide) rfl ?_
                refine r_goto (pc := 272) (tgt := 16) dX12_trees_272 (by decide) ?_
                refine Rn.pick (lv' := [(0, .ref y), (1, .int (iv x1)), (2, .int (iv (sz (Int.toNat x1)))), (3, .int (iv (v16_3 + 1)))]) [1, 2, 3, 0] rfl ?_
                exact ih16 (Int.toNat (65536 - (v16_3 + 1))) (by omega) (fuj sp16 (Int.toNat v16_3) w75_6) _ ht40 (v16_3 + 1) ⟨by omega, by omega, by omega, by (first | exact hsn | exact spt_1)⟩ (by omega)
              · exfalso
                omega
            refine Rn.pick (lv' := [(0, .ref y), (1, .int (iv x1)), (2, .int (iv (sz (Int.toNat x1)))), (3, .int (iv v16_3)), (4, .int (iv v26_4)), (5, .int (iv z12)), (6, .long (1 : Int64)), (8, .int (iv z37)), (9, .int (iv z12))]) [4, 5, 6, 7, 8, 3, 2, 1, 0] rfl ?_
            exact B75 (Int.toNat (z12)) _ ht26 z12 (1 : Int64) ⟨by omega, by omega, by omega, by omega, by rfl⟩ (by omega)
        · have nm32 : ¬ Me v16_3 (Int.toNat v26_4) := fun h9 => absurd (Me_bit.mpr h9) (by omega)
          have hlw := lw_up hlo (by omega) nm32
          have hrx2 : v26_4 < (ix : Int) := Classical.byContradiction (fun g => nm32 (by rw [show Int.toNat v26_4 = ix by omega]; exact hix))
          refine r_iinc (pc := 35) (v := iv (v26_4 + 1)) (lv' := [(4, .int (iv (v26_4 + 1))), (0, .ref y), (1, .int (iv x1)), (2, .int (iv (sz (Int.toNat x1)))), (3, .int (iv v16_3))]) dX12_trees_35 rfl (iv_add _ _) (by decide) rfl ?_
          refine r_goto (pc := 38) (tgt := 26) dX12_trees_38 (by decide) ?_
          refine Rn.pick (lv' := [(0, .ref y), (1, .int (iv x1)), (2, .int (iv (sz (Int.toNat x1)))), (3, .int (iv v16_3)), (4, .int (iv (v26_4 + 1)))]) [1, 2, 3, 4, 0] rfl ?_
          exact ih26 (Int.toNat (15 - (v26_4 + 1))) (by omega) _ ht26 (v26_4 + 1) ⟨by omega, by omega, by (first | exact hlw | (intro j hj; exfalso; omega))⟩ (by omega)
      refine Rn.pick (lv' := [(0, .ref y), (1, .int (iv x1)), (2, .int (iv (sz (Int.toNat x1)))), (3, .int (iv v16_3)), (4, .int (iv 0))]) [1, 2, 3, 4, 0] rfl ?_
      exact B26 (Int.toNat (15 - 0)) _ ht16 0 ⟨by omega, by omega, by (first | exact hlw | (intro j hj; exfalso; omega))⟩ (by omega)
  refine Rn.pick (lv' := [(0, .ref y), (1, .int (iv x1)), (2, .int (iv (sz (Int.toNat x1)))), (3, .int (iv 1))]) [2, 3, 1, 0] rfl ?_
  exact B16 (Int.toNat (65536 - 1)) (fuj sp (Int.toNat 0) (0 : Int64)) _ ht4 1 ⟨by omega, by omega, by omega, by (first | exact hsn | exact spt_1)⟩ (by omega)
