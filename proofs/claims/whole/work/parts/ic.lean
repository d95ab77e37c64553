theorem pwi_9 {h : Int} : 0 ≤ pwI 1000000005 1000000007 h ∧ pwI 1000000005 1000000007 h < 1000000007 := by
  have h1 := pwi_b (e := 1000000005) (p := 1000000007) (h := h) (by decide)
  generalize pwI 1000000005 1000000007 h = z at h1 ⊢
  have e : ((1000000007 : Nat) : Int) = 1000000007 := rfl
  rw [e] at h1
  exact h1
theorem l_ps {x y : Int64} (hx : 0 ≤ x.toInt ∧ x.toInt < 1000000007) (hy : 0 ≤ y.toInt ∧ y.toInt < 1000000007) : (x + (1000000007 : Int64) - y).toInt = x.toInt + 1000000007 - y.toInt := by
  have hk : (1000000007 : Int64).toInt = 1000000007 := by decide
  have h1 := l_add (x := x) (y := (1000000007 : Int64)) (by rw [hk]; omega)
  rw [hk] at h1
  rw [l_subx (by rw [h1]; omega), h1]
theorem ps_0 {x y : Int} (hx : 0 ≤ x ∧ x < 1000000007) (hy : 0 ≤ y ∧ y < 1000000007) : 0 ≤ x + 1000000007 - y := by omega
theorem l_pn {y : Int64} (hy : 0 < y.toInt ∧ y.toInt < 1000000007) : ((1000000007 : Int64) - y).toInt = 1000000007 - y.toInt ∧ 0 ≤ ((1000000007 : Int64) - y).toInt ∧ ((1000000007 : Int64) - y).toInt < 1000000007 := by
  have hk : (1000000007 : Int64).toInt = 1000000007 := by decide
  have h1 := l_subx (x := (1000000007 : Int64)) (y := y) (by rw [hk]; omega)
  rw [hk] at h1
  refine ⟨h1, ?_⟩
  rw [h1]
  omega
set_option maxHeartbeats 4000000 in
set_option maxRecDepth 100000 in
theorem c_X8_pivotx {D : va_G} {cI cJ cZ cT : ClassId} {lo b L : Nat} {xs : Nat → Int32} {hp : MH} {n d : Nat} {Γ : TG} {s : Nat} {tb : Nat → Int64} {x1 x2 : Int} (hd0 : 1 ≤ d) (hO : rd Γ s (tO 8 [fE (.ref (s + 1))])) (ht : Tw (ov Γ (s + 1) (xJ cJ 256 tb)) hp) (hx1 : 0 ≤ x1 ∧ x1 ≤ 15) (hx2 : 0 ≤ x2 ∧ x2 < x1) (hR : tbR tb (Int.toNat x1)) : Mt (gG D cI cJ cZ cT lo b L xs) mX8_pivot d 0 0 [.ref s, .int (iv x1), .int (iv x2)] hp n (fun r9 hp1 n1 => n1 = n ∧ ∃ (tb1 : Nat → Int64) (q : Int64), Tw (ov Γ (s + 1) (xJ cJ 256 tb1)) hp1 ∧ r9 = some (.long q) ∧ (0 ≤ q.toInt ∧ q.toInt < 1000000007) ∧ tbR tb1 (Int.toNat x1) ∧ dtm ((Int.toNat x1) - (Int.toNat x2)) (blk tb (Int.toNat x2)) % 1000000007 = (q.toInt * dtm ((Int.toNat x1) - ((Int.toNat x2) + 1)) (blk tb1 ((Int.toNat x2) + 1))) % 1000000007) := by
  refine Mt.of rfl (Nat.le_of_ble_eq_true rfl) ?_
  refine Rn.pick (lv' := [(0, .ref s), (1, .int (iv x1)), (2, .int (iv x2))]) [0, 1, 2] rfl ?_
  refine r_iload_n (pc := 0) dX8_pivot_0 (i := 2) rfl rfl ?_
  refine r_istore_n (pc := 1) (lv' := [(3, .int (iv x2)), (0, .ref s), (1, .int (iv x1)), (2, .int (iv x2))]) dX8_pivot_1 (i := 3) rfl (by decide) rfl ?_
  refine r_iload_n (pc := 2) dX8_pivot_2 (i := 2) rfl rfl ?_
  refine r_istore (pc := 3) (lv' := [(4, .int (iv x2)), (3, .int (iv x2)), (0, .ref s), (1, .int (iv x1)), (2, .int (iv x2))]) dX8_pivot_3 (by decide) rfl ?_
  have B5 : ∀ k : Nat, ∀ hp5 : MH, Tw (ov Γ (s + 1) (xJ cJ 256 tb)) hp5 → ∀  (v5_3 : Int) (v5_4 : Int), 0 ≤ v5_3 ∧ v5_3 ≤ 14 ∧ 0 ≤ v5_4 ∧ v5_4 ≤ 15 ∧ x2 ≤ v5_4 ∧ (x2 ≤ v5_3 ∧ v5_3 < x1) ∧ (x2 ≤ v5_4 ∧ v5_4 ≤ x1) ∧ (pvI tb (Int.toNat x2) (Int.toNat x1) v5_3 v5_4) → 15 - v5_4 ≤ (k : Int) → Rn (gG D cI cJ cZ cT lo b L xs) mX8_pivot d 5 [(0, .ref s), (1, .int (iv x1)), (2, .int (iv x2)), (3, .int (iv v5_3)), (4, .int (iv v5_4))] [] hp5 n 0 0 (fun r9 hp1 n1 => n1 = n ∧ ∃ (tb1 : Nat → Int64) (q : Int64), Tw (ov Γ (s + 1) (xJ cJ 256 tb1)) hp1 ∧ r9 = some (.long q) ∧ (0 ≤ q.toInt ∧ q.toInt < 1000000007) ∧ tbR tb1 (Int.toNat x1) ∧ dtm ((Int.toNat x1) - (Int.toNat x2)) (blk tb (Int.toNat x2)) % 1000000007 = (q.toInt * dtm ((Int.toNat x1) - ((Int.toNat x2) + 1)) (blk tb1 ((Int.toNat x2) + 1))) % 1000000007) := by
    refine lpS _ ?_
    intro k5 ih5 hp5 ht5 v5_3 v5_4 hf5 hm5
    obtain ⟨hf5_0, hf5_1, hf5_2, hf5_3, hf5_4, hf5_5, hf5_6, ha5_7⟩ := hf5
    refine r_iload (pc := 5) dX8_pivot_5 rfl ?_
    refine r_iload_n (pc := 7) dX8_pivot_7 (i := 1) rfl rfl ?_
    have B36 : ∀ hp36 : MH, Tw (ov Γ (s + 1) (xJ cJ 256 tb)) hp36 → (x2 ≤ v5_3 ∧ v5_3 < x1) ∧ (pvE tb (Int.toNat x2) (Int.toNat x1) v5_3) → Rn (gG D cI cJ cZ cT lo b L xs) mX8_pivot d 36 [(0, .ref s), (1, .int (iv x1)), (2, .int (iv x2)), (3, .int (iv v5_3))] [] hp36 n 0 0 (fun r9 hp1 n1 => n1 = n ∧ ∃ (tb1 : Nat → Int64) (q : Int64), Tw (ov Γ (s + 1) (xJ cJ 256 tb1)) hp1 ∧ r9 = some (.long q) ∧ (0 ≤ q.toInt ∧ q.toInt < 1000000007) ∧ tbR tb1 (Int.toNat x1) ∧ dtm ((Int.toNat x1) - (Int.toNat x2)) (blk tb (Int.toNat x2)) % 1000000007 = (q.toInt * dtm ((Int.toNat x1) - ((Int.toNat x2) + 1)) (blk tb1 ((Int.toNat x2) + 1))) % 1000000007) := by
      intro hp36 ht36 hf36
      obtain ⟨hf36_0, ha36_1⟩ := hf36
      refine r_aload_n (pc := 36) dX8_pivot_36 (i := 0) rfl rfl ?_
      have hpe := (by assumption : pvE tb (Int.toNat x2) (Int.toNat x1) v5_3)
      have hpb := pve_b hpe
      refine t_getE (pc := 37) (.ref (s + 1)) ht36 (rd_ov (by omega) hO) fX8_9 dX8_pivot_37 rfl ?_
      refine r_iload_n (pc := 40) dX8_pivot_40 (i := 3) rfl rfl ?_
      refine r_bipush (pc := 41) (v := iv 16) dX8_pivot_41 (by decide) ?_
      refine r_imul (pc := 43) (v := iv (v5_3 * 16)) dX8_pivot_43 (iv_mul _ _) ?_
      refine r_iload_n (pc := 44) dX8_pivot_44 (i := 2) rfl rfl ?_
      refine r_iadd (pc := 45) (v := iv ((v5_3 * 16) + x2)) dX8_pivot_45 (iv_add _ _) ?_
      refine t_laldX (pc := 46) (t0 := 1) ht36 (rd_of (ov_s _ _ _)) dX8_pivot_46 rfl (by decide) (by omega) ?_
      have e46 : tb (Int.toNat ((v5_3 * 16) + x2)) = tb (16 * Int.toNat v5_3 + (Int.toNat x2)) := congrArg tb (by omega)
      generalize hh46 : tb (Int.toNat ((v5_3 * 16) + x2)) = hd9 at e46 ⊢
      refine r_lstore (pc := 47) (lv' := [(4, .long hd9), (0, .ref s), (1, .int (iv x1)), (2, .int (iv x2)), (3, .int (iv v5_3))]) dX8_pivot_47 (by decide) rfl ?_
      refine r_lload (pc := 49) dX8_pivot_49 rfl ?_
      refine r_lconst (pc := 51) (v := 0) dX8_pivot_51 (by decide) ?_
      have hk51 : (0 : Int64).toInt = 0 := by decide
      refine r_lcmp (pc := 52) dX8_pivot_52 ?_
      refine t_lif_ne (pc := 53) (tgt := 58) dX8_pivot_53 (by decide) (fun c53 => ?_) (fun c53 => ?_)
      · have hdz : hd9.toInt ≠ 0 := by rw [hk51] at c53; exact c53
        refine r_iload_n (pc := 58) dX8_pivot_58 (i := 3) rfl rfl ?_
        refine r_iload_n (pc := 59) dX8_pivot_59 (i := 2) rfl rfl ?_
        have B70 : ∀ tb70 : Nat → Int64, ∀ hp70 : MH, Tw (ov Γ (s + 1) (xJ cJ 256 tb70)) hp70 → (x2 ≤ v5_3 ∧ v5_3 < x1) ∧ (pzI tb tb70 (Int.toNat x2) (Int.toNat x1) v5_3 hd9.toInt) → Rn (gG D cI cJ cZ cT lo b L xs) mX8_pivot d 70 [(0, .ref s), (1, .int (iv x1)), (2, .int (iv x2)), (3, .int (iv v5_3)), (4, .long hd9)] [] hp70 n 0 0 (fun r9 hp1 n1 => n1 = n ∧ ∃ (tb1 : Nat → Int64) (q : Int64), Tw (ov Γ (s + 1) (xJ cJ 256 tb1)) hp1 ∧ r9 = some (.long q) ∧ (0 ≤ q.toInt ∧ q.toInt < 1000000007) ∧ tbR tb1 (Int.toNat x1) ∧ dtm ((Int.toNat x1) - (Int.toNat x2)) (blk tb (Int.toNat x2)) % 1000000007 = (q.toInt * dtm ((Int.toNat x1) - ((Int.toNat x2) + 1)) (blk tb1 ((Int.toNat x2) + 1))) % 1000000007) := by
          intro tb70 hp70 ht70 hf70
          obtain ⟨hf70_0, ha70_1⟩ := hf70
          refine r_lload (pc := 70) dX8_pivot_70 rfl ?_
          have hpz := (by assumption : pzI tb tb70 (Int.toNat x2) (Int.toNat x1) v5_3 hd9.toInt)
          obtain ⟨hz1, hz2, hz3, -, -⟩ := id hpz
          have hel0 : elI tb70 tb70 (Int.toNat x2) (Int.toNat x1) (Int.toNat (x2 + 1)) := by
            rw [show Int.toNat (x2 + 1) = (Int.toNat x2) + 1 by omega]
            exact el_0 hz1
          refine r_ldc2 (pc := 72) (v := 1000000005) dX8_pivot_72 kX8_134 ?_
          have hk72 : (1000000005 : Int64).toInt = 1000000005 := by decide
          refine t_callSJ (pc := 75) (as := [.long hd9, .long (1000000005 : Int64)]) (st := []) kX8_136 dX8_pivot_75 (c_X8_powerx (d := d - 1) (B := Int.toNat hd9.toInt) (E := 1000000005) (by omega) ht70 e9_bits (by decide) (by omega) (by omega)) rfl (by omega) (Nat.le_of_ble_eq_true rfl) rfl (fun hp2 iv9 ht3 hiv => ?_)
          rw [show ((Int.toNat hd9.toInt : Nat) : Int) = hd9.toInt by omega] at hiv
          have hinv := inv9 hz3.1 hz3.2
          rw [← hiv] at hinv
          have hivb := pwi_9 (h := hd9.toInt)
          rw [← hiv] at hivb
          clear hiv hk72
          replace hinv := hid_i hinv
          have hKN : (Int.toNat x2) < (Int.toNat x1) := by omega
          refine r_lstore (pc := 78) (lv' := [(6, .long iv9), (0, .ref s), (1, .int (iv x1)), (2, .int (iv x2)), (3, .int (iv v5_3)), (4, .long hd9)]) dX8_pivot_78 (by decide) rfl ?_
          refine r_iload_n (pc := 80) dX8_pivot_80 (i := 2) rfl rfl ?_
          refine r_iconst (pc := 81) (v := iv 1) dX8_pivot_81 (by decide) ?_
          refine r_iadd (pc := 82) (v := iv (x2 + 1)) dX8_pivot_82 (iv_add _ _) ?_
          refine r_istore (pc := 83) (lv' := [(8, .int (iv (x2 + 1))), (6, .long iv9), (0, .ref s), (1, .int (iv x1)), (2, .int (iv x2)), (3, .int (iv v5_3)), (4, .long hd9)]) dX8_pivot_83 (by decide) rfl ?_
          have B85 : ∀ k : Nat, ∀ tb85 : Nat → Int64, ∀ hp85 : MH, Tw (ov Γ (s + 1) (xJ cJ 256 tb85)) hp85 → ∀  (v85_8 : Int), 1 ≤ v85_8 ∧ v85_8 ≤ 15 ∧ x2 + 1 ≤ v85_8 ∧ (v85_8 ≤ x1) ∧ (x2 + 1 ≤ v85_8) ∧ (elI tb70 tb85 (Int.toNat x2) (Int.toNat x1) (Int.toNat v85_8)) → 15 - v85_8 ≤ (k : Int) → Rn (gG D cI cJ cZ cT lo b L xs) mX8_pivot d 85 [(0, .ref s), (1, .int (iv x1)), (2, .int (iv x2)), (3, .int (iv v5_3)), (4, .long hd9), (6, .long iv9), (8, .int (iv v85_8))] [] hp85 n 0 0 (fun r9 hp1 n1 => n1 = n ∧ ∃ (tb1 : Nat → Int64) (q : Int64), Tw (ov Γ (s + 1) (xJ cJ 256 tb1)) hp1 ∧ r9 = some (.long q) ∧ (0 ≤ q.toInt ∧ q.toInt < 1000000007) ∧ tbR tb1 (Int.toNat x1) ∧ dtm ((Int.toNat x1) - (Int.toNat x2)) (blk tb (Int.toNat x2)) % 1000000007 = (q.toInt * dtm ((Int.toNat x1) - ((Int.toNat x2) + 1)) (blk tb1 ((Int.toNat x2) + 1))) % 1000000007) := by
            refine lpS _ ?_
            intro k85 ih85 tb85 hp85 ht85 v85_8 hf85 hm85
            obtain ⟨hf85_0, hf85_1, hf85_2, hf85_3, hf85_4, ha85_5⟩ := hf85
            refine r_iload (pc := 85) dX8_pivot_85 rfl ?_
            refine r_iload_n (pc := 87) dX8_pivot_87 (i := 1) rfl rfl ?_
            refine t_icmp_ge (pc := 88) (tgt := 198) dX8_pivot_88 (by decide) (by omega) (by omega) (fun c88 => ?_) (fun c88 => ?_)
            · have hRN : (Int.toNat x1) ≤ Int.toNat v85_8 := by omega
              refine r_iload_n (pc := 198) dX8_pivot_198 (i := 3) rfl rfl ?_
              refine r_iload_n (pc := 199) dX8_pivot_199 (i := 2) rfl rfl ?_
              refine t_icmp_ne (pc := 200) (tgt := 208) dX8_pivot_200 (by decide) (by omega) (by omega) (fun c200 => ?_) (fun c200 => ?_)
              · have hrk9 : v5_3 ≠ ((((Int.toNat x2) : Nat)) : Int) := by omega
                refine r_ldc2 (pc := 208) (v := 1000000007) dX8_pivot_208 kX8_116 ?_
                have hk208 : (1000000007 : Int64).toInt = 1000000007 := by decide
                refine r_lload (pc := 211) dX8_pivot_211 rfl ?_
                refine r_lsub (pc := 213) (v := (1000000007 : Int64) - hd9) dX8_pivot_213 rfl ?_
                have hsb := l_pn (y := hd9) hz3
                exact r_lret (pc := 214) dX8_pivot_214 rfl ⟨rfl, tb85, _, ht85, rfl, hsb.2, el_R (by assumption : elI tb70 tb85 (Int.toNat x2) (Int.toNat x1) (Int.toNat v85_8)), pz_end hpz (by assumption : elI tb70 tb85 (Int.toNat x2) (Int.toNat x1) (Int.toNat v85_8)) hKN hRN (Or.inr ⟨hrk9, hsb.1⟩)⟩
              · have hrk9 : v5_3 = ((((Int.toNat x2) : Nat)) : Int) := by omega
                refine r_lload (pc := 203) dX8_pivot_203 rfl ?_
                refine r_goto (pc := 205) (tgt := 214) dX8_pivot_205 (by decide) ?_
                exact r_lret (pc := 214) dX8_pivot_214 rfl ⟨rfl, tb85, _, ht85, rfl, ⟨Int.le_of_lt hz3.1, hz3.2⟩, el_R (by assumption : elI tb70 tb85 (Int.toNat x2) (Int.toNat x1) (Int.toNat v85_8)), pz_end hpz (by assumption : elI tb70 tb85 (Int.toNat x2) (Int.toNat x1) (Int.toNat v85_8)) hKN hRN (Or.inl ⟨hrk9, rfl⟩)⟩
            · refine r_aload_n (pc := 91) dX8_pivot_91 (i := 0) rfl rfl ?_
              refine t_getE (pc := 92) (.ref (s + 1)) ht85 (rd_ov (by omega) hO) fX8_9 dX8_pivot_92 rfl ?_
              refine r_iload (pc := 95) dX8_pivot_95 rfl ?_
              refine r_bipush (pc := 97) (v := iv 16) dX8_pivot_97 (by decide) ?_
              refine r_imul (pc := 99) (v := iv (v85_8 * 16)) dX8_pivot_99 (iv_mul _ _) ?_
              refine r_iload_n (pc := 100) dX8_pivot_100 (i := 2) rfl rfl ?_
              refine r_iadd (pc := 101) (v := iv ((v85_8 * 16) + x2)) dX8_pivot_101 (iv_add _ _) ?_
              refine t_laldX (pc := 102) (t0 := 1) ht85 (rd_of (ov_s _ _ _)) dX8_pivot_102 rfl (by decide) (by omega) ?_
              have hel := (by assumption : elI tb70 tb85 (Int.toNat x2) (Int.toNat x1) (Int.toNat v85_8))
              have e102 : tb85 (Int.toNat ((v85_8 * 16) + x2)) = tb85 (16 * Int.toNat v85_8 + (Int.toNat x2)) := congrArg tb85 (by omega)
              have hR102 := el_R hel (Int.toNat v85_8) (Int.toNat x2) (by omega) (by omega)
              rw [← e102] at hR102
              refine r_lload (pc := 103) dX8_pivot_103 rfl ?_
              refine r_lmul (pc := 105) (v := (tb85 (Int.toNat ((v85_8 * 16) + x2))) * iv9) dX8_pivot_105 rfl ?_
              refine r_ldc2 (pc := 106) (v := 1000000007) dX8_pivot_106 kX8_116 ?_
              have hk106 : (1000000007 : Int64).toInt = 1000000007 := by decide
              have hml106 := l_mul (x := (tb85 (Int.toNat ((v85_8 * 16) + x2)))) (y := iv9) (mul_pp hR102 hivb)
              have hmn106 := Int.mul_nonneg (hR102).1 (hivb).1
              refine r_lrem (pc := 109) (v := ((tb85 (Int.toNat ((v85_8 * 16) + x2))) * iv9) - ((tb85 (Int.toNat ((v85_8 * 16) + x2))) * iv9) / (1000000007 : Int64) * (1000000007 : Int64)) dX8_pivot_109 (by decide) rfl ?_
              have hrm109 : (((tb85 (Int.toNat ((v85_8 * 16) + x2))) * iv9) - ((tb85 (Int.toNat ((v85_8 * 16) + x2))) * iv9) / (1000000007 : Int64) * (1000000007 : Int64)).toInt = ((tb85 (Int.toNat ((v85_8 * 16) + x2))).toInt * iv9.toInt) % 1000000007 := by rw [l_rem (by rw [hml106]; exact hmn106) (by omega), hml106, hk106]
              have hrb109 : 0 ≤ (((tb85 (Int.toNat ((v85_8 * 16) + x2))) * iv9) - ((tb85 (Int.toNat ((v85_8 * 16) + x2))) * iv9) / (1000000007 : Int64) * (1000000007 : Int64)).toInt ∧ (((tb85 (Int.toNat ((v85_8 * 16) + x2))) * iv9) - ((tb85 (Int.toNat ((v85_8 * 16) + x2))) * iv9) / (1000000007 : Int64) * (1000000007 : Int64)).toInt < 1000000007 := by rw [hrm109]; exact ⟨Int.emod_nonneg _ (by decide), Int.emod_lt_of_pos _ (by decide)⟩
              generalize ((tb85 (Int.toNat ((v85_8 * 16) + x2))) * iv9) - ((tb85 (Int.toNat ((v85_8 * 16) + x2))) * iv9) / (1000000007 : Int64) * (1000000007 : Int64) = w109 at hrm109 hrb109 ⊢
              refine r_lstore (pc := 110) (lv' := [(9, .long w109), (0, .ref s), (1, .int (iv x1)), (2, .int (iv x2)), (3, .int (iv v5_3)), (4, .long hd9), (6, .long iv9), (8, .int (iv v85_8))]) dX8_pivot_110 (by decide) rfl ?_
              rw [e102] at hrm109
              replace hrm109 := hid_i hrm109
              clear hml106 hmn106
              have hei0 : eiI tb85 tb85 (Int.toNat x2) (Int.toNat x1) (Int.toNat v85_8) w109.toInt (Int.toNat x2) := ei_0 (el_R hel)
              refine r_iload_n (pc := 112) dX8_pivot_112 (i := 2) rfl rfl ?_
              refine r_istore (pc := 113) (lv' := [(11, .int (iv x2)), (9, .long w109), (0, .ref s), (1, .int (iv x1)), (2, .int (iv x2)), (3, .int (iv v5_3)), (4, .long hd9), (6, .long iv9), (8, .int (iv v85_8))]) dX8_pivot_113 (by decide) rfl ?_
              have B115 : ∀ k : Nat, ∀ tb115 : Nat → Int64, ∀ hp115 : MH, Tw (ov Γ (s + 1) (xJ cJ 256 tb115)) hp115 → ∀  (v115_11 : Int), 0 ≤ v115_11 ∧ v115_11 ≤ 15 ∧ x2 ≤ v115_11 ∧ (v115_11 ≤ x1) ∧ (x2 ≤ v115_11) ∧ (eiI tb85 tb115 (Int.toNat x2) (Int.toNat x1) (Int.toNat v85_8) w109.toInt (Int.toNat v115_11)) → 15 - v115_11 ≤ (k : Int) → Rn (gG D cI cJ cZ cT lo b L xs) mX8_pivot d 115 [(0, .ref s), (1, .int (iv x1)), (2, .int (iv x2)), (3, .int (iv v5_3)), (4, .long hd9), (6, .long iv9), (8, .int (iv v85_8)), (9, .long w109), (11, .int (iv v115_11))] [] hp115 n 0 0 (fun r9 hp1 n1 => n1 = n ∧ ∃ (tb1 : Nat → Int64) (q : Int64), Tw (ov Γ (s + 1) (xJ cJ 256 tb1)) hp1 ∧ r9 = some (.long q) ∧ (0 ≤ q.toInt ∧ q.toInt < 1000000007) ∧ tbR tb1 (Int.toNat x1) ∧ dtm ((Int.toNat x1) - (Int.toNat x2)) (blk tb (Int.toNat x2)) % 1000000007 = (q.toInt * dtm ((Int.toNat x1) - ((Int.toNat x2) + 1)) (blk tb1 ((Int.toNat x2) + 1))) % 1000000007) := by
                refine lpS _ ?_
                intro k115 ih115 tb115 hp115 ht115 v115_11 hf115 hm115
                obtain ⟨hf115_0, hf115_1, hf115_2, hf115_3, hf115_4, ha115_5⟩ := hf115
                refine r_iload (pc := 115) dX8_pivot_115 rfl ?_
                refine r_iload_n (pc := 117) dX8_pivot_117 (i := 1) rfl rfl ?_
                refine t_icmp_ge (pc := 118) (tgt := 192) dX8_pivot_118 (by decide) (by omega) (by omega) (fun c118 => ?_) (fun c118 => ?_)
                · have hel1 : elI tb70 tb115 (Int.toNat x2) (Int.toNat x1) (Int.toNat (v85_8 + 1)) := by
                    rw [show Int.toNat (v85_8 + 1) = Int.toNat v85_8 + 1 by omega]
                    exact el_st hel (by omega) (by omega) (by assumption : eiI tb85 tb115 (Int.toNat x2) (Int.toNat x1) (Int.toNat v85_8) w109.toInt (Int.toNat v115_11)) (Or.inl (by omega)) (by rw [hz2]; exact hid_o hinv) (hid_o hrm109)
                  refine r_iinc (pc := 192) (v := iv (v85_8 + 1)) (lv' := [(8, .int (iv (v85_8 + 1))), (0, .ref s), (1, .int (iv x1)), (2, .int (iv x2)), (3, .int (iv v5_3)), (4, .long hd9), (6, .long iv9), (9, .long w109), (11, .int (iv v115_11))]) dX8_pivot_192 rfl (iv_add _ _) (by decide) rfl ?_
                  refine r_goto (pc := 195) (tgt := 85) dX8_pivot_195 (by decide) ?_
                  refine Rn.pick (lv' := [(0, .ref s), (1, .int (iv x1)), (2, .int (iv x2)), (3, .int (iv v5_3)), (4, .long hd9), (6, .long iv9), (8, .int (iv (v85_8 + 1)))]) [1, 2, 3, 4, 5, 6, 0] rfl ?_
                  exact ih85 (Int.toNat (15 - (v85_8 + 1))) (by omega) tb115 _ ht115 (v85_8 + 1) ⟨by omega, by omega, by omega, by omega, by omega, by (first | exact hel1 | exact hel0)⟩ (by omega)
                · have hei := (by assumption : eiI tb85 tb115 (Int.toNat x2) (Int.toNat x1) (Int.toNat v85_8) w109.toInt (Int.toNat v115_11))
                  refine r_lload (pc := 121) dX8_pivot_121 rfl ?_
                  refine r_lconst (pc := 123) (v := 0) dX8_pivot_123 (by decide) ?_
                  have hk123 : (0 : Int64).toInt = 0 := by decide
                  refine r_lcmp (pc := 124) dX8_pivot_124 ?_
                  refine t_lif_eq (pc := 125) (tgt := 192) dX8_pivot_125 (by decide) (fun c125 => ?_) (fun c125 => ?_)
                  · have hel1 : elI tb70 tb115 (Int.toNat x2) (Int.toNat x1) (Int.toNat (v85_8 + 1)) := by
                      rw [show Int.toNat (v85_8 + 1) = Int.toNat v85_8 + 1 by omega]
                      exact el_st hel (by omega) (by omega) (by assumption : eiI tb85 tb115 (Int.toNat x2) (Int.toNat x1) (Int.toNat v85_8) w109.toInt (Int.toNat v115_11)) (Or.inr (c125.trans hk123)) (by rw [hz2]; exact hid_o hinv) (hid_o hrm109)
                    refine r_iinc (pc := 192) (v := iv (v85_8 + 1)) (lv' := [(8, .int (iv (v85_8 + 1))), (0, .ref s), (1, .int (iv x1)), (2, .int (iv x2)), (3, .int (iv v5_3)), (4, .long hd9), (6, .long iv9), (9, .long w109), (11, .int (iv v115_11))]) dX8_pivot_192 rfl (iv_add _ _) (by decide) rfl ?_
                    refine r_goto (pc := 195) (tgt := 85) dX8_pivot_195 (by decide) ?_
                    refine Rn.pick (lv' := [(0, .ref s), (1, .int (iv x1)), (2, .int (iv x2)), (3, .int (iv v5_3)), (4, .long hd9), (6, .long iv9), (8, .int (iv (v85_8 + 1)))]) [1, 2, 3, 4, 5, 6, 0] rfl ?_
                    exact ih85 (Int.toNat (15 - (v85_8 + 1))) (by omega) tb115 _ ht115 (v85_8 + 1) ⟨by omega, by omega, by omega, by omega, by omega, by (first | exact hel1 | exact hel0)⟩ (by omega)
                  · refine r_lload (pc := 128) dX8_pivot_128 rfl ?_
                    refine r_aload_n (pc := 130) dX8_pivot_130 (i := 0) rfl rfl ?_
                    refine t_getE (pc := 131) (.ref (s + 1)) ht115 (rd_ov (by omega) hO) fX8_9 dX8_pivot_131 rfl ?_
                    refine r_iload_n (pc := 134) dX8_pivot_134 (i := 2) rfl rfl ?_
                    refine r_bipush (pc := 135) (v := iv 16) dX8_pivot_135 (by decide) ?_
                    refine r_imul (pc := 137) (v := iv (x2 * 16)) dX8_pivot_137 (iv_mul _ _) ?_
                    refine r_iload (pc := 138) dX8_pivot_138 rfl ?_
                    refine r_iadd (pc := 140) (v := iv ((x2 * 16) + v115_11)) dX8_pivot_140 (iv_add _ _) ?_
                    refine t_laldX (pc := 141) (t0 := 1) ht115 (rd_of (ov_s _ _ _)) dX8_pivot_141 rfl (by decide) (by omega) ?_
                    have e141 : tb115 (Int.toNat ((x2 * 16) + v115_11)) = tb115 (16 * (Int.toNat x2) + Int.toNat v115_11) := congrArg tb115 (by omega)
                    have hR141 := hei.2.2 (Int.toNat x2) (Int.toNat v115_11) (by omega) (by omega)
                    rw [← e141] at hR141
                    refine r_lmul (pc := 142) (v := w109 * (tb115 (Int.toNat ((x2 * 16) + v115_11)))) dX8_pivot_142 rfl ?_
                    refine r_ldc2 (pc := 143) (v := 1000000007) dX8_pivot_143 kX8_116 ?_
                    have hk143 : (1000000007 : Int64).toInt = 1000000007 := by decide
                    have hml143 := l_mul (x := w109) (y := (tb115 (Int.toNat ((x2 * 16) + v115_11)))) (mul_pp hrb109 hR141)
                    have hmn143 := Int.mul_nonneg (hrb109).1 (hR141).1
                    refine r_lrem (pc := 146) (v := (w109 * (tb115 (Int.toNat ((x2 * 16) + v115_11)))) - (w109 * (tb115 (Int.toNat ((x2 * 16) + v115_11)))) / (1000000007 : Int64) * (1000000007 : Int64)) dX8_pivot_146 (by decide) rfl ?_
                    have hrm146 : ((w109 * (tb115 (Int.toNat ((x2 * 16) + v115_11)))) - (w109 * (tb115 (Int.toNat ((x2 * 16) + v115_11)))) / (1000000007 : Int64) * (1000000007 : Int64)).toInt = (w109.toInt * (tb115 (Int.toNat ((x2 * 16) + v115_11))).toInt) % 1000000007 := by rw [l_rem (by rw [hml143]; exact hmn143) (by omega), hml143, hk143]
                    have hrb146 : 0 ≤ ((w109 * (tb115 (Int.toNat ((x2 * 16) + v115_11)))) - (w109 * (tb115 (Int.toNat ((x2 * 16) + v115_11)))) / (1000000007 : Int64) * (1000000007 : Int64)).toInt ∧ ((w109 * (tb115 (Int.toNat ((x2 * 16) + v115_11)))) - (w109 * (tb115 (Int.toNat ((x2 * 16) + v115_11)))) / (1000000007 : Int64) * (1000000007 : Int64)).toInt < 1000000007 := by rw [hrm146]; exact ⟨Int.emod_nonneg _ (by decide), Int.emod_lt_of_pos _ (by decide)⟩
                    generalize (w109 * (tb115 (Int.toNat ((x2 * 16) + v115_11)))) - (w109 * (tb115 (Int.toNat ((x2 * 16) + v115_11)))) / (1000000007 : Int64) * (1000000007 : Int64) = w146 at hrm146 hrb146 ⊢
                    refine r_lstore (pc := 147) (lv' := [(12, .long w146), (0, .ref s), (1, .int (iv x1)), (2, .int (iv x2)), (3, .int (iv v5_3)), (4, .long hd9), (6, .long iv9), (8, .int (iv v85_8)), (9, .long w109), (11, .int (iv v115_11))]) dX8_pivot_147 (by decide) rfl ?_
                    refine r_aload_n (pc := 149) dX8_pivot_149 (i := 0) rfl rfl ?_
                    refine t_getE (pc := 150) (.ref (s + 1)) ht115 (rd_ov (by omega) hO) fX8_9 dX8_pivot_150 rfl ?_
                    refine r_iload (pc := 153) dX8_pivot_153 rfl ?_
                    refine r_bipush (pc := 155) (v := iv 16) dX8_pivot_155 (by decide) ?_
                    refine r_imul (pc := 157) (v := iv (v85_8 * 16)) dX8_pivot_157 (iv_mul _ _) ?_
                    refine r_iload (pc := 158) dX8_pivot_158 rfl ?_
                    refine r_iadd (pc := 160) (v := iv ((v85_8 * 16) + v115_11)) dX8_pivot_160 (iv_add _ _) ?_
                    refine r_aload_n (pc := 161) dX8_pivot_161 (i := 0) rfl rfl ?_
                    refine t_getE (pc := 162) (.ref (s + 1)) ht115 (rd_ov (by omega) hO) fX8_9 dX8_pivot_162 rfl ?_
                    refine r_iload (pc := 165) dX8_pivot_165 rfl ?_
                    refine r_bipush (pc := 167) (v := iv 16) dX8_pivot_167 (by decide) ?_
                    refine r_imul (pc := 169) (v := iv (v85_8 * 16)) dX8_pivot_169 (iv_mul _ _) ?_
                    refine r_iload (pc := 170) dX8_pivot_170 rfl ?_
                    refine r_iadd (pc := 172) (v := iv ((v85_8 * 16) + v115_11)) dX8_pivot_172 (iv_add _ _) ?_
                    refine t_laldX (pc := 173) (t0 := 1) ht115 (rd_of (ov_s _ _ _)) dX8_pivot_173 rfl (by decide) (by omega) ?_
                    have e173 : tb115 (Int.toNat ((v85_8 * 16) + v115_11)) = tb115 (16 * Int.toNat v85_8 + Int.toNat v115_11) := congrArg tb115 (by omega)
                    have hR173 := hei.2.2 (Int.toNat v85_8) (Int.toNat v115_11) (by omega) (by omega)
                    rw [← e173] at hR173
                    rw [e141] at hrm146
                    replace hrm146 := hid_i hrm146
                    clear hml143 hmn143
                    refine r_ldc2 (pc := 174) (v := 1000000007) dX8_pivot_174 kX8_116 ?_
                    have hk174 : (1000000007 : Int64).toInt = 1000000007 := by decide
                    refine r_ladd (pc := 177) (v := (tb115 (Int.toNat ((v85_8 * 16) + v115_11))) + (1000000007 : Int64)) dX8_pivot_177 rfl ?_
                    refine r_lload (pc := 178) dX8_pivot_178 rfl ?_
                    refine r_lsub (pc := 180) (v := ((tb115 (Int.toNat ((v85_8 * 16) + v115_11))) + (1000000007 : Int64)) - w146) dX8_pivot_180 rfl ?_
                    refine r_ldc2 (pc := 181) (v := 1000000007) dX8_pivot_181 kX8_116 ?_
                    have hk181 : (1000000007 : Int64).toInt = 1000000007 := by decide
                    have hls := l_ps hR173 hrb146
                    refine r_lrem (pc := 184) (v := (((tb115 (Int.toNat ((v85_8 * 16) + v115_11))) + (1000000007 : Int64)) - w146) - (((tb115 (Int.toNat ((v85_8 * 16) + v115_11))) + (1000000007 : Int64)) - w146) / (1000000007 : Int64) * (1000000007 : Int64)) dX8_pivot_184 (by decide) rfl ?_
                    have hrm184 : ((((tb115 (Int.toNat ((v85_8 * 16) + v115_11))) + (1000000007 : Int64)) - w146) - (((tb115 (Int.toNat ((v85_8 * 16) + v115_11))) + (1000000007 : Int64)) - w146) / (1000000007 : Int64) * (1000000007 : Int64)).toInt = ((tb115 (Int.toNat ((v85_8 * 16) + v115_11))).toInt + 1000000007 - w146.toInt) % 1000000007 := by rw [l_rem (by rw [hls]; exact (ps_0 hR173 hrb146)) (by omega), hls, hk181]
                    have hrb184 : 0 ≤ ((((tb115 (Int.toNat ((v85_8 * 16) + v115_11))) + (1000000007 : Int64)) - w146) - (((tb115 (Int.toNat ((v85_8 * 16) + v115_11))) + (1000000007 : Int64)) - w146) / (1000000007 : Int64) * (1000000007 : Int64)).toInt ∧ ((((tb115 (Int.toNat ((v85_8 * 16) + v115_11))) + (1000000007 : Int64)) - w146) - (((tb115 (Int.toNat ((v85_8 * 16) + v115_11))) + (1000000007 : Int64)) - w146) / (1000000007 : Int64) * (1000000007 : Int64)).toInt < 1000000007 := by rw [hrm184]; exact ⟨Int.emod_nonneg _ (by decide), Int.emod_lt_of_pos _ (by decide)⟩
                    generalize (((tb115 (Int.toNat ((v85_8 * 16) + v115_11))) + (1000000007 : Int64)) - w146) - (((tb115 (Int.toNat ((v85_8 * 16) + v115_11))) + (1000000007 : Int64)) - w146) / (1000000007 : Int64) * (1000000007 : Int64) = w184 at hrm184 hrb184 ⊢
                    refine t_lastX (pc := 185) (t0 := 1) ht115 (ov_s _ _ _) dX8_pivot_185 rfl (by decide) (by omega) (fun hp4 ht5 => ?_)
                    rw [ov_ov] at ht5
                    have hei1 : eiI tb85 (fuj tb115 (Int.toNat ((v85_8 * 16) + v115_11)) w184) (Int.toNat x2) (Int.toNat x1) (Int.toNat v85_8) w109.toInt (Int.toNat (v115_11 + 1)) := by
                      rw [show Int.toNat (v115_11 + 1) = Int.toNat v115_11 + 1 by omega]
                      exact ei_st hei (by omega) (by omega) (by omega) (by omega) (by omega) (hid_o hrm146) hrm184
                    refine r_iinc (pc := 186) (v := iv (v115_11 + 1)) (lv' := [(11, .int (iv (v115_11 + 1))), (12, .long w146), (0, .ref s), (1, .int (iv x1)), (2, .int (iv x2)), (3, .int (iv v5_3)), (4, .long hd9), (6, .long iv9), (8, .int (iv v85_8)), (9, .long w109)]) dX8_pivot_186 rfl (iv_add _ _) (by decide) rfl ?_
                    refine r_goto (pc := 189) (tgt := 115) dX8_pivot_189 (by decide) ?_
                    refine Rn.pick (lv' := [(0, .ref s), (1, .int (iv x1)), (2, .int (iv x2)), (3, .int (iv v5_3)), (4, .long hd9), (6, .long iv9), (8, .int (iv v85_8)), (9, .long w109), (11, .int (iv (v115_11 + 1)))]) [2, 3, 4, 5, 6, 7, 8, 9, 0] rfl ?_
                    exact ih115 (Int.toNat (15 - (v115_11 + 1))) (by omega) (fuj tb115 (Int.toNat ((v85_8 * 16) + v115_11)) w184) _ ht5 (v115_11 + 1) ⟨by omega, by omega, by omega, by omega, by omega, by (first | exact hei1 | exact hei0)⟩ (by omega)
              refine Rn.pick (lv' := [(0, .ref s), (1, .int (iv x1)), (2, .int (iv x2)), (3, .int (iv v5_3)), (4, .long hd9), (6, .long iv9), (8, .int (iv v85_8)), (9, .long w109), (11, .int (iv x2))]) [2, 3, 4, 5, 6, 7, 8, 1, 0] rfl ?_
              exact B115 (Int.toNat (15 - x2)) tb85 _ ht85 x2 ⟨by omega, by omega, by omega, by omega, by omega, by (first | exact hei1 | exact hei0)⟩ (by omega)
          refine Rn.pick (lv' := [(0, .ref s), (1, .int (iv x1)), (2, .int (iv x2)), (3, .int (iv v5_3)), (4, .long hd9), (6, .long iv9), (8, .int (iv (x2 + 1)))]) [2, 3, 4, 5, 6, 1, 0] rfl ?_
          exact B85 (Int.toNat (15 - (x2 + 1))) tb70 _ ht3 (x2 + 1) ⟨by omega, by omega, by omega, by omega, by omega, by (first | exact hel1 | exact hel0)⟩ (by omega)
        refine t_icmp_eq (pc := 60) (tgt := 70) dX8_pivot_60 (by decide) (by omega) (by omega) (fun c60 => ?_) (fun c60 => ?_)
        · have hpz : pzI tb tb (Int.toNat x2) (Int.toNat x1) v5_3 hd9.toInt := pz_eq hR (by omega) (by omega) (congrArg Int64.toInt e46.symm) hdz
          refine Rn.pick (lv' := [(0, .ref s), (1, .int (iv x1)), (2, .int (iv x2)), (3, .int (iv v5_3)), (4, .long hd9)]) [1, 2, 3, 4, 0] rfl ?_
          exact B70 tb _ ht36 ⟨by omega, by exact hpz⟩
        · refine r_aload_n (pc := 63) dX8_pivot_63 (i := 0) rfl rfl ?_
          refine r_iload_n (pc := 64) dX8_pivot_64 (i := 1) rfl rfl ?_
          refine r_iload_n (pc := 65) dX8_pivot_65 (i := 3) rfl rfl ?_
          refine r_iload_n (pc := 66) dX8_pivot_66 (i := 2) rfl rfl ?_
          obtain ⟨fs11, hfs11⟩ := t_obj ht36 (rd_ov (by omega) hO)
          refine r_callV (pc := 67) (as := [.int (iv x1), .int (iv v5_3), .int (iv x2)]) (st := []) kX8_130 rfl dX8_pivot_67 hfs11 (c_X8_exchangex (d := d - 1) (x1 := x1) (x2 := v5_3) (x3 := x2) (by omega) hO ht36 (by omega) (by omega) (by omega) (by omega)) rfl (by omega) (Nat.le_of_ble_eq_true rfl) (Nat.zero_le _) (Nat.zero_le _) rfl (fun r6 hp7 n8 q9 => ?_)
          obtain ⟨hnn8, hrr6, tb67, ht10, hex67⟩ := q9
          subst n8 r6
          change Rn _ _ _ 70 _ [] _ _ _ _ _
          have hpz : pzI tb tb67 (Int.toNat x2) (Int.toNat x1) v5_3 hd9.toInt := pz_ne hR (by omega) (by omega) hex67 (Nat.le_refl _) (congrArg Int64.toInt e46.symm) hdz
          refine Rn.pick (lv' := [(0, .ref s), (1, .int (iv x1)), (2, .int (iv x2)), (3, .int (iv v5_3)), (4, .long hd9)]) [1, 2, 3, 4, 0] rfl ?_
          exact B70 tb67 _ ht10 ⟨by omega, by exact hpz⟩
      · have hz53 : dtm ((Int.toNat x1) - (Int.toNat x2)) (blk tb (Int.toNat x2)) = 0 := pve_0 hpe (by rw [← e46]; exact (Classical.byContradiction c53).trans hk51) (by omega)
        refine r_lconst (pc := 56) (v := 0) dX8_pivot_56 (by decide) ?_
        have hk56 : (0 : Int64).toInt = 0 := by decide
        exact r_lret (pc := 57) dX8_pivot_57 rfl ⟨rfl, tb, _, ht36, rfl, by rw [hk56]; decide, hR, by rw [hz53, hk56, Int.zero_mul]⟩
    refine t_icmp_ge (pc := 8) (tgt := 36) dX8_pivot_8 (by decide) (by omega) (by omega) (fun c8 => ?_) (fun c8 => ?_)
    · have hpe : pvE tb (Int.toNat x2) (Int.toNat x1) v5_3 := ⟨v5_4, (by assumption : pvI tb (Int.toNat x2) (Int.toNat x1) v5_3 v5_4), Or.inl (by omega)⟩
      refine Rn.pick (lv' := [(0, .ref s), (1, .int (iv x1)), (2, .int (iv x2)), (3, .int (iv v5_3))]) [0, 1, 2, 3] rfl ?_
      exact B36 _ ht5 ⟨by omega, by exact hpe⟩
    · have hpr := (by assumption : pvI tb (Int.toNat x2) (Int.toNat x1) v5_3 v5_4).1
      refine r_aload_n (pc := 11) dX8_pivot_11 (i := 0) rfl rfl ?_
      refine t_getE (pc := 12) (.ref (s + 1)) ht5 (rd_ov (by omega) hO) fX8_9 dX8_pivot_12 rfl ?_
      refine r_iload_n (pc := 15) dX8_pivot_15 (i := 3) rfl rfl ?_
      refine r_bipush (pc := 16) (v := iv 16) dX8_pivot_16 (by decide) ?_
      refine r_imul (pc := 18) (v := iv (v5_3 * 16)) dX8_pivot_18 (iv_mul _ _) ?_
      refine r_iload_n (pc := 19) dX8_pivot_19 (i := 2) rfl rfl ?_
      refine r_iadd (pc := 20) (v := iv ((v5_3 * 16) + x2)) dX8_pivot_20 (iv_add _ _) ?_
      refine t_laldX (pc := 21) (t0 := 1) ht5 (rd_of (ov_s _ _ _)) dX8_pivot_21 rfl (by decide) (by omega) ?_
      have e21 : tb (Int.toNat ((v5_3 * 16) + x2)) = tb (16 * Int.toNat v5_3 + (Int.toNat x2)) := congrArg tb (by omega)
      refine r_lconst (pc := 22) (v := 0) dX8_pivot_22 (by decide) ?_
      have hk22 : (0 : Int64).toInt = 0 := by decide
      refine r_lcmp (pc := 23) dX8_pivot_23 ?_
      refine t_lif_ne (pc := 24) (tgt := 36) dX8_pivot_24 (by decide) (fun c24 => ?_) (fun c24 => ?_)
      · have hpe : pvE tb (Int.toNat x2) (Int.toNat x1) v5_3 := ⟨v5_4, (by assumption : pvI tb (Int.toNat x2) (Int.toNat x1) v5_3 v5_4), Or.inr (fun g9 => c24 (by rw [e21, g9, hk22]))⟩
        refine Rn.pick (lv' := [(0, .ref s), (1, .int (iv x1)), (2, .int (iv x2)), (3, .int (iv v5_3))]) [0, 1, 2, 3] rfl ?_
        exact B36 _ ht5 ⟨by omega, by exact hpe⟩
      · have hpv : pvI tb (Int.toNat x2) (Int.toNat x1) v5_4 (v5_4 + 1) := pv_st (by assumption : pvI tb (Int.toNat x2) (Int.toNat x1) v5_3 v5_4) (by omega) (by rw [← e21]; exact (Classical.byContradiction c24).trans hk22)
        refine r_iload (pc := 27) dX8_pivot_27 rfl ?_
        refine r_istore_n (pc := 29) (lv' := [(3, .int (iv v5_4)), (0, .ref s), (1, .int (iv x1)), (2, .int (iv x2)), (4, .int (iv v5_4))]) dX8_pivot_29 (i := 3) rfl (by decide) rfl ?_
        refine r_iinc (pc := 30) (v := iv (v5_4 + 1)) (lv' := [(4, .int (iv (v5_4 + 1))), (3, .int (iv v5_4)), (0, .ref s), (1, .int (iv x1)), (2, .int (iv x2))]) dX8_pivot_30 rfl (iv_add _ _) (by decide) rfl ?_
        refine r_goto (pc := 33) (tgt := 5) dX8_pivot_33 (by decide) ?_
        refine Rn.pick (lv' := [(0, .ref s), (1, .int (iv x1)), (2, .int (iv x2)), (3, .int (iv v5_4)), (4, .int (iv (v5_4 + 1)))]) [2, 3, 4, 1, 0] rfl ?_
        exact ih5 (Int.toNat (15 - (v5_4 + 1))) (by omega) _ ht5 v5_4 (v5_4 + 1) ⟨by omega, by omega, by omega, by omega, by omega, by omega, by omega, by (first | exact hpv | (have h9 := pv_0 (tb := tb) (k := (Int.toNat x2)) (n := (Int.toNat x1)) (by omega); rw [show (((Int.toNat x2) : Nat) : Int) = x2 by omega] at h9; exact h9))⟩ (by omega)
  refine Rn.pick (lv' := [(0, .ref s), (1, .int (iv x1)), (2, .int (iv x2)), (3, .int (iv x2)), (4, .int (iv x2))]) [2, 3, 4, 1, 0] rfl ?_
  exact B5 (Int.toNat (15 - x2)) _ ht x2 x2 ⟨by omega, by omega, by omega, by omega, by omega, by omega, by omega, by (first | exact hpv | (have h9 := pv_0 (tb := tb) (k := (Int.toNat x2)) (n := (Int.toNat x1)) (by omega); rw [show (((Int.toNat x2) : Nat) : Int) = x2 by omega] at h9; exact h9))⟩ (by omega)
