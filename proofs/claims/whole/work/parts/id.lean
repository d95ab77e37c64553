set_option maxHeartbeats 4000000 in
set_option maxRecDepth 100000 in
theorem c_X8_treesx {D : va_G} {cI cJ cZ cT : ClassId} {lo b L : Nat} {xs : Nat → Int32} {hp : MH} {n d : Nat} {Γ : TG} {ga : Nat} {gF : Nat} {gT : Nat} {gW : Nat} {gC : Nat} {gTl : Nat} {gHd : Nat} {gBy : Nat} {gOu : Nat} {gIn : Nat} {gJo : Nat} {gn : Nat} {gm : Nat} {gq : Nat} {gdr : Int} {F T W C Tl Hd By Ou In Jo : Nat → Int} {s : Nat} {tb : Nat → Int64} (hd0 : 2 ≤ d) (hg : TyG Γ cI cJ cZ ga gF gT gW gC gTl gHd gBy gOu gIn gJo gn gm gq gdr) (hxg : XG Γ cI gF gT gW gC gTl gHd gBy gOu gIn gJo gn gm gq F T W C Tl Hd By Ou In Jo) (hsp : s + 2 ≤ ga ∧ s + 2 ≤ gF ∧ s + 2 ≤ gT ∧ s + 2 ≤ gW ∧ s + 2 ≤ gC ∧ s + 2 ≤ gTl ∧ s + 2 ≤ gHd ∧ s + 2 ≤ gBy ∧ s + 2 ≤ gOu ∧ s + 2 ≤ gIn ∧ s + 2 ≤ gJo) (hO : rd Γ s (tO 8 [fE (.ref (s + 1))])) (ht : Tw (ov Γ (s + 1) (xJ cJ 256 tb)) hp) : Mt (gG D cI cJ cZ cT lo b L xs) mX8_trees d 0 0 [.ref s, .ref ga] hp n (fun r9 hp1 n1 => n1 = n ∧ ∃ (tb1 : Nat → Int64) (q : Int64), Tw (ov Γ (s + 1) (xJ cJ 256 tb1)) hp1 ∧ r9 = some (.long q) ∧ q.toInt = trQ (wB gm F T) gn (bS (2 ^ gn - 1)) % 1000000007) := by
  refine Mt.of rfl (Nat.le_of_ble_eq_true rfl) ?_
  refine Rn.pick (lv' := [(0, .ref s), (1, .ref ga)]) [0, 1] rfl ?_
  obtain ⟨hg_O, hg_from, hg_to, hg_weight, hg_cost, hg_tail, hg_head, hg_by, hg_out, hg_in, hg_joined, hg_b⟩ := id hg
  obtain ⟨⟨hxg_F, hxg_T, hxg_W, hxg_C, hxg_Tl, hxg_Hd, hxg_By, hxg_Ou, hxg_In, hxg_Jo⟩, ⟨hrg_F, hrg_T, hrg_W, hrg_C, hrg_Tl, hrg_Hd, hrg_By, hrg_Ou, hrg_In, hrg_Jo⟩, houg⟩ := id hxg
  have hgb := hg_b
  have hFT : ∀ k, k < gm → (0 ≤ F k ∧ F k < (gn : Int)) ∧ (0 ≤ T k ∧ T k < (gn : Int)) := fun k hk => by have h1 := hrg_F k hk; have h2 := hrg_T k hk; omega
  refine r_aload_n (pc := 0) dX8_trees_0 (i := 1) rfl rfl ?_
  refine t_getE (pc := 1) (.int (iv (gn : Int))) ht (rd_ov (by omega) hg_O) fX8_35 dX8_trees_1 rfl ?_
  refine r_iconst (pc := 4) (v := iv 1) dX8_trees_4 (by decide) ?_
  refine r_isub (pc := 5) (v := iv ((gn : Int) - 1)) dX8_trees_5 (iv_sub _ _) ?_
  refine r_istore_n (pc := 6) (lv' := [(2, .int (iv ((gn : Int) - 1))), (0, .ref s), (1, .ref ga)]) dX8_trees_6 (i := 2) rfl (by decide) rfl ?_
  refine r_aload_n (pc := 7) dX8_trees_7 (i := 0) rfl rfl ?_
  refine r_aload_n (pc := 8) dX8_trees_8 (i := 1) rfl rfl ?_
  refine r_iload_n (pc := 9) dX8_trees_9 (i := 2) rfl rfl ?_
  obtain ⟨fs6, hfs6⟩ := t_obj ht (rd_ov (by omega) hO)
  refine r_callV (pc := 10) (as := [.ref ga, .int (iv ((gn : Int) - 1))]) (st := []) kX8_108 rfl dX8_trees_10 hfs6 (c_X8_fillTablex (d := d - 1) (x2 := (gn : Int) - 1) (by omega) hg hxg hsp hO ht (by omega)) rfl (by omega) (Nat.le_of_ble_eq_true rfl) (Nat.zero_le _) (Nat.zero_le _) rfl (fun r1 hp2 n3 q4 => ?_)
  obtain ⟨hnn3, hrr1, tb10, ht5, hft10⟩ := q4
  subst n3 r1
  change Rn _ _ _ 13 _ [] _ _ _ _ _
  have htp0 := ft_la (fun k9 hk9 => by have h9 := hFT k9 hk9; omega) hft10 rfl
  refine r_lconst (pc := 13) (v := 1) dX8_trees_13 (by decide) ?_
  have hk13 : (1 : Int64).toInt = 1 := by decide
  refine r_lstore_n (pc := 14) (lv' := [(3, .long (1 : Int64)), (2, .int (iv ((gn : Int) - 1))), (0, .ref s), (1, .ref ga)]) dX8_trees_14 (i := 3) rfl (by decide) rfl ?_
  refine r_iconst (pc := 15) (v := iv 0) dX8_trees_15 (by decide) ?_
  refine r_istore (pc := 16) (lv' := [(5, .int (iv 0)), (3, .long (1 : Int64)), (2, .int (iv ((gn : Int) - 1))), (0, .ref s), (1, .ref ga)]) dX8_trees_16 (by decide) rfl ?_
  have B18 : ∀ k : Nat, ∀ tb18 : Nat → Int64, ∀ hp18 : MH, Tw (ov Γ (s + 1) (xJ cJ 256 tb18)) hp18 → ∀  (v18_5 : Int) (w18_3 : Int64), 0 ≤ v18_5 ∧ v18_5 ≤ 15 ∧ (v18_5 ≤ (gn : Int) - 1) ∧ (tpI (dtm (Int.toNat ((gn : Int) - 1)) (lapF gm F T ((Int.toNat ((gn : Int) - 1)) + 1))) tb18 (Int.toNat ((gn : Int) - 1)) w18_3.toInt (Int.toNat v18_5)) → 15 - v18_5 ≤ (k : Int) → Rn (gG D cI cJ cZ cT lo b L xs) mX8_trees d 18 [(0, .ref s), (2, .int (iv ((gn : Int) - 1))), (3, .long w18_3), (5, .int (iv v18_5))] [] hp18 n 0 0 (fun r9 hp1 n1 => n1 = n ∧ ∃ (tb1 : Nat → Int64) (q : Int64), Tw (ov Γ (s + 1) (xJ cJ 256 tb1)) hp1 ∧ r9 = some (.long q) ∧ q.toInt = trQ (wB gm F T) gn (bS (2 ^ gn - 1)) % 1000000007) := by
    refine lpS _ ?_
    intro k18 ih18 tb18 hp18 ht18 v18_5 w18_3 hf18 hm18
    obtain ⟨hf18_0, hf18_1, hf18_2, ha18_3⟩ := hf18
    refine r_iload (pc := 18) dX8_trees_18 rfl ?_
    refine r_iload_n (pc := 20) dX8_trees_20 (i := 2) rfl rfl ?_
    refine t_icmp_ge (pc := 21) (tgt := 50) dX8_trees_21 (by decide) (by omega) (by omega) (fun c21 => ?_) (fun c21 => ?_)
    · have hend := tp_e (by assumption : tpI (dtm (Int.toNat ((gn : Int) - 1)) (lapF gm F T ((Int.toNat ((gn : Int) - 1)) + 1))) tb18 (Int.toNat ((gn : Int) - 1)) w18_3.toInt (Int.toNat v18_5)) (Or.inl (by omega))
      refine r_lload_n (pc := 50) dX8_trees_50 (i := 3) rfl rfl ?_
      exact r_lret (pc := 51) dX8_trees_51 rfl ⟨rfl, tb18, _, ht18, rfl, by
            rw [hend, ← tr_la (m := gm) (F := F) (T := T), show (Int.toNat ((gn : Int) - 1)) + 1 = gn by omega]⟩
    · refine r_lload_n (pc := 24) dX8_trees_24 (i := 3) rfl rfl ?_
      refine r_lconst (pc := 25) (v := 0) dX8_trees_25 (by decide) ?_
      have hk25 : (0 : Int64).toInt = 0 := by decide
      refine r_lcmp (pc := 26) dX8_trees_26 ?_
      refine t_lif_eq (pc := 27) (tgt := 50) dX8_trees_27 (by decide) (fun c27 => ?_) (fun c27 => ?_)
      · have hend := tp_e (by assumption : tpI (dtm (Int.toNat ((gn : Int) - 1)) (lapF gm F T ((Int.toNat ((gn : Int) - 1)) + 1))) tb18 (Int.toNat ((gn : Int) - 1)) w18_3.toInt (Int.toNat v18_5)) (Or.inr (c27.trans hk25))
        refine r_lload_n (pc := 50) dX8_trees_50 (i := 3) rfl rfl ?_
        exact r_lret (pc := 51) dX8_trees_51 rfl ⟨rfl, tb18, _, ht18, rfl, by
              rw [hend, ← tr_la (m := gm) (F := F) (T := T), show (Int.toNat ((gn : Int) - 1)) + 1 = gn by omega]⟩
      · have htp := (by assumption : tpI (dtm (Int.toNat ((gn : Int) - 1)) (lapF gm F T ((Int.toNat ((gn : Int) - 1)) + 1))) tb18 (Int.toNat ((gn : Int) - 1)) w18_3.toInt (Int.toNat v18_5))
        refine r_lload_n (pc := 30) dX8_trees_30 (i := 3) rfl rfl ?_
        refine r_aload_n (pc := 31) dX8_trees_31 (i := 0) rfl rfl ?_
        refine r_iload_n (pc := 32) dX8_trees_32 (i := 2) rfl rfl ?_
        refine r_iload (pc := 33) dX8_trees_33 rfl ?_
        obtain ⟨fs12, hfs12⟩ := t_obj ht18 (rd_ov (by omega) hO)
        refine r_callV (pc := 35) (as := [.int (iv ((gn : Int) - 1)), .int (iv v18_5)]) (st := [.long w18_3]) kX8_112 rfl dX8_trees_35 hfs12 (c_X8_pivotx (d := d - 1) (x1 := (gn : Int) - 1) (x2 := v18_5) (by omega) hO ht18 (by omega) (by omega) htp.2.1) rfl (by omega) (Nat.le_of_ble_eq_true rfl) (Nat.zero_le _) (Nat.zero_le _) rfl (fun r7 hp8 n9 q10 => ?_)
        obtain ⟨hnn9, tb35, pq9, ht11, hrr7, hpq, hR35, hdt35⟩ := q10
        subst n9 r7
        change Rn _ _ _ 38 _ [.long pq9, .long w18_3] _ _ _ _ _
        refine r_lmul (pc := 38) (v := w18_3 * pq9) dX8_trees_38 rfl ?_
        refine r_ldc2 (pc := 39) (v := 1000000007) dX8_trees_39 kX8_116 ?_
        have hk39 : (1000000007 : Int64).toInt = 1000000007 := by decide
        have hml39 := l_mul (x := w18_3) (y := pq9) (mul_pp htp.1 hpq)
        have hmn39 := Int.mul_nonneg (htp.1).1 (hpq).1
        refine r_lrem (pc := 42) (v := (w18_3 * pq9) - (w18_3 * pq9) / (1000000007 : Int64) * (1000000007 : Int64)) dX8_trees_42 (by decide) rfl ?_
        have hrm42 : ((w18_3 * pq9) - (w18_3 * pq9) / (1000000007 : Int64) * (1000000007 : Int64)).toInt = (w18_3.toInt * pq9.toInt) % 1000000007 := by rw [l_rem (by rw [hml39]; exact hmn39) (by omega), hml39, hk39]
        have hrb42 : 0 ≤ ((w18_3 * pq9) - (w18_3 * pq9) / (1000000007 : Int64) * (1000000007 : Int64)).toInt ∧ ((w18_3 * pq9) - (w18_3 * pq9) / (1000000007 : Int64) * (1000000007 : Int64)).toInt < 1000000007 := by rw [hrm42]; exact ⟨Int.emod_nonneg _ (by decide), Int.emod_lt_of_pos _ (by decide)⟩
        generalize (w18_3 * pq9) - (w18_3 * pq9) / (1000000007 : Int64) * (1000000007 : Int64) = w42 at hrm42 hrb42 ⊢
        refine r_lstore_n (pc := 43) (lv' := [(3, .long w42), (0, .ref s), (2, .int (iv ((gn : Int) - 1))), (5, .int (iv v18_5))]) dX8_trees_43 (i := 3) rfl (by decide) rfl ?_
        have htp1 : tpI (dtm (Int.toNat ((gn : Int) - 1)) (lapF gm F T ((Int.toNat ((gn : Int) - 1)) + 1))) tb35 (Int.toNat ((gn : Int) - 1)) w42.toInt (Int.toNat (v18_5 + 1)) := by
          rw [show Int.toNat (v18_5 + 1) = Int.toNat v18_5 + 1 by omega]
          exact tp_up htp (by omega) hR35 hdt35 hrm42
        refine r_iinc (pc := 44) (v := iv (v18_5 + 1)) (lv' := [(5, .int (iv (v18_5 + 1))), (3, .long w42), (0, .ref s), (2, .int (iv ((gn : Int) - 1)))]) dX8_trees_44 rfl (iv_add _ _) (by decide) rfl ?_
        refine r_goto (pc := 47) (tgt := 18) dX8_trees_47 (by decide) ?_
        refine Rn.pick (lv' := [(0, .ref s), (2, .int (iv ((gn : Int) - 1))), (3, .long w42), (5, .int (iv (v18_5 + 1)))]) [2, 3, 1, 0] rfl ?_
        exact ih18 (Int.toNat (15 - (v18_5 + 1))) (by omega) tb35 _ ht11 (v18_5 + 1) w42 ⟨by omega, by omega, by omega, by (first | exact htp1 | (rw [hk13]; exact htp0))⟩ (by omega)
  refine Rn.pick (lv' := [(0, .ref s), (2, .int (iv ((gn : Int) - 1))), (3, .long (1 : Int64)), (5, .int (iv 0))]) [3, 2, 1, 0] rfl ?_
  exact B18 (Int.toNat (15 - 0)) tb10 _ ht5 0 (1 : Int64) ⟨by omega, by omega, by omega, by (first | exact htp1 | (rw [hk13]; exact htp0))⟩ (by omega)
