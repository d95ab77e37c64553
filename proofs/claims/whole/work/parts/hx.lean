set_option maxHeartbeats 4000000 in
set_option maxRecDepth 100000 in
theorem c_X6_refinex {D : va_G} {cI cJ cZ cT : ClassId} {lo b L : Nat} {xs : Nat → Int32} {hp : MH} {n d : Nat} {Γ : TG} {ga : Nat} {gF : Nat} {gT : Nat} {gW : Nat} {gC : Nat} {gTl : Nat} {gHd : Nat} {gBy : Nat} {gOu : Nat} {gIn : Nat} {gJo : Nat} {gn : Nat} {gm : Nat} {gq : Nat} {gdr : Int} {s ka rw9 : Nat} {Ti Co Fr : Nat → Int64} {Nu : Nat → Int} {x1 : Int} (hd0 : 2 ≤ d) (hg : TyG Γ cI cJ cZ ga gF gT gW gC gTl gHd gBy gOu gIn gJo gn gm gq gdr) (hsp : s + 5 ≤ ga ∧ s + 5 ≤ gF ∧ s + 5 ≤ gT ∧ s + 5 ≤ gW ∧ s + 5 ≤ gC ∧ s + 5 ≤ gTl ∧ s + 5 ≤ gHd ∧ s + 5 ≤ gBy ∧ s + 5 ≤ gOu ∧ s + 5 ≤ gIn ∧ s + 5 ≤ gJo) (ht : Tw (SmS Γ cI cJ s ga ka Ti Co Fr Nu) hp) (hx1 : 0 ≤ x1 ∧ x1 ≤ 16) (hrw : (rw9 : Int) = x1 * 32) : Mt (gG D cI cJ cZ cT lo b L xs) mX6_refine d 0 0 [.ref s, .int (iv x1)] hp n (fun r9 hp1 n1 => n1 = n ∧ ∃ (Co1 Fr1 : Nat → Int64) (v : Int), Tw (SmS Γ cI cJ s ga ka Ti Co1 Fr1 Nu) hp1 ∧ r9 = some (.int (iv v)) ∧ (0 ≤ v ∧ v ≤ 1) ∧ (∀ i, (i < rw9 ∨ rw9 + 32 ≤ i) → Co1 i = Co i) ∧ ∀ p, tpP Ti gn p → cvP Co rw9 gn p → v = 1 ∧ cvP Co1 rw9 gn p) := by
  refine Mt.of rfl (Nat.le_of_ble_eq_true rfl) ?_
  refine Rn.pick (lv' := [(0, .ref s), (1, .int (iv x1))]) [0, 1] rfl ?_
  have t0 : Tw (ov (ov (ov (ov (ov Γ s (tO 6 (smnF s ga ka))) (s + 1) (xJ cJ 512 Ti)) (s + 2) (xJ cJ 544 Co)) (s + 3) (xJ cJ 32 Fr)) (s + 4) (xI cI 16 Nu)) hp := ht
  obtain ⟨hg_O, hg_from, hg_to, hg_weight, hg_cost, hg_tail, hg_head, hg_by, hg_out, hg_in, hg_joined, hg_b⟩ := id hg
  have hgb := hg_b
  refine r_aload_n (pc := 0) dX6_refine_0 (i := 0) rfl rfl ?_
  refine t_getE (pc := 1) (.ref ga) t0 (rd_ov (by omega) (rd_ov (by omega) (rd_ov (by omega) (rd_ov (by omega) (rd_of (ov_s _ _ _)))))) fX6_38 dX6_refine_1 rfl ?_
  refine t_getE (pc := 4) (.int (iv (gn : Int))) t0 (rd_ov (by omega) (rd_ov (by omega) (rd_ov (by omega) (rd_ov (by omega) (rd_ov (by omega) hg_O))))) fX6_25 dX6_refine_4 rfl ?_
  refine r_istore_n (pc := 7) (lv' := [(2, .int (iv (gn : Int))), (0, .ref s), (1, .int (iv x1))]) dX6_refine_7 (i := 2) rfl (by decide) rfl ?_
  refine r_iload_n (pc := 8) dX6_refine_8 (i := 1) rfl rfl ?_
  refine r_bipush (pc := 9) (v := iv 32) dX6_refine_9 (by decide) ?_
  refine r_imul (pc := 11) (v := iv (x1 * 32)) dX6_refine_11 (iv_mul _ _) ?_
  refine r_istore_n (pc := 12) (lv' := [(3, .int (iv (x1 * 32))), (2, .int (iv (gn : Int))), (0, .ref s), (1, .int (iv x1))]) dX6_refine_12 (i := 3) rfl (by decide) rfl ?_
  refine r_iconst (pc := 13) (v := iv 0) dX6_refine_13 (by decide) ?_
  refine r_istore (pc := 14) (lv' := [(4, .int (iv 0)), (3, .int (iv (x1 * 32))), (2, .int (iv (gn : Int))), (0, .ref s), (1, .int (iv x1))]) dX6_refine_14 (by decide) rfl ?_
  refine r_aload_n (pc := 16) dX6_refine_16 (i := 0) rfl rfl ?_
  refine r_iload_n (pc := 17) dX6_refine_17 (i := 3) rfl rfl ?_
  refine r_iload_n (pc := 18) dX6_refine_18 (i := 2) rfl rfl ?_
  refine t_callVR (pc := 19) (as := [.int (iv (x1 * 32)), .int (iv (gn : Int))]) (st := []) t0 (rd_ov (by omega) (rd_ov (by omega) (rd_ov (by omega) (rd_ov (by omega) (rd_of (ov_s _ _ _)))))) kX6_87 rfl dX6_refine_19 (c_X6_countColoursx (d := d - 1) (Co := Co) (x1 := x1 * 32) (x2 := (gn : Int)) (by omega) (rd_ov (by omega) (rd_ov (by omega) (rd_ov (by omega) (rd_ov (by omega) (rd_of (ov_s _ _ _)))))) (rd_ov (by omega) (rd_ov (by omega) (rd_of (ov_s _ _ _)))) t0 (by omega) (by omega)) rfl (by omega) (Nat.le_of_ble_eq_true rfl) rfl (fun hp2 y1 ht3 by1 => ?_)
  refine r_istore (pc := 22) (lv' := [(5, .int (iv y1)), (4, .int (iv 0)), (3, .int (iv (x1 * 32))), (2, .int (iv (gn : Int))), (0, .ref s), (1, .int (iv x1))]) dX6_refine_22 (by decide) rfl ?_
  refine r_iconst (pc := 24) (v := iv 0) dX6_refine_24 (by decide) ?_
  refine r_istore (pc := 25) (lv' := [(6, .int (iv 0)), (5, .int (iv y1)), (4, .int (iv 0)), (3, .int (iv (x1 * 32))), (2, .int (iv (gn : Int))), (0, .ref s), (1, .int (iv x1))]) dX6_refine_25 (by decide) rfl ?_
  have B27 : ∀ k : Nat, ∀ Co27 : Nat → Int64, ∀ Fr27 : Nat → Int64, ∀ hp27 : MH, Tw (ov (ov (ov (ov (ov Γ s (tO 6 (smnF s ga ka))) (s + 1) (xJ cJ 512 Ti)) (s + 2) (xJ cJ 544 Co27)) (s + 3) (xJ cJ 32 Fr27)) (s + 4) (xI cI 16 Nu)) hp27 → ∀  (v27_4 : Int) (v27_5 : Int) (v27_6 : Int), 0 ≤ v27_4 ∧ v27_4 ≤ 15 ∧ (-2147483648) ≤ v27_5 ∧ v27_5 ≤ 2147483647 ∧ 0 ≤ v27_6 ∧ v27_6 ≤ 16 ∧ (v27_6 ≤ (gn : Int)) ∧ (rfI Ti Co Co27 rw9 gn) → 16 - v27_6 ≤ (k : Int) → Rn (gG D cI cJ cZ cT lo b L xs) mX6_refine d 27 [(0, .ref s), (2, .int (iv (gn : Int))), (3, .int (iv (x1 * 32))), (4, .int (iv v27_4)), (5, .int (iv v27_5)), (6, .int (iv v27_6))] [] hp27 n 0 0 (fun r9 hp1 n1 => n1 = n ∧ ∃ (Co1 Fr1 : Nat → Int64) (v : Int), Tw (SmS Γ cI cJ s ga ka Ti Co1 Fr1 Nu) hp1 ∧ r9 = some (.int (iv v)) ∧ (0 ≤ v ∧ v ≤ 1) ∧ (∀ i, (i < rw9 ∨ rw9 + 32 ≤ i) → Co1 i = Co i) ∧ ∀ p, tpP Ti gn p → cvP Co rw9 gn p → v = 1 ∧ cvP Co1 rw9 gn p) := by
    refine lpS _ ?_
    intro k27 ih27 Co27 Fr27 hp27 ht27 v27_4 v27_5 v27_6 hf27 hm27
    obtain ⟨hf27_0, hf27_1, hf27_2, hf27_3, hf27_4, hf27_5, hf27_6, ha27_7⟩ := hf27
    refine r_iload (pc := 27) dX6_refine_27 rfl ?_
    refine r_iload_n (pc := 29) dX6_refine_29 (i := 2) rfl rfl ?_
    refine t_icmp_ge (pc := 30) (tgt := 94) dX6_refine_30 (by decide) (by omega) (by omega) (fun c30 => ?_) (fun c30 => ?_)
    · refine r_aload_n (pc := 94) dX6_refine_94 (i := 0) rfl rfl ?_
      refine r_iload_n (pc := 95) dX6_refine_95 (i := 3) rfl rfl ?_
      refine r_iload_n (pc := 96) dX6_refine_96 (i := 2) rfl rfl ?_
      refine t_callVI (pc := 97) (as := [.int (iv (x1 * 32)), .int (iv (gn : Int))]) (st := []) ht27 (rd_ov (by omega) (rd_ov (by omega) (rd_ov (by omega) (rd_ov (by omega) (rd_of (ov_s _ _ _)))))) kX6_101 rfl dX6_refine_97 (c_X6_haveSameColoursx (d := d - 1) (Co := Co27) (x1 := x1 * 32) (x2 := (gn : Int)) (by omega) (rd_ov (by omega) (rd_ov (by omega) (rd_ov (by omega) (rd_ov (by omega) (rd_of (ov_s _ _ _)))))) (rd_ov (by omega) (rd_ov (by omega) (rd_of (ov_s _ _ _)))) ht27 (by omega) (by omega)) rfl (by omega) (Nat.le_of_ble_eq_true rfl) rfl (fun hp5 y4 ht6 by4 => ?_)
      obtain ⟨by41, hsc9⟩ := by4
      rw [Int.toNat_natCast, show Int.toNat (x1 * 32) = rw9 by omega] at hsc9
      exact r_zret (pc := 100) dX6_refine_100 rfl (iv_nar (by omega)) ⟨rfl, Co27, Fr27, _, ht6, rfl, by omega, (by assumption : rfI Ti Co Co27 rw9 gn).1, fun p9 h9 g9 => by
            have h8 := (by assumption : rfI Ti Co Co27 rw9 gn).2 p9 h9 g9
            exact ⟨Classical.byContradiction (fun q9 => hsc9 (by omega) p9 h9.1 h9.2.1 h8), h8⟩⟩
    · refine r_iload (pc := 33) dX6_refine_33 rfl ?_
      refine r_iload (pc := 35) dX6_refine_35 rfl ?_
      refine t_icmp_le (pc := 37) (tgt := 94) dX6_refine_37 (by decide) (by omega) (by omega) (fun c37 => ?_) (fun c37 => ?_)
      · refine r_aload_n (pc := 94) dX6_refine_94 (i := 0) rfl rfl ?_
        refine r_iload_n (pc := 95) dX6_refine_95 (i := 3) rfl rfl ?_
        refine r_iload_n (pc := 96) dX6_refine_96 (i := 2) rfl rfl ?_
        refine t_callVI (pc := 97) (as := [.int (iv (x1 * 32)), .int (iv (gn : Int))]) (st := []) ht27 (rd_ov (by omega) (rd_ov (by omega) (rd_ov (by omega) (rd_ov (by omega) (rd_of (ov_s _ _ _)))))) kX6_101 rfl dX6_refine_97 (c_X6_haveSameColoursx (d := d - 1) (Co := Co27) (x1 := x1 * 32) (x2 := (gn : Int)) (by omega) (rd_ov (by omega) (rd_ov (by omega) (rd_ov (by omega) (rd_ov (by omega) (rd_of (ov_s _ _ _)))))) (rd_ov (by omega) (rd_ov (by omega) (rd_of (ov_s _ _ _)))) ht27 (by omega) (by omega)) rfl (by omega) (Nat.le_of_ble_eq_true rfl) rfl (fun hp8 y7 ht9 by7 => ?_)
        obtain ⟨by71, hsc9⟩ := by7
        rw [Int.toNat_natCast, show Int.toNat (x1 * 32) = rw9 by omega] at hsc9
        exact r_zret (pc := 100) dX6_refine_100 rfl (iv_nar (by omega)) ⟨rfl, Co27, Fr27, _, ht9, rfl, by omega, (by assumption : rfI Ti Co Co27 rw9 gn).1, fun p9 h9 g9 => by
              have h8 := (by assumption : rfI Ti Co Co27 rw9 gn).2 p9 h9 g9
              exact ⟨Classical.byContradiction (fun q9 => hsc9 (by omega) p9 h9.1 h9.2.1 h8), h8⟩⟩
      · refine r_iload (pc := 40) dX6_refine_40 rfl ?_
        refine r_iload_n (pc := 42) dX6_refine_42 (i := 2) rfl rfl ?_
        refine t_icmp_ge (pc := 43) (tgt := 94) dX6_refine_43 (by decide) (by omega) (by omega) (fun c43 => ?_) (fun c43 => ?_)
        · refine r_aload_n (pc := 94) dX6_refine_94 (i := 0) rfl rfl ?_
          refine r_iload_n (pc := 95) dX6_refine_95 (i := 3) rfl rfl ?_
          refine r_iload_n (pc := 96) dX6_refine_96 (i := 2) rfl rfl ?_
          refine t_callVI (pc := 97) (as := [.int (iv (x1 * 32)), .int (iv (gn : Int))]) (st := []) ht27 (rd_ov (by omega) (rd_ov (by omega) (rd_ov (by omega) (rd_ov (by omega) (rd_of (ov_s _ _ _)))))) kX6_101 rfl dX6_refine_97 (c_X6_haveSameColoursx (d := d - 1) (Co := Co27) (x1 := x1 * 32) (x2 := (gn : Int)) (by omega) (rd_ov (by omega) (rd_ov (by omega) (rd_ov (by omega) (rd_ov (by omega) (rd_of (ov_s _ _ _)))))) (rd_ov (by omega) (rd_ov (by omega) (rd_of (ov_s _ _ _)))) ht27 (by omega) (by omega)) rfl (by omega) (Nat.le_of_ble_eq_true rfl) rfl (fun hp11 y10 ht12 by10 => ?_)
          obtain ⟨by101, hsc9⟩ := by10
          rw [Int.toNat_natCast, show Int.toNat (x1 * 32) = rw9 by omega] at hsc9
          exact r_zret (pc := 100) dX6_refine_100 rfl (iv_nar (by omega)) ⟨rfl, Co27, Fr27, _, ht12, rfl, by omega, (by assumption : rfI Ti Co Co27 rw9 gn).1, fun p9 h9 g9 => by
                have h8 := (by assumption : rfI Ti Co Co27 rw9 gn).2 p9 h9 g9
                exact ⟨Classical.byContradiction (fun q9 => hsc9 (by omega) p9 h9.1 h9.2.1 h8), h8⟩⟩
        · refine r_aload_n (pc := 46) dX6_refine_46 (i := 0) rfl rfl ?_
          refine r_iload_n (pc := 47) dX6_refine_47 (i := 3) rfl rfl ?_
          refine r_iconst (pc := 48) (v := iv 0) dX6_refine_48 (by decide) ?_
          refine r_iload_n (pc := 49) dX6_refine_49 (i := 2) rfl rfl ?_
          obtain ⟨fs18, hfs18⟩ := t_obj ht27 (rd_ov (by omega) (rd_ov (by omega) (rd_ov (by omega) (rd_ov (by omega) (rd_of (ov_s _ _ _))))))
          refine r_callV (pc := 50) (as := [.int (iv (x1 * 32)), .int (iv 0), .int (iv (gn : Int))]) (st := []) kX6_91 rfl dX6_refine_50 hfs18 (c_X6_recolourx (d := d - 1) (x1 := x1 * 32) (x2 := 0) (x3 := (gn : Int)) (by omega) ht27 (by omega) (by omega) (by omega)) rfl (by omega) (Nat.le_of_ble_eq_true rfl) (Nat.zero_le _) (Nat.zero_le _) rfl (fun r13 hp14 n15 q16 => ?_)
          obtain ⟨hnn15, hrr13, Fr50, ht17, hrc50⟩ := q16
          subst n15 r13
          change Rn _ _ _ 53 _ [] _ _ _ _ _
          refine r_aload_n (pc := 53) dX6_refine_53 (i := 0) rfl rfl ?_
          refine r_iload_n (pc := 54) dX6_refine_54 (i := 3) rfl rfl ?_
          refine r_bipush (pc := 55) (v := iv 16) dX6_refine_55 (by decide) ?_
          refine r_iload_n (pc := 57) dX6_refine_57 (i := 2) rfl rfl ?_
          obtain ⟨fs24, hfs24⟩ := t_obj ht17 (rd_ov (by omega) (rd_ov (by omega) (rd_ov (by omega) (rd_ov (by omega) (rd_of (ov_s _ _ _))))))
          refine r_callV (pc := 58) (as := [.int (iv (x1 * 32)), .int (iv 16), .int (iv (gn : Int))]) (st := []) kX6_91 rfl dX6_refine_58 hfs24 (c_X6_recolourx (d := d - 1) (x1 := x1 * 32) (x2 := 16) (x3 := (gn : Int)) (by omega) ht17 (by omega) (by omega) (by omega)) rfl (by omega) (Nat.le_of_ble_eq_true rfl) (Nat.zero_le _) (Nat.zero_le _) rfl (fun r19 hp20 n21 q22 => ?_)
          obtain ⟨hnn21, hrr19, Fr58, ht23, hrc58⟩ := q22
          subst n21 r19
          change Rn _ _ _ 61 _ [] _ _ _ _ _
          refine r_aload_n (pc := 61) dX6_refine_61 (i := 0) rfl rfl ?_
          refine t_getE (pc := 62) (.ref (s + 3)) ht23 (rd_ov (by omega) (rd_ov (by omega) (rd_ov (by omega) (rd_ov (by omega) (rd_of (ov_s _ _ _)))))) fX6_18 dX6_refine_62 rfl ?_
          refine r_iconst (pc := 65) (v := iv 0) dX6_refine_65 (by decide) ?_
          refine r_aload_n (pc := 66) dX6_refine_66 (i := 0) rfl rfl ?_
          refine t_getE (pc := 67) (.ref (s + 2)) ht23 (rd_ov (by omega) (rd_ov (by omega) (rd_ov (by omega) (rd_ov (by omega) (rd_of (ov_s _ _ _)))))) fX6_15 dX6_refine_67 rfl ?_
          refine r_iload_n (pc := 70) dX6_refine_70 (i := 3) rfl rfl ?_
          refine r_bipush (pc := 71) (v := iv 32) dX6_refine_71 (by decide) ?_
          refine t_copyJX (pc := 73) (t0 := 1) ht23 (rd_ov (by omega) (rd_of (ov_s _ _ _))) (rd_ov (by omega) (rd_ov (by omega) (rd_of (ov_s _ _ _)))) aX6_95 dX6_refine_73 rfl (by decide) (by omega) (Nat.le_of_ble_eq_true rfl) (fun hp25 ht26 => ?_)
          rw [ov_in3 (by omega) (by omega)] at ht26
          have hrf : rfI Ti Co (cpJ Fr58 Co27 (Int.toNat 0) (Int.toNat (x1 * 32)) (Int.toNat 32)) rw9 gn := rf_up (row := rw9) (n := gn) (Fr0 := Fr27) (by omega) (by assumption : rfI Ti Co Co27 rw9 gn) (by
            have h9 := hrc50
            rw [show Int.toNat (x1 * 32) = rw9 by omega, Int.toNat_natCast] at h9
            exact h9) (by
            have h9 := hrc58
            rw [show Int.toNat (x1 * 32) = rw9 by omega, Int.toNat_natCast] at h9
            exact h9) (by omega)
          refine r_iload (pc := 76) dX6_refine_76 rfl ?_
          refine r_istore (pc := 78) (lv' := [(4, .int (iv v27_5)), (0, .ref s), (2, .int (iv (gn : Int))), (3, .int (iv (x1 * 32))), (5, .int (iv v27_5)), (6, .int (iv v27_6))]) dX6_refine_78 (by decide) rfl ?_
          refine r_aload_n (pc := 80) dX6_refine_80 (i := 0) rfl rfl ?_
          refine r_iload_n (pc := 81) dX6_refine_81 (i := 3) rfl rfl ?_
          refine r_iload_n (pc := 82) dX6_refine_82 (i := 2) rfl rfl ?_
          refine t_callVR (pc := 83) (as := [.int (iv (x1 * 32)), .int (iv (gn : Int))]) (st := []) ht26 (rd_ov (by omega) (rd_ov (by omega) (rd_ov (by omega) (rd_ov (by omega) (rd_of (ov_s _ _ _)))))) kX6_87 rfl dX6_refine_83 (c_X6_countColoursx (d := d - 1) (Co := (cpJ Fr58 Co27 (Int.toNat 0) (Int.toNat (x1 * 32)) (Int.toNat 32))) (x1 := x1 * 32) (x2 := (gn : Int)) (by omega) (rd_ov (by omega) (rd_ov (by omega) (rd_ov (by omega) (rd_ov (by omega) (rd_of (ov_s _ _ _)))))) (rd_ov (by omega) (rd_ov (by omega) (rd_of (ov_s _ _ _)))) ht26 (by omega) (by omega)) rfl (by omega) (Nat.le_of_ble_eq_true rfl) rfl (fun hp28 y27 ht29 by27 => ?_)
          refine r_istore (pc := 86) (lv' := [(5, .int (iv y27)), (4, .int (iv v27_5)), (0, .ref s), (2, .int (iv (gn : Int))), (3, .int (iv (x1 * 32))), (6, .int (iv v27_6))]) dX6_refine_86 (by decide) rfl ?_
          refine r_iinc (pc := 88) (v := iv (v27_6 + 1)) (lv' := [(6, .int (iv (v27_6 + 1))), (5, .int (iv y27)), (4, .int (iv v27_5)), (0, .ref s), (2, .int (iv (gn : Int))), (3, .int (iv (x1 * 32)))]) dX6_refine_88 rfl (iv_add _ _) (by decide) rfl ?_
          refine r_goto (pc := 91) (tgt := 27) dX6_refine_91 (by decide) ?_
          refine Rn.pick (lv' := [(0, .ref s), (2, .int (iv (gn : Int))), (3, .int (iv (x1 * 32))), (4, .int (iv v27_5)), (5, .int (iv y27)), (6, .int (iv (v27_6 + 1)))]) [3, 4, 5, 2, 1, 0] rfl ?_
          exact ih27 (Int.toNat (16 - (v27_6 + 1))) (by omega) (cpJ Fr58 Co27 (Int.toNat 0) (Int.toNat (x1 * 32)) (Int.toNat 32)) Fr58 _ ht29 v27_5 y27 (v27_6 + 1) ⟨by omega, by omega, by omega, by omega, by omega, by omega, by omega, by (first | exact hrf | exact rf_0)⟩ (by omega)
  refine Rn.pick (lv' := [(0, .ref s), (2, .int (iv (gn : Int))), (3, .int (iv (x1 * 32))), (4, .int (iv 0)), (5, .int (iv y1)), (6, .int (iv 0))]) [5, 4, 3, 2, 1, 0] rfl ?_
  exact B27 (Int.toNat (16 - 0)) Co Fr _ ht3 0 y1 0 ⟨by omega, by omega, by omega, by omega, by omega, by omega, by omega, by (first | exact hrf | exact rf_0)⟩ (by omega)
