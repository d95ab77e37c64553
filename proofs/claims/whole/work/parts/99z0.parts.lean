def pB (Γ : TG) (cI : ClassId) (n N : Nat) : Option Value → MH → Nat → Prop := fun r hp1 n1 => n1 = n + 1 ∧ r = some (.ref n) ∧ ∃ Γ1 : TG, Ext Γ Γ1 ∧ Γ1 n = some (tI cI N (rg 0 65535)) ∧ Tw Γ1 hp1
set_option maxHeartbeats 4000000 in
set_option maxRecDepth 100000 in
theorem t_X8_withoutBridges {D : va_G} {cI cJ cZ cT : ClassId} {lo b L : Nat} {xs : Nat → Int32} {hp : MH} {n d : Nat} {Γ : TG} {ga : Nat} {gF : Nat} {gT : Nat} {gW : Nat} {gC : Nat} {gTl : Nat} {gHd : Nat} {gBy : Nat} {gOu : Nat} {gIn : Nat} {gJo : Nat} {gn : Nat} {gm : Nat} {gq : Nat} {gdr : Int} (hd0 : 2 ≤ d) (hg : TyG Γ cI cJ cZ ga gF gT gW gC gTl gHd gBy gOu gIn gJo gn gm gq gdr) (ht : Tw Γ hp) : Mt (gG D cI cJ cZ cT lo b L xs) mX8_withoutBridges d 1 gn [.ref ga] hp n (pB Γ cI n gn) := by
  refine Mt.of rfl (Nat.le_of_ble_eq_true rfl) ?_
  refine Rn.pick (lv' := [(0, .ref ga)]) [0] rfl ?_
  obtain ⟨hg_O, hg_from, hg_to, hg_weight, hg_cost, hg_tail, hg_head, hg_by, hg_out, hg_in, hg_joined, hg_b⟩ := id hg
  refine r_aload_n (pc := 0) dX8_withoutBridges_0 (i := 0) rfl rfl ?_
  refine t_getE (pc := 1) (.ref gJo) ht hg_O fX8_60 dX8_withoutBridges_1 rfl ?_
  refine t_clone (pc := 4) (t0 := 0) ht hg_joined aX8_63 dX8_withoutBridges_4 rfl (Nat.le_of_ble_eq_true rfl) (by omega) (by omega) (fun hp1 Γ2 hE3 hN4 ht5 => ?_)
  refine t_castA (pc := 7) (t0 := 0) ht5 (rd_of hN4) dX8_withoutBridges_7 (tb_t (k := 711) (by decide +kernel)) rfl ?_
  refine r_astore_n (pc := 10) (lv' := [(1, .ref n), (0, .ref ga)]) dX8_withoutBridges_10 (i := 1) rfl (by decide) rfl ?_
  refine r_iconst (pc := 11) (v := iv 0) dX8_withoutBridges_11 (by decide) ?_
  refine r_istore_n (pc := 12) (lv' := [(2, .int (iv 0)), (1, .ref n), (0, .ref ga)]) dX8_withoutBridges_12 (i := 2) rfl (by decide) rfl ?_
  have B13 : ∀ k : Nat, ∀ hp13 : MH, Tw Γ2 hp13 → ∀  (v13_2 : Int), 0 ≤ v13_2 ∧ v13_2 ≤ 60 → 60 - v13_2 ≤ (k : Int) → Rn (gG D cI cJ cZ cT lo b L xs) mX8_withoutBridges d 13 [(0, .ref ga), (1, .ref n), (2, .int (iv v13_2))] [] hp13 (n + 1) (1 - 1) (gn - gn) (pB Γ cI n gn) := by
    refine lpS _ ?_
    intro k13 ih13 hp13 ht13 v13_2 hf13 hm13
    refine r_iload_n (pc := 13) dX8_withoutBridges_13 (i := 2) rfl rfl ?_
    refine r_aload_n (pc := 14) dX8_withoutBridges_14 (i := 0) rfl rfl ?_
    refine t_getE (pc := 15) (.int (iv (gm : Int))) ht13 (rd_ext hE3 hg_O) fX8_31 dX8_withoutBridges_15 rfl ?_
    refine t_icmp_ge (pc := 18) (tgt := 95) dX8_withoutBridges_18 (by decide) (by omega) (by omega) (fun c18 => ?_) (fun c18 => ?_)
    · refine r_aload_n (pc := 95) dX8_withoutBridges_95 (i := 1) rfl rfl ?_
      exact r_aret (pc := 96) dX8_withoutBridges_96 rfl (Or.inr ⟨_, rfl⟩) ⟨rfl, rfl, Γ2, hE3, hN4, ht13⟩
    · refine r_aload_n (pc := 21) dX8_withoutBridges_21 (i := 0) rfl rfl ?_
      refine t_getE (pc := 22) (.ref gF) ht13 (rd_ext hE3 hg_O) fX8_72 dX8_withoutBridges_22 rfl ?_
      refine r_iload_n (pc := 25) dX8_withoutBridges_25 (i := 2) rfl rfl ?_
      refine t_ialdR (pc := 26) (t0 := 0) ht13 (rd_ext hE3 hg_from) dX8_withoutBridges_26 rfl (by omega) (by omega) (fun y6 by6 => ?_)
      refine r_istore_n (pc := 27) (lv' := [(3, .int (iv y6)), (0, .ref ga), (1, .ref n), (2, .int (iv v13_2))]) dX8_withoutBridges_27 (i := 3) rfl (by decide) rfl ?_
      refine r_aload_n (pc := 28) dX8_withoutBridges_28 (i := 0) rfl rfl ?_
      refine t_getE (pc := 29) (.ref gT) ht13 (rd_ext hE3 hg_O) fX8_75 dX8_withoutBridges_29 rfl ?_
      refine r_iload_n (pc := 32) dX8_withoutBridges_32 (i := 2) rfl rfl ?_
      refine t_ialdR (pc := 33) (t0 := 0) ht13 (rd_ext hE3 hg_to) dX8_withoutBridges_33 rfl (by omega) (by omega) (fun y7 by7 => ?_)
      refine r_istore (pc := 34) (lv' := [(4, .int (iv y7)), (3, .int (iv y6)), (0, .ref ga), (1, .ref n), (2, .int (iv v13_2))]) dX8_withoutBridges_34 (by decide) rfl ?_
      refine r_iload_n (pc := 36) dX8_withoutBridges_36 (i := 3) rfl rfl ?_
      refine r_iload (pc := 37) dX8_withoutBridges_37 rfl ?_
      have B89 : ∀ hp89 : MH, Tw Γ2 hp89 → True → Rn (gG D cI cJ cZ cT lo b L xs) mX8_withoutBridges d 89 [(0, .ref ga), (1, .ref n), (2, .int (iv v13_2))] [] hp89 (n + 1) (1 - 1) (gn - gn) (pB Γ cI n gn) := by
        intro hp89 ht89 hf89
        refine r_iinc (pc := 89) (v := iv (v13_2 + 1)) (lv' := [(2, .int (iv (v13_2 + 1))), (0, .ref ga), (1, .ref n)]) dX8_withoutBridges_89 rfl (iv_add _ _) (by decide) rfl ?_
        refine r_goto (pc := 92) (tgt := 13) dX8_withoutBridges_92 (by decide) ?_
        refine Rn.pick (lv' := [(0, .ref ga), (1, .ref n), (2, .int (iv (v13_2 + 1)))]) [1, 2, 0] rfl ?_
        exact ih13 (Int.toNat (60 - (v13_2 + 1))) (by omega) _ ht89 (v13_2 + 1) ⟨by omega, by omega⟩ (by omega)
      refine t_icmp_eq (pc := 39) (tgt := 89) dX8_withoutBridges_39 (by decide) (by omega) (by omega) (fun c39 => ?_) (fun c39 => ?_)
      · refine Rn.pick (lv' := [(0, .ref ga), (1, .ref n), (2, .int (iv v13_2))]) [2, 3, 4] rfl ?_
        exact B89 _ ht13 trivial
      · refine r_aload_n (pc := 42) dX8_withoutBridges_42 (i := 0) rfl rfl ?_
        refine r_iload_n (pc := 43) dX8_withoutBridges_43 (i := 2) rfl rfl ?_
        refine t_callVR (pc := 44) (as := [.int (iv v13_2)]) (st := []) ht13 (rd_ext hE3 hg_O) kX8_78 rfl dX8_withoutBridges_44 (t_X3_hasTwin (d := d - 1) (x1 := v13_2) (by omega) (TyG.ext hE3 hg)  ht13 (by omega) (by omega)) rfl (by omega) (Nat.le_of_ble_eq_true rfl) rfl (fun hp8 y10 ht9 by10 => ?_)
        refine t_if_ne (pc := 47) (tgt := 89) dX8_withoutBridges_47 (by decide) (by omega) (fun c47 => ?_) (fun c47 => ?_)
        · refine Rn.pick (lv' := [(0, .ref ga), (1, .ref n), (2, .int (iv v13_2))]) [2, 3, 4] rfl ?_
          exact B89 _ ht9 trivial
        · refine r_aload_n (pc := 50) dX8_withoutBridges_50 (i := 1) rfl rfl ?_
          refine r_iload_n (pc := 51) dX8_withoutBridges_51 (i := 3) rfl rfl ?_
          refine r_iload (pc := 52) dX8_withoutBridges_52 rfl ?_
          refine t_callSV (pc := 54) (as := [.ref n, .int (iv y6), .int (iv y7)]) (st := []) kX8_82 dX8_withoutBridges_54 (t_X8_cut (d := d - 1) (rA := n) (rL := gn) (x1 := y6) (x2 := y7) (by omega)  hN4 (by omega) ht9 (by omega) (by omega) (by omega)) rfl (by omega) (Nat.le_of_ble_eq_true rfl) rfl (fun hp11 ht12 => ?_)
          refine r_aload_n (pc := 57) dX8_withoutBridges_57 (i := 1) rfl rfl ?_
          refine r_iconst (pc := 58) (v := iv 1) dX8_withoutBridges_58 (by decide) ?_
          refine r_iload_n (pc := 59) dX8_withoutBridges_59 (i := 3) rfl rfl ?_
          obtain ⟨z14, hz14, bz14⟩ := shl_1 0 15 y6 (by omega) (by omega) (by decide)
          refine r_ishl (pc := 60) (v := iv z14) dX8_withoutBridges_60 hz14 ?_
          refine r_iload (pc := 61) dX8_withoutBridges_61 rfl ?_
          refine t_callSR (pc := 63) (as := [.ref n, .int (iv z14), .int (iv y7)]) (st := []) kX8_56 dX8_withoutBridges_63 (t_X8_distance (d := d - 1) (rA := n) (rL := gn) (x1 := z14) (x2 := y7) (by omega)  (rd_of hN4) (by omega) ht12 (by omega) (by omega) ) rfl (by omega) (Nat.le_of_ble_eq_true rfl) rfl (fun hp15 y17 ht16 by17 => ?_)
          refine t_if_lt (pc := 66) (tgt := 89) dX8_withoutBridges_66 (by decide) (by omega) (fun c66 => ?_) (fun c66 => ?_)
          · refine Rn.pick (lv' := [(0, .ref ga), (1, .ref n), (2, .int (iv v13_2))]) [2, 3, 4] rfl ?_
            exact B89 _ ht16 trivial
          · refine r_aload_n (pc := 69) dX8_withoutBridges_69 (i := 1) rfl rfl ?_
            refine r_iload_n (pc := 70) dX8_withoutBridges_70 (i := 3) rfl rfl ?_
            refine r_dup2_11 (pc := 71) dX8_withoutBridges_71 rfl rfl ?_
            refine t_ialdR (pc := 72) (t0 := 0) ht16 (rd_of hN4) dX8_withoutBridges_72 rfl (by omega) (by omega) (fun y18 by18 => ?_)
            refine r_iconst (pc := 73) (v := iv 1) dX8_withoutBridges_73 (by decide) ?_
            refine r_iload (pc := 74) dX8_withoutBridges_74 rfl ?_
            obtain ⟨z19, hz19, bz19⟩ := shl_1 0 15 y7 (by omega) (by omega) (by decide)
            refine r_ishl (pc := 76) (v := iv z19) dX8_withoutBridges_76 hz19 ?_
            obtain ⟨z20, hz20, bz20⟩ := or_2 16 y18 z19 (by omega) (by omega) (by decide)
            refine r_ior (pc := 77) (v := iv z20) dX8_withoutBridges_77 hz20 ?_
            refine t_iastR (pc := 78) (t0 := 0) ht16 hN4 dX8_withoutBridges_78 rfl (by omega) (by omega) (by omega) (by omega) (fun hp21 ht22 => ?_)
            refine r_aload_n (pc := 79) dX8_withoutBridges_79 (i := 1) rfl rfl ?_
            refine r_iload (pc := 80) dX8_withoutBridges_80 rfl ?_
            refine r_dup2_11 (pc := 82) dX8_withoutBridges_82 rfl rfl ?_
            refine t_ialdR (pc := 83) (t0 := 0) ht22 (rd_of hN4) dX8_withoutBridges_83 rfl (by omega) (by omega) (fun y23 by23 => ?_)
            refine r_iconst (pc := 84) (v := iv 1) dX8_withoutBridges_84 (by decide) ?_
            refine r_iload_n (pc := 85) dX8_withoutBridges_85 (i := 3) rfl rfl ?_
            obtain ⟨z24, hz24, bz24⟩ := shl_1 0 15 y6 (by omega) (by omega) (by decide)
            refine r_ishl (pc := 86) (v := iv z24) dX8_withoutBridges_86 hz24 ?_
            obtain ⟨z25, hz25, bz25⟩ := or_2 16 y23 z24 (by omega) (by omega) (by decide)
            refine r_ior (pc := 87) (v := iv z25) dX8_withoutBridges_87 hz25 ?_
            refine t_iastR (pc := 88) (t0 := 0) ht22 hN4 dX8_withoutBridges_88 rfl (by omega) (by omega) (by omega) (by omega) (fun hp26 ht27 => ?_)
            refine Rn.pick (lv' := [(0, .ref ga), (1, .ref n), (2, .int (iv v13_2))]) [2, 3, 4] rfl ?_
            exact B89 _ ht27 trivial
  refine Rn.pick (lv' := [(0, .ref ga), (1, .ref n), (2, .int (iv 0))]) [2, 1, 0] rfl ?_
  exact B13 (Int.toNat (60 - 0)) _ ht5 0 ⟨by omega, by omega⟩ (by omega)
set_option maxHeartbeats 4000000 in
set_option maxRecDepth 100000 in
theorem t_X5_haveSameNeighbours {D : va_G} {cI cJ cZ cT : ClassId} {lo b L : Nat} {xs : Nat → Int32} {hp : MH} {n d : Nat} {Γ : TG} {ga : Nat} {gF : Nat} {gT : Nat} {gW : Nat} {gC : Nat} {gTl : Nat} {gHd : Nat} {gBy : Nat} {gOu : Nat} {gIn : Nat} {gJo : Nat} {gn : Nat} {gm : Nat} {gq : Nat} {gdr : Int} {x1 x2 : Int} (hd0 : 0 ≤ d) (hg : TyG Γ cI cJ cZ ga gF gT gW gC gTl gHd gBy gOu gIn gJo gn gm gq gdr) (ht : Tw Γ hp) (hx1 : 0 ≤ x1 ∧ x1 ≤ 15) (hx2 : 0 ≤ x2 ∧ x2 ≤ 15) (hk : x1 < (gn : Int) ∧ x2 < (gn : Int)) : Mt (gG D cI cJ cZ cT lo b L xs) mX5_haveSameNeighbours d 0 0 [.ref ga, .int (iv x1), .int (iv x2)] hp n (pR Γ n 0 1) := by
  obtain ⟨hg_O, hg_from, hg_to, hg_weight, hg_cost, hg_tail, hg_head, hg_by, hg_out, hg_in, hg_joined, hg_b⟩ := id hg
  refine Mt.of rfl (Nat.le_of_ble_eq_true rfl) ?_
  refine Rn.pick (lv' := [(0, .ref ga), (1, .int (iv x1)), (2, .int (iv x2))]) [0, 1, 2] rfl ?_
  refine r_aload_n (pc := 0) dX5_haveSameNeighbours_0 (i := 0) rfl rfl ?_
  refine t_getE (pc := 1) (.ref gOu) ht hg_O fX5_45 dX5_haveSameNeighbours_1 rfl ?_
  refine r_iload_n (pc := 4) dX5_haveSameNeighbours_4 (i := 1) rfl rfl ?_
  refine t_ialdR (pc := 5) (t0 := 0) ht hg_out dX5_haveSameNeighbours_5 rfl (by omega) (by omega) (fun y1 by1 => ?_)
  refine r_iconst (pc := 6) (v := iv 1) dX5_haveSameNeighbours_6 (by decide) ?_
  refine r_iload_n (pc := 7) dX5_haveSameNeighbours_7 (i := 1) rfl rfl ?_
  obtain ⟨z2, hz2, bz2⟩ := shl_1 0 15 x1 (by omega) (by omega) (by decide)
  refine r_ishl (pc := 8) (v := iv z2) dX5_haveSameNeighbours_8 hz2 ?_
  refine r_iconst (pc := 9) (v := iv (-1)) dX5_haveSameNeighbours_9 (by decide) ?_
  refine r_ixor (pc := 10) (v := iv (-z2 - 1)) dX5_haveSameNeighbours_10 (iv_not _) ?_
  obtain ⟨z3, hz3, bz3⟩ := and_l y1 (-z2 - 1) (by omega) (by omega)
  refine r_iand (pc := 11) (v := iv z3) dX5_haveSameNeighbours_11 hz3 ?_
  refine r_aload_n (pc := 12) dX5_haveSameNeighbours_12 (i := 0) rfl rfl ?_
  refine t_getE (pc := 13) (.ref gOu) ht hg_O fX5_45 dX5_haveSameNeighbours_13 rfl ?_
  refine r_iload_n (pc := 16) dX5_haveSameNeighbours_16 (i := 2) rfl rfl ?_
  refine t_ialdR (pc := 17) (t0 := 0) ht hg_out dX5_haveSameNeighbours_17 rfl (by omega) (by omega) (fun y4 by4 => ?_)
  refine r_iconst (pc := 18) (v := iv 1) dX5_haveSameNeighbours_18 (by decide) ?_
  refine r_iload_n (pc := 19) dX5_haveSameNeighbours_19 (i := 2) rfl rfl ?_
  obtain ⟨z5, hz5, bz5⟩ := shl_1 0 15 x2 (by omega) (by omega) (by decide)
  refine r_ishl (pc := 20) (v := iv z5) dX5_haveSameNeighbours_20 hz5 ?_
  refine r_iconst (pc := 21) (v := iv (-1)) dX5_haveSameNeighbours_21 (by decide) ?_
  refine r_ixor (pc := 22) (v := iv (-z5 - 1)) dX5_haveSameNeighbours_22 (iv_not _) ?_
  obtain ⟨z6, hz6, bz6⟩ := and_l y4 (-z5 - 1) (by omega) (by omega)
  refine r_iand (pc := 23) (v := iv z6) dX5_haveSameNeighbours_23 hz6 ?_
  have B59 : ∀ hp59 : MH, Tw Γ hp59 → ∀  (u59_0 : Int), 0 ≤ u59_0 ∧ u59_0 ≤ 1 → Rn (gG D cI cJ cZ cT lo b L xs) mX5_haveSameNeighbours d 59 [] [.int (iv u59_0)] hp59 n 0 0 (pR Γ n 0 1) := by
    intro hp59 ht59 u59_0 hf59
    exact r_zret (pc := 59) dX5_haveSameNeighbours_59 rfl (iv_nar (by omega)) ⟨rfl, ht59, _, rfl, by omega, by omega⟩
  have B58 : ∀ hp58 : MH, Tw Γ hp58 → True → Rn (gG D cI cJ cZ cT lo b L xs) mX5_haveSameNeighbours d 58 [] [] hp58 n 0 0 (pR Γ n 0 1) := by
    intro hp58 ht58 hf58
    refine r_iconst (pc := 58) (v := iv 0) dX5_haveSameNeighbours_58 (by decide) ?_
    refine Rn.pick (lv' := []) [] rfl ?_
    exact B59 _ ht58 0 ⟨by omega, by omega⟩
  refine t_icmp_ne (pc := 24) (tgt := 58) dX5_haveSameNeighbours_24 (by decide) (by omega) (by omega) (fun c24 => ?_) (fun c24 => ?_)
  · refine Rn.pick (lv' := []) [] rfl ?_
    exact B58 _ ht trivial
  · refine r_aload_n (pc := 27) dX5_haveSameNeighbours_27 (i := 0) rfl rfl ?_
    refine t_getE (pc := 28) (.ref gIn) ht hg_O fX5_52 dX5_haveSameNeighbours_28 rfl ?_
    refine r_iload_n (pc := 31) dX5_haveSameNeighbours_31 (i := 1) rfl rfl ?_
    refine t_ialdR (pc := 32) (t0 := 0) ht hg_in dX5_haveSameNeighbours_32 rfl (by omega) (by omega) (fun y7 by7 => ?_)
    refine r_iconst (pc := 33) (v := iv 1) dX5_haveSameNeighbours_33 (by decide) ?_
    refine r_iload_n (pc := 34) dX5_haveSameNeighbours_34 (i := 1) rfl rfl ?_
    obtain ⟨z8, hz8, bz8⟩ := shl_1 0 15 x1 (by omega) (by omega) (by decide)
    refine r_ishl (pc := 35) (v := iv z8) dX5_haveSameNeighbours_35 hz8 ?_
    refine r_iconst (pc := 36) (v := iv (-1)) dX5_haveSameNeighbours_36 (by decide) ?_
    refine r_ixor (pc := 37) (v := iv (-z8 - 1)) dX5_haveSameNeighbours_37 (iv_not _) ?_
    obtain ⟨z9, hz9, bz9⟩ := and_l y7 (-z8 - 1) (by omega) (by omega)
    refine r_iand (pc := 38) (v := iv z9) dX5_haveSameNeighbours_38 hz9 ?_
    refine r_aload_n (pc := 39) dX5_haveSameNeighbours_39 (i := 0) rfl rfl ?_
    refine t_getE (pc := 40) (.ref gIn) ht hg_O fX5_52 dX5_haveSameNeighbours_40 rfl ?_
    refine r_iload_n (pc := 43) dX5_haveSameNeighbours_43 (i := 2) rfl rfl ?_
    refine t_ialdR (pc := 44) (t0 := 0) ht hg_in dX5_haveSameNeighbours_44 rfl (by omega) (by omega) (fun y10 by10 => ?_)
    refine r_iconst (pc := 45) (v := iv 1) dX5_haveSameNeighbours_45 (by decide) ?_
    refine r_iload_n (pc := 46) dX5_haveSameNeighbours_46 (i := 2) rfl rfl ?_
    obtain ⟨z11, hz11, bz11⟩ := shl_1 0 15 x2 (by omega) (by omega) (by decide)
    refine r_ishl (pc := 47) (v := iv z11) dX5_haveSameNeighbours_47 hz11 ?_
    refine r_iconst (pc := 48) (v := iv (-1)) dX5_haveSameNeighbours_48 (by decide) ?_
    refine r_ixor (pc := 49) (v := iv (-z11 - 1)) dX5_haveSameNeighbours_49 (iv_not _) ?_
    obtain ⟨z12, hz12, bz12⟩ := and_l y10 (-z11 - 1) (by omega) (by omega)
    refine r_iand (pc := 50) (v := iv z12) dX5_haveSameNeighbours_50 hz12 ?_
    refine t_icmp_ne (pc := 51) (tgt := 58) dX5_haveSameNeighbours_51 (by decide) (by omega) (by omega) (fun c51 => ?_) (fun c51 => ?_)
    · refine Rn.pick (lv' := []) [] rfl ?_
      exact B58 _ ht trivial
    · refine r_iconst (pc := 54) (v := iv 1) dX5_haveSameNeighbours_54 (by decide) ?_
      refine r_goto (pc := 55) (tgt := 59) dX5_haveSameNeighbours_55 (by decide) ?_
      refine Rn.pick (lv' := []) [] rfl ?_
      exact B59 _ ht 1 ⟨by omega, by omega⟩
set_option maxHeartbeats 4000000 in
set_option maxRecDepth 100000 in
theorem t_X5_haveSameNumber {D : va_G} {cI cJ cZ cT : ClassId} {lo b L : Nat} {xs : Nat → Int32} {hp : MH} {n d : Nat} {Γ : TG} {ca : Nat} {cM : Nat} {cn : Nat} {x1 x2 : Int} (hd0 : 0 ≤ d) (hc : TyC Γ cI cJ cZ ca cM cn) (ht : Tw Γ hp) (hx1 : 0 ≤ x1 ∧ x1 ≤ 15) (hx2 : 0 ≤ x2 ∧ x2 ≤ 15) : Mt (gG D cI cJ cZ cT lo b L xs) mX5_haveSameNumber d 0 0 [.ref ca, .int (iv x1), .int (iv x2)] hp n (pR Γ n 0 1) := by
  obtain ⟨hc_O, hc_numbers, hc_b⟩ := id hc
  refine Mt.of rfl (Nat.le_of_ble_eq_true rfl) ?_
  refine Rn.pick (lv' := [(0, .ref ca), (1, .int (iv x1)), (2, .int (iv x2))]) [0, 1, 2] rfl ?_
  refine r_iload_n (pc := 0) dX5_haveSameNumber_0 (i := 1) rfl rfl ?_
  refine r_aload_n (pc := 1) dX5_haveSameNumber_1 (i := 0) rfl rfl ?_
  refine t_getE (pc := 2) (.int (iv (cn : Int))) ht hc_O fX5_67 dX5_haveSameNumber_2 rfl ?_
  have B37 : ∀ hp37 : MH, Tw Γ hp37 → ∀  (u37_0 : Int), 0 ≤ u37_0 ∧ u37_0 ≤ 1 → Rn (gG D cI cJ cZ cT lo b L xs) mX5_haveSameNumber d 37 [] [.int (iv u37_0)] hp37 n 0 0 (pR Γ n 0 1) := by
    intro hp37 ht37 u37_0 hf37
    exact r_zret (pc := 37) dX5_haveSameNumber_37 rfl (iv_nar (by omega)) ⟨rfl, ht37, _, rfl, by omega, by omega⟩
  have B36 : ∀ hp36 : MH, Tw Γ hp36 → True → Rn (gG D cI cJ cZ cT lo b L xs) mX5_haveSameNumber d 36 [] [] hp36 n 0 0 (pR Γ n 0 1) := by
    intro hp36 ht36 hf36
    refine r_iconst (pc := 36) (v := iv 0) dX5_haveSameNumber_36 (by decide) ?_
    refine Rn.pick (lv' := []) [] rfl ?_
    exact B37 _ ht36 0 ⟨by omega, by omega⟩
  refine t_icmp_ge (pc := 5) (tgt := 36) dX5_haveSameNumber_5 (by decide) (by omega) (by omega) (fun c5 => ?_) (fun c5 => ?_)
  · refine Rn.pick (lv' := []) [] rfl ?_
    exact B36 _ ht trivial
  · refine r_iload_n (pc := 8) dX5_haveSameNumber_8 (i := 2) rfl rfl ?_
    refine r_aload_n (pc := 9) dX5_haveSameNumber_9 (i := 0) rfl rfl ?_
    refine t_getE (pc := 10) (.int (iv (cn : Int))) ht hc_O fX5_67 dX5_haveSameNumber_10 rfl ?_
    refine t_icmp_ge (pc := 13) (tgt := 36) dX5_haveSameNumber_13 (by decide) (by omega) (by omega) (fun c13 => ?_) (fun c13 => ?_)
    · refine Rn.pick (lv' := []) [] rfl ?_
      exact B36 _ ht trivial
    · refine r_aload_n (pc := 16) dX5_haveSameNumber_16 (i := 0) rfl rfl ?_
      refine t_getE (pc := 17) (.ref cM) ht hc_O fX5_70 dX5_haveSameNumber_17 rfl ?_
      refine r_iload_n (pc := 20) dX5_haveSameNumber_20 (i := 1) rfl rfl ?_
      refine t_lald (pc := 21) (t0 := 1) ht hc_numbers dX5_haveSameNumber_21 rfl (by omega) (by omega) (fun w1 _ => ?_)
      refine r_aload_n (pc := 22) dX5_haveSameNumber_22 (i := 0) rfl rfl ?_
      refine t_getE (pc := 23) (.ref cM) ht hc_O fX5_70 dX5_haveSameNumber_23 rfl ?_
      refine r_iload_n (pc := 26) dX5_haveSameNumber_26 (i := 2) rfl rfl ?_
      refine t_lald (pc := 27) (t0 := 1) ht hc_numbers dX5_haveSameNumber_27 rfl (by omega) (by omega) (fun w2 _ => ?_)
      refine r_lcmp (pc := 28) dX5_haveSameNumber_28 ?_
      refine r_if_ne (pc := 29) (tgt := 36) dX5_haveSameNumber_29 (by decide) (fun c29 => ?_) (fun c29 => ?_)
      · refine Rn.pick (lv' := []) [] rfl ?_
        exact B36 _ ht trivial
      · refine r_iconst (pc := 32) (v := iv 1) dX5_haveSameNumber_32 (by decide) ?_
        refine r_goto (pc := 33) (tgt := 37) dX5_haveSameNumber_33 (by decide) ?_
        refine Rn.pick (lv' := []) [] rfl ?_
        exact B37 _ ht 1 ⟨by omega, by omega⟩
set_option maxHeartbeats 4000000 in
set_option maxRecDepth 100000 in
theorem t_X5_first_n {D : va_G} {cI cJ cZ cT : ClassId} {lo b L : Nat} {xs : Nat → Int32} {hp : MH} {n d : Nat} {Γ : TG} {ga : Nat} {gF : Nat} {gT : Nat} {gW : Nat} {gC : Nat} {gTl : Nat} {gHd : Nat} {gBy : Nat} {gOu : Nat} {gIn : Nat} {gJo : Nat} {gn : Nat} {gm : Nat} {gq : Nat} {gdr : Int} {rA rL : Nat} {x1 x4 : Int} (hd0 : 2 ≤ d) (hg : TyG Γ cI cJ cZ ga gF gT gW gC gTl gHd gBy gOu gIn gJo gn gm gq gdr) (hrA : rd Γ rA (tI cI rL (rg 0 65535))) (hrL : rL ≤ 16) (ht : Tw Γ hp) (hx1 : 0 ≤ x1 ∧ x1 ≤ 3) (hx4 : 0 ≤ x4 ∧ x4 ≤ 15) (hk : x4 < (gn : Int)) : Mt (gG D cI cJ cZ cT lo b L xs) mX5_firstOfItsPart d 0 0 [.ref ga, .int (iv x1), .ref rA, .null, .int (iv x4)] hp n (pR Γ n 0 63) := by
  obtain ⟨hg_O, hg_from, hg_to, hg_weight, hg_cost, hg_tail, hg_head, hg_by, hg_out, hg_in, hg_joined, hg_b⟩ := id hg
  refine Mt.of rfl (Nat.le_of_ble_eq_true rfl) ?_
  refine Rn.pick (lv' := [(0, .ref ga), (1, .int (iv x1)), (2, .ref rA), (3, .null), (4, .int (iv x4))]) [0, 1, 2, 3, 4] rfl ?_
  refine r_aload_n (pc := 0) dX5_firstOfItsPart_0 (i := 0) rfl rfl ?_
  refine t_callVR (pc := 1) (as := []) (st := []) ht hg_O kX5_41 rfl dX5_firstOfItsPart_1 (t_X3_allNodes (d := d - 1)  (by omega) hg  ht  ) rfl (by omega) (Nat.le_of_ble_eq_true rfl) rfl (fun hp1 y3 ht2 by3 => ?_)
  refine r_istore (pc := 4) (lv' := [(5, .int (iv y3)), (0, .ref ga), (1, .int (iv x1)), (2, .ref rA), (3, .null), (4, .int (iv x4))]) dX5_firstOfItsPart_4 (by decide) rfl ?_
  refine r_iload_n (pc := 6) dX5_firstOfItsPart_6 (i := 1) rfl rfl ?_
  refine t_if_ne (pc := 7) (tgt := 41) dX5_firstOfItsPart_7 (by decide) (by omega) (fun c7 => ?_) (fun c7 => ?_)
  · refine r_iload_n (pc := 41) dX5_firstOfItsPart_41 (i := 1) rfl rfl ?_
    refine r_iconst (pc := 42) (v := iv 1) dX5_firstOfItsPart_42 (by decide) ?_
    have B51 : ∀ hp51 : MH, Tw Γ hp51 → True → Rn (gG D cI cJ cZ cT lo b L xs) mX5_firstOfItsPart d 51 [(2, .ref rA), (4, .int (iv x4)), (5, .int (iv y3))] [] hp51 n 0 0 (pR Γ n 0 63) := by
      intro hp51 ht51 hf51
      refine r_aload_n (pc := 51) dX5_firstOfItsPart_51 (i := 2) rfl rfl ?_
      refine r_iconst (pc := 52) (v := iv 1) dX5_firstOfItsPart_52 (by decide) ?_
      refine r_iload (pc := 53) dX5_firstOfItsPart_53 rfl ?_
      obtain ⟨z4, hz4, bz4⟩ := shl_1 0 15 x4 (by omega) (by omega) (by decide)
      refine r_ishl (pc := 55) (v := iv z4) dX5_firstOfItsPart_55 hz4 ?_
      refine r_iload (pc := 56) dX5_firstOfItsPart_56 rfl ?_
      refine t_callSR (pc := 58) (as := [.ref rA, .int (iv z4), .int (iv y3)]) (st := []) kX5_48 dX5_firstOfItsPart_58 (t_X8_reach (d := d - 1) (rA := rA) (rL := rL) (x1 := z4) (x2 := y3) (by omega)  hrA (by omega) ht51 (by omega) (by omega) ) rfl (by omega) (Nat.le_of_ble_eq_true rfl) rfl (fun hp5 y7 ht6 by7 => ?_)
      refine t_callSR (pc := 61) (as := [.int (iv y7)]) (st := []) kX5_55 dX5_firstOfItsPart_61 (t_X8_lowest (d := d - 1) (x0 := y7) (by omega)   ht6 (by omega) ) rfl (by omega) (Nat.le_of_ble_eq_true rfl) rfl (fun hp8 y10 ht9 by10 => ?_)
      exact r_iret (pc := 64) dX5_firstOfItsPart_64 rfl ⟨rfl, ht9, _, rfl, by omega, by omega⟩
    refine t_icmp_eq (pc := 43) (tgt := 51) dX5_firstOfItsPart_43 (by decide) (by omega) (by omega) (fun c43 => ?_) (fun c43 => ?_)
    · refine Rn.pick (lv' := [(2, .ref rA), (4, .int (iv x4)), (5, .int (iv y3))]) [3, 5, 0] rfl ?_
      exact B51 _ ht2 trivial
    · refine r_iload_n (pc := 46) dX5_firstOfItsPart_46 (i := 1) rfl rfl ?_
      refine r_iconst (pc := 47) (v := iv 2) dX5_firstOfItsPart_47 (by decide) ?_
      refine t_icmp_ne (pc := 48) (tgt := 65) dX5_firstOfItsPart_48 (by decide) (by omega) (by omega) (fun c48 => ?_) (fun c48 => ?_)
      · refine r_iconst (pc := 65) (v := iv 0) dX5_firstOfItsPart_65 (by decide) ?_
        refine r_istore (pc := 66) (lv' := [(6, .int (iv 0)), (5, .int (iv y3)), (0, .ref ga), (1, .int (iv x1)), (2, .ref rA), (3, .null), (4, .int (iv x4))]) dX5_firstOfItsPart_66 (by decide) rfl ?_
        have B68 : ∀ k : Nat, ∀ hp68 : MH, Tw Γ hp68 → ∀  (v68_6 : Int), 0 ≤ v68_6 ∧ v68_6 ≤ 15 → 15 - v68_6 ≤ (k : Int) → Rn (gG D cI cJ cZ cT lo b L xs) mX5_firstOfItsPart d 68 [(0, .ref ga), (3, .null), (4, .int (iv x4)), (6, .int (iv v68_6))] [] hp68 n 0 0 (pR Γ n 0 63) := by
          refine lpS _ ?_
          intro k68 ih68 hp68 ht68 v68_6 hf68 hm68
          refine r_iload (pc := 68) dX5_firstOfItsPart_68 rfl ?_
          refine r_iload (pc := 70) dX5_firstOfItsPart_70 rfl ?_
          refine t_icmp_ge (pc := 72) (tgt := 113) dX5_firstOfItsPart_72 (by decide) (by omega) (by omega) (fun c72 => ?_) (fun c72 => ?_)
          · refine r_iload (pc := 113) dX5_firstOfItsPart_113 rfl ?_
            exact r_iret (pc := 115) dX5_firstOfItsPart_115 rfl ⟨rfl, ht68, _, rfl, by omega, by omega⟩
          · refine r_aload_nN (pc := 75) dX5_firstOfItsPart_75 (i := 3) rfl rfl ?_
            have B107 : ∀ hp107 : MH, Tw Γ hp107 → True → Rn (gG D cI cJ cZ cT lo b L xs) mX5_firstOfItsPart d 107 [(0, .ref ga), (3, .null), (4, .int (iv x4)), (6, .int (iv v68_6))] [] hp107 n 0 0 (pR Γ n 0 63) := by
              intro hp107 ht107 hf107
              refine r_iinc (pc := 107) (v := iv (v68_6 + 1)) (lv' := [(6, .int (iv (v68_6 + 1))), (0, .ref ga), (3, .null), (4, .int (iv x4))]) dX5_firstOfItsPart_107 rfl (iv_add _ _) (by decide) rfl ?_
              refine r_goto (pc := 110) (tgt := 68) dX5_firstOfItsPart_110 (by decide) ?_
              refine Rn.pick (lv' := [(0, .ref ga), (3, .null), (4, .int (iv x4)), (6, .int (iv (v68_6 + 1)))]) [1, 2, 3, 0] rfl ?_
              exact ih68 (Int.toNat (15 - (v68_6 + 1))) (by omega) _ ht107 (v68_6 + 1) ⟨by omega, by omega⟩ (by omega)
            have B104 : ∀ hp104 : MH, Tw Γ hp104 → True → Rn (gG D cI cJ cZ cT lo b L xs) mX5_firstOfItsPart d 104 [(6, .int (iv v68_6))] [] hp104 n 0 0 (pR Γ n 0 63) := by
              intro hp104 ht104 hf104
              refine r_iload (pc := 104) dX5_firstOfItsPart_104 rfl ?_
              exact r_iret (pc := 106) dX5_firstOfItsPart_106 rfl ⟨rfl, ht104, _, rfl, by omega, by omega⟩
            refine r_ifnonnullN (pc := 76) dX5_firstOfItsPart_76 ?_
            refine r_aload_n (pc := 79) dX5_firstOfItsPart_79 (i := 0) rfl rfl ?_
            refine r_iload (pc := 80) dX5_firstOfItsPart_80 rfl ?_
            refine r_iload (pc := 82) dX5_firstOfItsPart_82 rfl ?_
            refine t_callSR (pc := 84) (as := [.ref ga, .int (iv v68_6), .int (iv x4)]) (st := []) kX5_59 dX5_firstOfItsPart_84 (t_X5_haveSameNeighbours (d := d - 1) (x1 := v68_6) (x2 := x4) (by omega) hg  ht68 (by omega) (by omega) (by omega)) rfl (by omega) (Nat.le_of_ble_eq_true rfl) rfl (fun hp11 y13 ht12 by13 => ?_)
            refine t_if_eq (pc := 87) (tgt := 107) dX5_firstOfItsPart_87 (by decide) (by omega) (fun c87 => ?_) (fun c87 => ?_)
            · refine Rn.pick (lv' := [(0, .ref ga), (3, .null), (4, .int (iv x4)), (6, .int (iv v68_6))]) [0, 1, 2, 3] rfl ?_
              exact B107 _ ht12 trivial
            · refine r_goto (pc := 90) (tgt := 104) dX5_firstOfItsPart_90 (by decide) ?_
              refine Rn.pick (lv' := [(6, .int (iv v68_6))]) [3] rfl ?_
              exact B104 _ ht12 trivial
        refine Rn.pick (lv' := [(0, .ref ga), (3, .null), (4, .int (iv x4)), (6, .int (iv 0))]) [2, 5, 6, 0] rfl ?_
        exact B68 (Int.toNat (15 - 0)) _ ht2 0 ⟨by omega, by omega⟩ (by omega)
      · refine Rn.pick (lv' := [(2, .ref rA), (4, .int (iv x4)), (5, .int (iv y3))]) [3, 5, 0] rfl ?_
        exact B51 _ ht2 trivial
  · refine r_aload_n (pc := 10) dX5_firstOfItsPart_10 (i := 0) rfl rfl ?_
    refine t_getE (pc := 11) (.ref gOu) ht2 hg_O fX5_45 dX5_firstOfItsPart_11 rfl ?_
    refine r_iconst (pc := 14) (v := iv 1) dX5_firstOfItsPart_14 (by decide) ?_
    refine r_iload (pc := 15) dX5_firstOfItsPart_15 rfl ?_
    obtain ⟨z14, hz14, bz14⟩ := shl_1 0 15 x4 (by omega) (by omega) (by decide)
    refine r_ishl (pc := 17) (v := iv z14) dX5_firstOfItsPart_17 hz14 ?_
    refine r_iload (pc := 18) dX5_firstOfItsPart_18 rfl ?_
    refine t_callSR (pc := 20) (as := [.ref gOu, .int (iv z14), .int (iv y3)]) (st := []) kX5_48 dX5_firstOfItsPart_20 (t_X8_reach (d := d - 1) (rA := gOu) (rL := gn) (x1 := z14) (x2 := y3) (by omega)  hg_out (by omega) ht2 (by omega) (by omega) ) rfl (by omega) (Nat.le_of_ble_eq_true rfl) rfl (fun hp15 y17 ht16 by17 => ?_)
    refine r_aload_n (pc := 23) dX5_firstOfItsPart_23 (i := 0) rfl rfl ?_
    refine t_getE (pc := 24) (.ref gIn) ht16 hg_O fX5_52 dX5_firstOfItsPart_24 rfl ?_
    refine r_iconst (pc := 27) (v := iv 1) dX5_firstOfItsPart_27 (by decide) ?_
    refine r_iload (pc := 28) dX5_firstOfItsPart_28 rfl ?_
    obtain ⟨z18, hz18, bz18⟩ := shl_1 0 15 x4 (by omega) (by omega) (by decide)
    refine r_ishl (pc := 30) (v := iv z18) dX5_firstOfItsPart_30 hz18 ?_
    refine r_iload (pc := 31) dX5_firstOfItsPart_31 rfl ?_
    refine t_callSR (pc := 33) (as := [.ref gIn, .int (iv z18), .int (iv y3)]) (st := [.int (iv y17)]) kX5_48 dX5_firstOfItsPart_33 (t_X8_reach (d := d - 1) (rA := gIn) (rL := gn) (x1 := z18) (x2 := y3) (by omega)  hg_in (by omega) ht16 (by omega) (by omega) ) rfl (by omega) (Nat.le_of_ble_eq_true rfl) rfl (fun hp19 y21 ht20 by21 => ?_)
    obtain ⟨z22, hz22, bz22⟩ := and_2 y17 y21 (by omega) (by omega)
    refine r_iand (pc := 36) (v := iv z22) dX5_firstOfItsPart_36 hz22 ?_
    refine t_callSR (pc := 37) (as := [.int (iv z22)]) (st := []) kX5_55 dX5_firstOfItsPart_37 (t_X8_lowest (d := d - 1) (x0 := z22) (by omega)   ht20 (by omega) ) rfl (by omega) (Nat.le_of_ble_eq_true rfl) rfl (fun hp23 y25 ht24 by25 => ?_)
    exact r_iret (pc := 40) dX5_firstOfItsPart_40 rfl ⟨rfl, ht24, _, rfl, by omega, by omega⟩
set_option maxHeartbeats 4000000 in
set_option maxRecDepth 100000 in
theorem t_X5_first_c {D : va_G} {cI cJ cZ cT : ClassId} {lo b L : Nat} {xs : Nat → Int32} {hp : MH} {n d : Nat} {Γ : TG} {ga : Nat} {gF : Nat} {gT : Nat} {gW : Nat} {gC : Nat} {gTl : Nat} {gHd : Nat} {gBy : Nat} {gOu : Nat} {gIn : Nat} {gJo : Nat} {gn : Nat} {gm : Nat} {gq : Nat} {gdr : Int} {ca : Nat} {cM : Nat} {cn : Nat} {rA rL : Nat} {x1 x4 : Int} (hd0 : 1 ≤ d) (hg : TyG Γ cI cJ cZ ga gF gT gW gC gTl gHd gBy gOu gIn gJo gn gm gq gdr) (hc : TyC Γ cI cJ cZ ca cM cn) (hrA : rd Γ rA (tI cI rL (rg 0 65535))) (hrL : rL ≤ 16) (ht : Tw Γ hp) (hx1 : 4 ≤ x1 ∧ x1 ≤ 4) (hx4 : 0 ≤ x4 ∧ x4 ≤ 15) (hk : x4 < (gn : Int)) : Mt (gG D cI cJ cZ cT lo b L xs) mX5_firstOfItsPart d 0 0 [.ref ga, .int (iv x1), .ref rA, .ref ca, .int (iv x4)] hp n (pR Γ n 0 63) := by
  obtain ⟨hg_O, hg_from, hg_to, hg_weight, hg_cost, hg_tail, hg_head, hg_by, hg_out, hg_in, hg_joined, hg_b⟩ := id hg
  obtain ⟨hc_O, hc_numbers, hc_b⟩ := id hc
  refine Mt.of rfl (Nat.le_of_ble_eq_true rfl) ?_
  refine Rn.pick (lv' := [(0, .ref ga), (1, .int (iv x1)), (2, .ref rA), (3, .ref ca), (4, .int (iv x4))]) [0, 1, 2, 3, 4] rfl ?_
  refine r_aload_n (pc := 0) dX5_firstOfItsPart_0 (i := 0) rfl rfl ?_
  refine t_callVR (pc := 1) (as := []) (st := []) ht hg_O kX5_41 rfl dX5_firstOfItsPart_1 (t_X3_allNodes (d := d - 1)  (by omega) hg  ht  ) rfl (by omega) (Nat.le_of_ble_eq_true rfl) rfl (fun hp1 y3 ht2 by3 => ?_)
  refine r_istore (pc := 4) (lv' := [(5, .int (iv y3)), (0, .ref ga), (1, .int (iv x1)), (2, .ref rA), (3, .ref ca), (4, .int (iv x4))]) dX5_firstOfItsPart_4 (by decide) rfl ?_
  refine r_iload_n (pc := 6) dX5_firstOfItsPart_6 (i := 1) rfl rfl ?_
  refine t_if_ne (pc := 7) (tgt := 41) dX5_firstOfItsPart_7 (by decide) (by omega) (fun c7 => ?_) (fun c7 => ?_)
  · refine r_iload_n (pc := 41) dX5_firstOfItsPart_41 (i := 1) rfl rfl ?_
    refine r_iconst (pc := 42) (v := iv 1) dX5_firstOfItsPart_42 (by decide) ?_
    refine t_icmp_eq (pc := 43) (tgt := 51) dX5_firstOfItsPart_43 (by decide) (by omega) (by omega) (fun c43 => ?_) (fun c43 => ?_)
    · exfalso
      omega
    · refine r_iload_n (pc := 46) dX5_firstOfItsPart_46 (i := 1) rfl rfl ?_
      refine r_iconst (pc := 47) (v := iv 2) dX5_firstOfItsPart_47 (by decide) ?_
      refine t_icmp_ne (pc := 48) (tgt := 65) dX5_firstOfItsPart_48 (by decide) (by omega) (by omega) (fun c48 => ?_) (fun c48 => ?_)
      · refine r_iconst (pc := 65) (v := iv 0) dX5_firstOfItsPart_65 (by decide) ?_
        refine r_istore (pc := 66) (lv' := [(6, .int (iv 0)), (5, .int (iv y3)), (0, .ref ga), (1, .int (iv x1)), (2, .ref rA), (3, .ref ca), (4, .int (iv x4))]) dX5_firstOfItsPart_66 (by decide) rfl ?_
        have B68 : ∀ k : Nat, ∀ hp68 : MH, Tw Γ hp68 → ∀  (v68_6 : Int), 0 ≤ v68_6 ∧ v68_6 ≤ 15 → 15 - v68_6 ≤ (k : Int) → Rn (gG D cI cJ cZ cT lo b L xs) mX5_firstOfItsPart d 68 [(0, .ref ga), (3, .ref ca), (4, .int (iv x4)), (6, .int (iv v68_6))] [] hp68 n 0 0 (pR Γ n 0 63) := by
          refine lpS _ ?_
          intro k68 ih68 hp68 ht68 v68_6 hf68 hm68
          refine r_iload (pc := 68) dX5_firstOfItsPart_68 rfl ?_
          refine r_iload (pc := 70) dX5_firstOfItsPart_70 rfl ?_
          refine t_icmp_ge (pc := 72) (tgt := 113) dX5_firstOfItsPart_72 (by decide) (by omega) (by omega) (fun c72 => ?_) (fun c72 => ?_)
          · refine r_iload (pc := 113) dX5_firstOfItsPart_113 rfl ?_
            exact r_iret (pc := 115) dX5_firstOfItsPart_115 rfl ⟨rfl, ht68, _, rfl, by omega, by omega⟩
          · refine r_aload_n (pc := 75) dX5_firstOfItsPart_75 (i := 3) rfl rfl ?_
            have B107 : ∀ hp107 : MH, Tw Γ hp107 → True → Rn (gG D cI cJ cZ cT lo b L xs) mX5_firstOfItsPart d 107 [(0, .ref ga), (3, .ref ca), (4, .int (iv x4)), (6, .int (iv v68_6))] [] hp107 n 0 0 (pR Γ n 0 63) := by
              intro hp107 ht107 hf107
              refine r_iinc (pc := 107) (v := iv (v68_6 + 1)) (lv' := [(6, .int (iv (v68_6 + 1))), (0, .ref ga), (3, .ref ca), (4, .int (iv x4))]) dX5_firstOfItsPart_107 rfl (iv_add _ _) (by decide) rfl ?_
              refine r_goto (pc := 110) (tgt := 68) dX5_firstOfItsPart_110 (by decide) ?_
              refine Rn.pick (lv' := [(0, .ref ga), (3, .ref ca), (4, .int (iv x4)), (6, .int (iv (v68_6 + 1)))]) [1, 2, 3, 0] rfl ?_
              exact ih68 (Int.toNat (15 - (v68_6 + 1))) (by omega) _ ht107 (v68_6 + 1) ⟨by omega, by omega⟩ (by omega)
            have B104 : ∀ hp104 : MH, Tw Γ hp104 → True → Rn (gG D cI cJ cZ cT lo b L xs) mX5_firstOfItsPart d 104 [(6, .int (iv v68_6))] [] hp104 n 0 0 (pR Γ n 0 63) := by
              intro hp104 ht104 hf104
              refine r_iload (pc := 104) dX5_firstOfItsPart_104 rfl ?_
              exact r_iret (pc := 106) dX5_firstOfItsPart_106 rfl ⟨rfl, ht104, _, rfl, by omega, by omega⟩
            refine r_ifnonnull (pc := 76) (tgt := 93) dX5_firstOfItsPart_76 (by decide) ?_
            refine r_aload_n (pc := 93) dX5_firstOfItsPart_93 (i := 3) rfl rfl ?_
            refine r_iload (pc := 94) dX5_firstOfItsPart_94 rfl ?_
            refine r_iload (pc := 96) dX5_firstOfItsPart_96 rfl ?_
            refine t_callSR (pc := 98) (as := [.ref ca, .int (iv v68_6), .int (iv x4)]) (st := []) kX5_63 dX5_firstOfItsPart_98 (t_X5_haveSameNumber (d := d - 1) (x1 := v68_6) (x2 := x4) (by omega) hc  ht68 (by omega) (by omega) ) rfl (by omega) (Nat.le_of_ble_eq_true rfl) rfl (fun hp4 y6 ht5 by6 => ?_)
            refine t_if_eq (pc := 101) (tgt := 107) dX5_firstOfItsPart_101 (by decide) (by omega) (fun c101 => ?_) (fun c101 => ?_)
            · refine Rn.pick (lv' := [(0, .ref ga), (3, .ref ca), (4, .int (iv x4)), (6, .int (iv v68_6))]) [0, 1, 2, 3] rfl ?_
              exact B107 _ ht5 trivial
            · refine Rn.pick (lv' := [(6, .int (iv v68_6))]) [3] rfl ?_
              exact B104 _ ht5 trivial
        refine Rn.pick (lv' := [(0, .ref ga), (3, .ref ca), (4, .int (iv x4)), (6, .int (iv 0))]) [2, 5, 6, 0] rfl ?_
        exact B68 (Int.toNat (15 - 0)) _ ht2 0 ⟨by omega, by omega⟩ (by omega)
      · exfalso
        omega
  · exfalso
    omega
theorem Tw_eq {Γ Γ1 : TG} {hp : MH} (e : Γ = Γ1) (h : Tw Γ hp) : Tw Γ1 hp := e ▸ h
theorem rd_lo {Γ : TG} {s q : Nat} {T : va_E → Prop} (hlo : ∀ (q : Nat) (T : va_E → Prop), Γ q = some T → q < s) (h : rd Γ q T) : q < s := by
  obtain ⟨T0, h0, -⟩ := h
  exact hlo q T0 h0
def nuP (Nu : Nat → Int) (v f : Int) : Prop := ∀ i : Nat, (i : Int) < v → 0 ≤ Nu i ∧ Nu i < f
theorem nu_0 (Nu : Nat → Int) (f : Int) : nuP Nu 0 f := fun i h => by omega
theorem nu_a {Nu : Nat → Int} {v f u : Int} (h : nuP Nu v f) (hu : 0 ≤ u ∧ u < v) : nuP (fup Nu v.toNat (Nu u.toNat)) (v + 1) f := by
  intro i hi
  by_cases hq : i = v.toNat
  · subst hq; rw [fup_s]; exact h _ (by omega)
  · rw [fup_o _ _ hq]; exact h i (by omega)
theorem nu_b {Nu : Nat → Int} {v f : Int} (h : nuP Nu v f) (hv : 0 ≤ v) (hf : 0 ≤ f) : nuP (fup Nu v.toNat f) (v + 1) (f + 1) := by
  intro i hi
  by_cases hq : i = v.toNat
  · subst hq; rw [fup_s]; omega
  · rw [fup_o _ _ hq]; have h9 := h i (by omega); omega
abbrev ptF (pa vn : Nat) (vz : Int) : List (Value → Prop) := [fE (.int (iv (vn : Int))), fE (.int (iv vz)), fE (.ref (pa + 1)), fE (.ref (pa + 2))]
abbrev wyF (wa vn : Nat) : List (Value → Prop) := [fE (.int (iv (vn : Int))), fE (.ref (wa + 1)), fE (.ref (wa + 2)), fE (.ref (wa + 3)), fE (.ref (wa + 4)), fE (.ref (wa + 5))]
def PNL (cI cJ cZ cT : ClassId) (pa : Nat) (vn : Nat) (vz : Int) (vu : Nat → Int) : List (va_E → Prop) := [tO 5 (ptF pa vn vz), xI cI vn vu, tI cI vn (rg 0 65535)]
def PN (Γ : TG) (cI cJ cZ cT : ClassId) (pa : Nat) (vn : Nat) (vz : Int) (vu : Nat → Int) : TG := fun q => if pa ≤ q ∧ q < pa + 3 then (PNL cI cJ cZ cT pa vn vz vu)[q - pa]? else Γ q
theorem PN_e {Γ : TG} {cI cJ cZ cT : ClassId} {pa : Nat} {vn : Nat} {vz : Int} {vu : Nat → Int} (j : Nat) {T : va_E → Prop} (hj : j < 3) (h : (PNL cI cJ cZ cT pa vn vz vu)[j]? = some T) : PN Γ cI cJ cZ cT pa vn vz vu (pa + j) = some T := by
  unfold PN
  rw [if_pos (by omega), Nat.add_sub_cancel_left]
  exact h
theorem PN_o {Γ : TG} {cI cJ cZ cT : ClassId} {pa : Nat} {vn : Nat} {vz : Int} {vu : Nat → Int} {q : Nat} (h : q < pa ∨ pa + 3 ≤ q) : PN Γ cI cJ cZ cT pa vn vz vu q = Γ q := by
  unfold PN
  rw [if_neg (by omega)]
theorem rd_PN {Γ : TG} {cI cJ cZ cT : ClassId} {pa : Nat} {vn : Nat} {vz : Int} {vu : Nat → Int} {q : Nat} {T : va_E → Prop} (h : q < pa ∨ pa + 3 ≤ q) (hr : rd Γ q T) : rd (PN Γ cI cJ cZ cT pa vn vz vu) q T := by
  obtain ⟨T0, h0, h1⟩ := hr
  exact ⟨T0, by rw [PN_o h]; exact h0, h1⟩
theorem eq_PN {Γ : TG} {cI cJ cZ cT : ClassId} {pa : Nat} {vn : Nat} {vz : Int} {vu : Nat → Int} {q : Nat} {T : va_E → Prop} (h : q < pa ∨ pa + 3 ≤ q) (hr : Γ q = some T) : PN Γ cI cJ cZ cT pa vn vz vu q = some T := by
  rw [PN_o h]; exact hr
theorem PN_w {Γ : TG} {cI cJ cZ cT : ClassId} {pa : Nat} {vn : Nat} {vz : Int} {vu : Nat → Int} {vn1 : Nat} {vz1 : Int} {vu1 : Nat → Int} {hp : MH} (j : Nat) {T : va_E → Prop} (hj : j < 3) (h : PNL cI cJ cZ cT pa vn1 vz1 vu1 = (PNL cI cJ cZ cT pa vn vz vu).set j T) (ht : Tw (ov (PN Γ cI cJ cZ cT pa vn vz vu) (pa + j) T) hp) : Tw (PN Γ cI cJ cZ cT pa vn1 vz1 vu1) hp := by
  have e : ov (PN Γ cI cJ cZ cT pa vn vz vu) (pa + j) T = PN Γ cI cJ cZ cT pa vn1 vz1 vu1 := by
    funext q
    by_cases hq : q = pa + j
    · subst hq
      rw [ov_s]
      unfold PN
      rw [if_pos (by omega), Nat.add_sub_cancel_left, h, List.getElem?_set_self (Nat.lt_of_lt_of_eq hj rfl)]
    · rw [ov_o _ _ hq]
      unfold PN
      by_cases hr : pa ≤ q ∧ q < pa + 3
      · rw [if_pos hr, if_pos hr, h, List.getElem?_set_ne (by omega)]
      · rw [if_neg hr, if_neg hr]
  rw [e] at ht
  exact ht
theorem PN_0 {Γ : TG} {cI cJ cZ cT : ClassId} {pa : Nat} {vn : Nat} {vz : Int} {vu : Nat → Int} : PN Γ cI cJ cZ cT pa vn vz vu pa = some (tO 5 (ptF pa vn vz)) := PN_e 0 (by decide) rfl
theorem PN_1 {Γ : TG} {cI cJ cZ cT : ClassId} {pa : Nat} {vn : Nat} {vz : Int} {vu : Nat → Int} : PN Γ cI cJ cZ cT pa vn vz vu (pa + 1) = some (xI cI vn vu) := PN_e 1 (by decide) rfl
theorem PN_2 {Γ : TG} {cI cJ cZ cT : ClassId} {pa : Nat} {vn : Nat} {vz : Int} {vu : Nat → Int} : PN Γ cI cJ cZ cT pa vn vz vu (pa + 2) = some (tI cI vn (rg 0 65535)) := PN_e 2 (by decide) rfl
theorem RGw_vu {Γ : TG} {cI cJ cZ cT : ClassId} {pa : Nat} {vn : Nat} {vz : Int} {vu : Nat → Int} {hp : MH} {f : Nat → Int} (ht : Tw (ov (PN Γ cI cJ cZ cT pa vn vz vu) (pa + 1) (xI cI vn f)) hp) : Tw (PN Γ cI cJ cZ cT pa vn vz f) hp := PN_w 1 (by decide) rfl ht
theorem RGw_vz {Γ : TG} {cI cJ cZ cT : ClassId} {pa : Nat} {vn : Nat} {vz : Int} {vu : Nat → Int} {hp : MH} {f : Int} (ht : Tw (ov (PN Γ cI cJ cZ cT pa vn vz vu) pa (tO 5 ((ptF pa vn vz).set 1 (fE (.int (iv f)))))) hp) : Tw (PN Γ cI cJ cZ cT pa vn f vu) hp := PN_w 0 (by decide) rfl ht
theorem PN_x {Γ : TG} {cI cJ cZ cT : ClassId} {pa : Nat} {vn : Nat} {vz : Int} {vu : Nat → Int} {Γ1 : TG} (hE : Ext (PN Γ cI cJ cZ cT pa vn vz vu) Γ1) : ∃ Γ2 : TG, Ext Γ Γ2 ∧ PN Γ2 cI cJ cZ cT pa vn vz vu = Γ1 := by
  refine ⟨fun q => if pa ≤ q ∧ q < pa + 3 then Γ q else Γ1 q, fun q T h => ?_, ?_⟩
  · show (if pa ≤ q ∧ q < pa + 3 then Γ q else Γ1 q) = some T
    by_cases hq : pa ≤ q ∧ q < pa + 3
    · rw [if_pos hq]; exact h
    · rw [if_neg hq]; exact hE q T (by rw [PN_o (by omega)]; exact h)
  · funext q
    by_cases hq : pa ≤ q ∧ q < pa + 3
    · have hr : ∃ T, (PN Γ cI cJ cZ cT pa vn vz vu) q = some T := by
        unfold PN
        rw [if_pos hq]
        exact ⟨_, List.getElem?_eq_getElem (show q - pa < 3 by omega)⟩
      obtain ⟨T, hT⟩ := hr
      have h1 := hE q T hT
      have h2 : PN (fun q => if pa ≤ q ∧ q < pa + 3 then Γ q else Γ1 q) cI cJ cZ cT pa vn vz vu q = PN Γ cI cJ cZ cT pa vn vz vu q := by unfold PN; rw [if_pos hq, if_pos hq]
      rw [h2, hT, h1]
    · rw [PN_o (by omega)]
      show (if pa ≤ q ∧ q < pa + 3 then Γ q else Γ1 q) = Γ1 q
      rw [if_neg hq]
theorem PN_tw {Γ : TG} {cI cJ cZ cT : ClassId} {pa : Nat} {vn : Nat} {vz : Int} {vu : Nat → Int} {hp hp2 : MH} (ht : Tw Γ hp) (hfr : ∀ (q : Nat) (e : va_E), q < pa ∨ pa + 3 ≤ q → hp q = some e → hp2 q = some e) (hL : ∀ (j : Nat) (T : va_E → Prop), (PNL cI cJ cZ cT pa vn vz vu)[j]? = some T → ∃ e, hp2 (pa + j) = some e ∧ T e) : Tw (PN Γ cI cJ cZ cT pa vn vz vu) hp2 := by
  intro q T h
  unfold PN at h
  by_cases hr : pa ≤ q ∧ q < pa + 3
  · rw [if_pos hr] at h
    obtain ⟨e, h1, h2⟩ := hL (q - pa) T h
    rw [show pa + (q - pa) = q by omega] at h1
    exact ⟨e, h1, h2⟩
  · rw [if_neg hr] at h
    obtain ⟨e, h1, h2⟩ := ht q T h
    exact ⟨e, hfr q e (by omega) h1, h2⟩
theorem PN_ext {Γ : TG} {cI cJ cZ cT : ClassId} {pa : Nat} {vn : Nat} {vz : Int} {vu : Nat → Int} {Γ1 : TG} (hlo : ∀ (q : Nat) (T : va_E → Prop), Γ q = some T → q < pa) (hE : Ext Γ Γ1) : Ext Γ (PN Γ1 cI cJ cZ cT pa vn vz vu) := fun q T h => by
  have h9 := hlo q T h
  rw [PN_o (by omega)]; exact hE q T h
def WNL (cI cJ cZ cT : ClassId) (wa : Nat) (vn : Nat) (vs : Nat → Int) (vo : Nat → Int64) (vl : Nat → Int) : List (va_E → Prop) := [tO 9 (wyF wa vn), xI cI vn vs, xJ cJ vn vo, xI cI vn vl, tJ cJ vn anyJ, tI cI (vn * vn) (rg 0 59)]
def WN (Γ : TG) (cI cJ cZ cT : ClassId) (wa : Nat) (vn : Nat) (vs : Nat → Int) (vo : Nat → Int64) (vl : Nat → Int) : TG := fun q => if wa ≤ q ∧ q < wa + 6 then (WNL cI cJ cZ cT wa vn vs vo vl)[q - wa]? else Γ q
theorem WN_e {Γ : TG} {cI cJ cZ cT : ClassId} {wa : Nat} {vn : Nat} {vs : Nat → Int} {vo : Nat → Int64} {vl : Nat → Int} (j : Nat) {T : va_E → Prop} (hj : j < 6) (h : (WNL cI cJ cZ cT wa vn vs vo vl)[j]? = some T) : WN Γ cI cJ cZ cT wa vn vs vo vl (wa + j) = some T := by
  unfold WN
  rw [if_pos (by omega), Nat.add_sub_cancel_left]
  exact h
theorem WN_o {Γ : TG} {cI cJ cZ cT : ClassId} {wa : Nat} {vn : Nat} {vs : Nat → Int} {vo : Nat → Int64} {vl : Nat → Int} {q : Nat} (h : q < wa ∨ wa + 6 ≤ q) : WN Γ cI cJ cZ cT wa vn vs vo vl q = Γ q := by
  unfold WN
  rw [if_neg (by omega)]
theorem rd_WN {Γ : TG} {cI cJ cZ cT : ClassId} {wa : Nat} {vn : Nat} {vs : Nat → Int} {vo : Nat → Int64} {vl : Nat → Int} {q : Nat} {T : va_E → Prop} (h : q < wa ∨ wa + 6 ≤ q) (hr : rd Γ q T) : rd (WN Γ cI cJ cZ cT wa vn vs vo vl) q T := by
  obtain ⟨T0, h0, h1⟩ := hr
  exact ⟨T0, by rw [WN_o h]; exact h0, h1⟩
theorem eq_WN {Γ : TG} {cI cJ cZ cT : ClassId} {wa : Nat} {vn : Nat} {vs : Nat → Int} {vo : Nat → Int64} {vl : Nat → Int} {q : Nat} {T : va_E → Prop} (h : q < wa ∨ wa + 6 ≤ q) (hr : Γ q = some T) : WN Γ cI cJ cZ cT wa vn vs vo vl q = some T := by
  rw [WN_o h]; exact hr
theorem WN_w {Γ : TG} {cI cJ cZ cT : ClassId} {wa : Nat} {vn : Nat} {vs : Nat → Int} {vo : Nat → Int64} {vl : Nat → Int} {vn1 : Nat} {vs1 : Nat → Int} {vo1 : Nat → Int64} {vl1 : Nat → Int} {hp : MH} (j : Nat) {T : va_E → Prop} (hj : j < 6) (h : WNL cI cJ cZ cT wa vn1 vs1 vo1 vl1 = (WNL cI cJ cZ cT wa vn vs vo vl).set j T) (ht : Tw (ov (WN Γ cI cJ cZ cT wa vn vs vo vl) (wa + j) T) hp) : Tw (WN Γ cI cJ cZ cT wa vn1 vs1 vo1 vl1) hp := by
  have e : ov (WN Γ cI cJ cZ cT wa vn vs vo vl) (wa + j) T = WN Γ cI cJ cZ cT wa vn1 vs1 vo1 vl1 := by
    funext q
    by_cases hq : q = wa + j
    · subst hq
      rw [ov_s]
      unfold WN
      rw [if_pos (by omega), Nat.add_sub_cancel_left, h, List.getElem?_set_self (Nat.lt_of_lt_of_eq hj rfl)]
    · rw [ov_o _ _ hq]
      unfold WN
      by_cases hr : wa ≤ q ∧ q < wa + 6
      · rw [if_pos hr, if_pos hr, h, List.getElem?_set_ne (by omega)]
      · rw [if_neg hr, if_neg hr]
  rw [e] at ht
  exact ht
theorem WN_0 {Γ : TG} {cI cJ cZ cT : ClassId} {wa : Nat} {vn : Nat} {vs : Nat → Int} {vo : Nat → Int64} {vl : Nat → Int} : WN Γ cI cJ cZ cT wa vn vs vo vl wa = some (tO 9 (wyF wa vn)) := WN_e 0 (by decide) rfl
theorem WN_1 {Γ : TG} {cI cJ cZ cT : ClassId} {wa : Nat} {vn : Nat} {vs : Nat → Int} {vo : Nat → Int64} {vl : Nat → Int} : WN Γ cI cJ cZ cT wa vn vs vo vl (wa + 1) = some (xI cI vn vs) := WN_e 1 (by decide) rfl
theorem WN_2 {Γ : TG} {cI cJ cZ cT : ClassId} {wa : Nat} {vn : Nat} {vs : Nat → Int} {vo : Nat → Int64} {vl : Nat → Int} : WN Γ cI cJ cZ cT wa vn vs vo vl (wa + 2) = some (xJ cJ vn vo) := WN_e 2 (by decide) rfl
theorem WN_3 {Γ : TG} {cI cJ cZ cT : ClassId} {wa : Nat} {vn : Nat} {vs : Nat → Int} {vo : Nat → Int64} {vl : Nat → Int} : WN Γ cI cJ cZ cT wa vn vs vo vl (wa + 3) = some (xI cI vn vl) := WN_e 3 (by decide) rfl
theorem WN_4 {Γ : TG} {cI cJ cZ cT : ClassId} {wa : Nat} {vn : Nat} {vs : Nat → Int} {vo : Nat → Int64} {vl : Nat → Int} : WN Γ cI cJ cZ cT wa vn vs vo vl (wa + 4) = some (tJ cJ vn anyJ) := WN_e 4 (by decide) rfl
theorem WN_5 {Γ : TG} {cI cJ cZ cT : ClassId} {wa : Nat} {vn : Nat} {vs : Nat → Int} {vo : Nat → Int64} {vl : Nat → Int} : WN Γ cI cJ cZ cT wa vn vs vo vl (wa + 5) = some (tI cI (vn * vn) (rg 0 59)) := WN_e 5 (by decide) rfl
theorem RGw_vs {Γ : TG} {cI cJ cZ cT : ClassId} {wa : Nat} {vn : Nat} {vs : Nat → Int} {vo : Nat → Int64} {vl : Nat → Int} {hp : MH} {f : Nat → Int} (ht : Tw (ov (WN Γ cI cJ cZ cT wa vn vs vo vl) (wa + 1) (xI cI vn f)) hp) : Tw (WN Γ cI cJ cZ cT wa vn f vo vl) hp := WN_w 1 (by decide) rfl ht
theorem RGw_vo {Γ : TG} {cI cJ cZ cT : ClassId} {wa : Nat} {vn : Nat} {vs : Nat → Int} {vo : Nat → Int64} {vl : Nat → Int} {hp : MH} {f : Nat → Int64} (ht : Tw (ov (WN Γ cI cJ cZ cT wa vn vs vo vl) (wa + 2) (xJ cJ vn f)) hp) : Tw (WN Γ cI cJ cZ cT wa vn vs f vl) hp := WN_w 2 (by decide) rfl ht
theorem RGw_vl {Γ : TG} {cI cJ cZ cT : ClassId} {wa : Nat} {vn : Nat} {vs : Nat → Int} {vo : Nat → Int64} {vl : Nat → Int} {hp : MH} {f : Nat → Int} (ht : Tw (ov (WN Γ cI cJ cZ cT wa vn vs vo vl) (wa + 3) (xI cI vn f)) hp) : Tw (WN Γ cI cJ cZ cT wa vn vs vo f) hp := WN_w 3 (by decide) rfl ht
theorem WN_x {Γ : TG} {cI cJ cZ cT : ClassId} {wa : Nat} {vn : Nat} {vs : Nat → Int} {vo : Nat → Int64} {vl : Nat → Int} {Γ1 : TG} (hE : Ext (WN Γ cI cJ cZ cT wa vn vs vo vl) Γ1) : ∃ Γ2 : TG, Ext Γ Γ2 ∧ WN Γ2 cI cJ cZ cT wa vn vs vo vl = Γ1 := by
  refine ⟨fun q => if wa ≤ q ∧ q < wa + 6 then Γ q else Γ1 q, fun q T h => ?_, ?_⟩
  · show (if wa ≤ q ∧ q < wa + 6 then Γ q else Γ1 q) = some T
    by_cases hq : wa ≤ q ∧ q < wa + 6
    · rw [if_pos hq]; exact h
    · rw [if_neg hq]; exact hE q T (by rw [WN_o (by omega)]; exact h)
  · funext q
    by_cases hq : wa ≤ q ∧ q < wa + 6
    · have hr : ∃ T, (WN Γ cI cJ cZ cT wa vn vs vo vl) q = some T := by
        unfold WN
        rw [if_pos hq]
        exact ⟨_, List.getElem?_eq_getElem (show q - wa < 6 by omega)⟩
      obtain ⟨T, hT⟩ := hr
      have h1 := hE q T hT
      have h2 : WN (fun q => if wa ≤ q ∧ q < wa + 6 then Γ q else Γ1 q) cI cJ cZ cT wa vn vs vo vl q = WN Γ cI cJ cZ cT wa vn vs vo vl q := by unfold WN; rw [if_pos hq, if_pos hq]
      rw [h2, hT, h1]
    · rw [WN_o (by omega)]
      show (if wa ≤ q ∧ q < wa + 6 then Γ q else Γ1 q) = Γ1 q
      rw [if_neg hq]
theorem WN_tw {Γ : TG} {cI cJ cZ cT : ClassId} {wa : Nat} {vn : Nat} {vs : Nat → Int} {vo : Nat → Int64} {vl : Nat → Int} {hp hp2 : MH} (ht : Tw Γ hp) (hfr : ∀ (q : Nat) (e : va_E), q < wa ∨ wa + 6 ≤ q → hp q = some e → hp2 q = some e) (hL : ∀ (j : Nat) (T : va_E → Prop), (WNL cI cJ cZ cT wa vn vs vo vl)[j]? = some T → ∃ e, hp2 (wa + j) = some e ∧ T e) : Tw (WN Γ cI cJ cZ cT wa vn vs vo vl) hp2 := by
  intro q T h
  unfold WN at h
  by_cases hr : wa ≤ q ∧ q < wa + 6
  · rw [if_pos hr] at h
    obtain ⟨e, h1, h2⟩ := hL (q - wa) T h
    rw [show wa + (q - wa) = q by omega] at h1
    exact ⟨e, h1, h2⟩
  · rw [if_neg hr] at h
    obtain ⟨e, h1, h2⟩ := ht q T h
    exact ⟨e, hfr q e (by omega) h1, h2⟩
theorem WN_ext {Γ : TG} {cI cJ cZ cT : ClassId} {wa : Nat} {vn : Nat} {vs : Nat → Int} {vo : Nat → Int64} {vl : Nat → Int} {Γ1 : TG} (hlo : ∀ (q : Nat) (T : va_E → Prop), Γ q = some T → q < wa) (hE : Ext Γ Γ1) : Ext Γ (WN Γ1 cI cJ cZ cT wa vn vs vo vl) := fun q T h => by
  have h9 := hlo q T h
  rw [WN_o (by omega)]; exact hE q T h
def WTL (cI cJ cZ cT : ClassId) (wa : Nat) (vn : Nat) : List (va_E → Prop) := [tO 9 (wyF wa vn), tI cI vn (rg 0 2), tJ cJ vn anyJ, tI cI vn (rg (-1) ((vn : Int) - 1)), tJ cJ vn anyJ, tI cI (vn * vn) (rg 0 59)]
def WT (Γ : TG) (cI cJ cZ cT : ClassId) (wa : Nat) (vn : Nat) : TG := fun q => if wa ≤ q ∧ q < wa + 6 then (WTL cI cJ cZ cT wa vn)[q - wa]? else Γ q
theorem WT_e {Γ : TG} {cI cJ cZ cT : ClassId} {wa : Nat} {vn : Nat} (j : Nat) {T : va_E → Prop} (hj : j < 6) (h : (WTL cI cJ cZ cT wa vn)[j]? = some T) : WT Γ cI cJ cZ cT wa vn (wa + j) = some T := by
  unfold WT
  rw [if_pos (by omega), Nat.add_sub_cancel_left]
  exact h
theorem WT_o {Γ : TG} {cI cJ cZ cT : ClassId} {wa : Nat} {vn : Nat} {q : Nat} (h : q < wa ∨ wa + 6 ≤ q) : WT Γ cI cJ cZ cT wa vn q = Γ q := by
  unfold WT
  rw [if_neg (by omega)]
theorem rd_WT {Γ : TG} {cI cJ cZ cT : ClassId} {wa : Nat} {vn : Nat} {q : Nat} {T : va_E → Prop} (h : q < wa ∨ wa + 6 ≤ q) (hr : rd Γ q T) : rd (WT Γ cI cJ cZ cT wa vn) q T := by
  obtain ⟨T0, h0, h1⟩ := hr
  exact ⟨T0, by rw [WT_o h]; exact h0, h1⟩
theorem eq_WT {Γ : TG} {cI cJ cZ cT : ClassId} {wa : Nat} {vn : Nat} {q : Nat} {T : va_E → Prop} (h : q < wa ∨ wa + 6 ≤ q) (hr : Γ q = some T) : WT Γ cI cJ cZ cT wa vn q = some T := by
  rw [WT_o h]; exact hr
theorem WT_w {Γ : TG} {cI cJ cZ cT : ClassId} {wa : Nat} {vn : Nat} {vn1 : Nat} {hp : MH} (j : Nat) {T : va_E → Prop} (hj : j < 6) (h : WTL cI cJ cZ cT wa vn1 = (WTL cI cJ cZ cT wa vn).set j T) (ht : Tw (ov (WT Γ cI cJ cZ cT wa vn) (wa + j) T) hp) : Tw (WT Γ cI cJ cZ cT wa vn1) hp := by
  have e : ov (WT Γ cI cJ cZ cT wa vn) (wa + j) T = WT Γ cI cJ cZ cT wa vn1 := by
    funext q
    by_cases hq : q = wa + j
    · subst hq
      rw [ov_s]
      unfold WT
      rw [if_pos (by omega), Nat.add_sub_cancel_left, h, List.getElem?_set_self (Nat.lt_of_lt_of_eq hj rfl)]
    · rw [ov_o _ _ hq]
      unfold WT
      by_cases hr : wa ≤ q ∧ q < wa + 6
      · rw [if_pos hr, if_pos hr, h, List.getElem?_set_ne (by omega)]
      · rw [if_neg hr, if_neg hr]
  rw [e] at ht
  exact ht
theorem WT_0 {Γ : TG} {cI cJ cZ cT : ClassId} {wa : Nat} {vn : Nat} : WT Γ cI cJ cZ cT wa vn wa = some (tO 9 (wyF wa vn)) := WT_e 0 (by decide) rfl
theorem WT_1 {Γ : TG} {cI cJ cZ cT : ClassId} {wa : Nat} {vn : Nat} : WT Γ cI cJ cZ cT wa vn (wa + 1) = some (tI cI vn (rg 0 2)) := WT_e 1 (by decide) rfl
theorem WT_2 {Γ : TG} {cI cJ cZ cT : ClassId} {wa : Nat} {vn : Nat} : WT Γ cI cJ cZ cT wa vn (wa + 2) = some (tJ cJ vn anyJ) := WT_e 2 (by decide) rfl
theorem WT_3 {Γ : TG} {cI cJ cZ cT : ClassId} {wa : Nat} {vn : Nat} : WT Γ cI cJ cZ cT wa vn (wa + 3) = some (tI cI vn (rg (-1) ((vn : Int) - 1))) := WT_e 3 (by decide) rfl
theorem WT_4 {Γ : TG} {cI cJ cZ cT : ClassId} {wa : Nat} {vn : Nat} : WT Γ cI cJ cZ cT wa vn (wa + 4) = some (tJ cJ vn anyJ) := WT_e 4 (by decide) rfl
theorem WT_5 {Γ : TG} {cI cJ cZ cT : ClassId} {wa : Nat} {vn : Nat} : WT Γ cI cJ cZ cT wa vn (wa + 5) = some (tI cI (vn * vn) (rg 0 59)) := WT_e 5 (by decide) rfl
theorem WT_x {Γ : TG} {cI cJ cZ cT : ClassId} {wa : Nat} {vn : Nat} {Γ1 : TG} (hE : Ext (WT Γ cI cJ cZ cT wa vn) Γ1) : ∃ Γ2 : TG, Ext Γ Γ2 ∧ WT Γ2 cI cJ cZ cT wa vn = Γ1 := by
  refine ⟨fun q => if wa ≤ q ∧ q < wa + 6 then Γ q else Γ1 q, fun q T h => ?_, ?_⟩
  · show (if wa ≤ q ∧ q < wa + 6 then Γ q else Γ1 q) = some T
    by_cases hq : wa ≤ q ∧ q < wa + 6
    · rw [if_pos hq]; exact h
    · rw [if_neg hq]; exact hE q T (by rw [WT_o (by omega)]; exact h)
  · funext q
    by_cases hq : wa ≤ q ∧ q < wa + 6
    · have hr : ∃ T, (WT Γ cI cJ cZ cT wa vn) q = some T := by
        unfold WT
        rw [if_pos hq]
        exact ⟨_, List.getElem?_eq_getElem (show q - wa < 6 by omega)⟩
      obtain ⟨T, hT⟩ := hr
      have h1 := hE q T hT
      have h2 : WT (fun q => if wa ≤ q ∧ q < wa + 6 then Γ q else Γ1 q) cI cJ cZ cT wa vn q = WT Γ cI cJ cZ cT wa vn q := by unfold WT; rw [if_pos hq, if_pos hq]
      rw [h2, hT, h1]
    · rw [WT_o (by omega)]
      show (if wa ≤ q ∧ q < wa + 6 then Γ q else Γ1 q) = Γ1 q
      rw [if_neg hq]
theorem WT_tw {Γ : TG} {cI cJ cZ cT : ClassId} {wa : Nat} {vn : Nat} {hp hp2 : MH} (ht : Tw Γ hp) (hfr : ∀ (q : Nat) (e : va_E), q < wa ∨ wa + 6 ≤ q → hp q = some e → hp2 q = some e) (hL : ∀ (j : Nat) (T : va_E → Prop), (WTL cI cJ cZ cT wa vn)[j]? = some T → ∃ e, hp2 (wa + j) = some e ∧ T e) : Tw (WT Γ cI cJ cZ cT wa vn) hp2 := by
  intro q T h
  unfold WT at h
  by_cases hr : wa ≤ q ∧ q < wa + 6
  · rw [if_pos hr] at h
    obtain ⟨e, h1, h2⟩ := hL (q - wa) T h
    rw [show wa + (q - wa) = q by omega] at h1
    exact ⟨e, h1, h2⟩
  · rw [if_neg hr] at h
    obtain ⟨e, h1, h2⟩ := ht q T h
    exact ⟨e, hfr q e (by omega) h1, h2⟩
theorem WT_ext {Γ : TG} {cI cJ cZ cT : ClassId} {wa : Nat} {vn : Nat} {Γ1 : TG} (hlo : ∀ (q : Nat) (T : va_E → Prop), Γ q = some T → q < wa) (hE : Ext Γ Γ1) : Ext Γ (WT Γ1 cI cJ cZ cT wa vn) := fun q T h => by
  have h9 := hlo q T h
  rw [WT_o (by omega)]; exact hE q T h
theorem TyG.pn {Γ : TG} {cI cJ cZ cT : ClassId} {ga : Nat} {gF : Nat} {gT : Nat} {gW : Nat} {gC : Nat} {gTl : Nat} {gHd : Nat} {gBy : Nat} {gOu : Nat} {gIn : Nat} {gJo : Nat} {gn : Nat} {gm : Nat} {gq : Nat} {gdr : Int} {pa : Nat} {vn : Nat} {vz : Int} {vu : Nat → Int} (hlt : ga < pa ∧ gF < pa ∧ gT < pa ∧ gW < pa ∧ gC < pa ∧ gTl < pa ∧ gHd < pa ∧ gBy < pa ∧ gOu < pa ∧ gIn < pa ∧ gJo < pa) (h : TyG Γ cI cJ cZ ga gF gT gW gC gTl gHd gBy gOu gIn gJo gn gm gq gdr) : TyG (PN Γ cI cJ cZ cT pa vn vz vu) cI cJ cZ ga gF gT gW gC gTl gHd gBy gOu gIn gJo gn gm gq gdr := ⟨rd_PN (by omega) h.1, rd_PN (by omega) h.2.1, rd_PN (by omega) h.2.2.1, rd_PN (by omega) h.2.2.2.1, rd_PN (by omega) h.2.2.2.2.1, rd_PN (by omega) h.2.2.2.2.2.1, rd_PN (by omega) h.2.2.2.2.2.2.1, rd_PN (by omega) h.2.2.2.2.2.2.2.1, rd_PN (by omega) h.2.2.2.2.2.2.2.2.1, rd_PN (by omega) h.2.2.2.2.2.2.2.2.2.1, rd_PN (by omega) h.2.2.2.2.2.2.2.2.2.2.1, h.2.2.2.2.2.2.2.2.2.2.2⟩
theorem TyC.pn {Γ : TG} {cI cJ cZ cT : ClassId} {ga : Nat} {gM : Nat} {gn : Nat} {pa : Nat} {vn : Nat} {vz : Int} {vu : Nat → Int} (hlt : ga < pa ∧ gM < pa) (h : TyC Γ cI cJ cZ ga gM gn) : TyC (PN Γ cI cJ cZ cT pa vn vz vu) cI cJ cZ ga gM gn := ⟨rd_PN (by omega) h.1, rd_PN (by omega) h.2.1, h.2.2⟩
theorem TyG.wn {Γ : TG} {cI cJ cZ cT : ClassId} {ga : Nat} {gF : Nat} {gT : Nat} {gW : Nat} {gC : Nat} {gTl : Nat} {gHd : Nat} {gBy : Nat} {gOu : Nat} {gIn : Nat} {gJo : Nat} {gn : Nat} {gm : Nat} {gq : Nat} {gdr : Int} {wa : Nat} {vn : Nat} {vs : Nat → Int} {vo : Nat → Int64} {vl : Nat → Int} (hlt : ga < wa ∧ gF < wa ∧ gT < wa ∧ gW < wa ∧ gC < wa ∧ gTl < wa ∧ gHd < wa ∧ gBy < wa ∧ gOu < wa ∧ gIn < wa ∧ gJo < wa) (h : TyG Γ cI cJ cZ ga gF gT gW gC gTl gHd gBy gOu gIn gJo gn gm gq gdr) : TyG (WN Γ cI cJ cZ cT wa vn vs vo vl) cI cJ cZ ga gF gT gW gC gTl gHd gBy gOu gIn gJo gn gm gq gdr := ⟨rd_WN (by omega) h.1, rd_WN (by omega) h.2.1, rd_WN (by omega) h.2.2.1, rd_WN (by omega) h.2.2.2.1, rd_WN (by omega) h.2.2.2.2.1, rd_WN (by omega) h.2.2.2.2.2.1, rd_WN (by omega) h.2.2.2.2.2.2.1, rd_WN (by omega) h.2.2.2.2.2.2.2.1, rd_WN (by omega) h.2.2.2.2.2.2.2.2.1, rd_WN (by omega) h.2.2.2.2.2.2.2.2.2.1, rd_WN (by omega) h.2.2.2.2.2.2.2.2.2.2.1, h.2.2.2.2.2.2.2.2.2.2.2⟩
theorem TyG.wt {Γ : TG} {cI cJ cZ cT : ClassId} {ga : Nat} {gF : Nat} {gT : Nat} {gW : Nat} {gC : Nat} {gTl : Nat} {gHd : Nat} {gBy : Nat} {gOu : Nat} {gIn : Nat} {gJo : Nat} {gn : Nat} {gm : Nat} {gq : Nat} {gdr : Int} {wa : Nat} {vn : Nat} (hlt : ga < wa ∧ gF < wa ∧ gT < wa ∧ gW < wa ∧ gC < wa ∧ gTl < wa ∧ gHd < wa ∧ gBy < wa ∧ gOu < wa ∧ gIn < wa ∧ gJo < wa) (h : TyG Γ cI cJ cZ ga gF gT gW gC gTl gHd gBy gOu gIn gJo gn gm gq gdr) : TyG (WT Γ cI cJ cZ cT wa vn) cI cJ cZ ga gF gT gW gC gTl gHd gBy gOu gIn gJo gn gm gq gdr := ⟨rd_WT (by omega) h.1, rd_WT (by omega) h.2.1, rd_WT (by omega) h.2.2.1, rd_WT (by omega) h.2.2.2.1, rd_WT (by omega) h.2.2.2.2.1, rd_WT (by omega) h.2.2.2.2.2.1, rd_WT (by omega) h.2.2.2.2.2.2.1, rd_WT (by omega) h.2.2.2.2.2.2.2.1, rd_WT (by omega) h.2.2.2.2.2.2.2.2.1, rd_WT (by omega) h.2.2.2.2.2.2.2.2.2.1, rd_WT (by omega) h.2.2.2.2.2.2.2.2.2.2.1, h.2.2.2.2.2.2.2.2.2.2.2⟩
theorem TyP.uncg {Γ : TG} {cI cJ cZ cT : ClassId} {ga : Nat} {gN : Nat} {gO : Nat} {gn : Nat} {gz : Nat} {a : Nat} {ct : Int} {rv : Int} {th : Nat → Option Nat} {dn : Int} {dd : Int} {da : Int} {df : Nat → Int} {dt : Nat → Int} {dw : Nat → Int} {dc : Nat → Int} {kn : Int} {kd : Int} {ka : Int} {kf : Nat → Int} {kt : Nat → Int} {kw : Nat → Int} {kc : Nat → Int} (hlt : a + 14 ≤ ga ∧ a + 14 ≤ gN ∧ a + 14 ≤ gO) (h : TyP (CG Γ cI cJ cZ cT a ct rv th dn dd da df dt dw dc kn kd ka kf kt kw kc) cI cJ cZ ga gN gO gn gz) : TyP Γ cI cJ cZ ga gN gO gn gz := ⟨rd_same (CG_o (by omega)) h.1, rd_same (CG_o (by omega)) h.2.1, rd_same (CG_o (by omega)) h.2.2.1, h.2.2.2⟩
theorem TyW.uncg {Γ : TG} {cI cJ cZ cT : ClassId} {ga : Nat} {gn : Nat} {a : Nat} {ct : Int} {rv : Int} {th : Nat → Option Nat} {dn : Int} {dd : Int} {da : Int} {df : Nat → Int} {dt : Nat → Int} {dw : Nat → Int} {dc : Nat → Int} {kn : Int} {kd : Int} {ka : Int} {kf : Nat → Int} {kt : Nat → Int} {kw : Nat → Int} {kc : Nat → Int} (hlt : a + 14 ≤ ga ∧ a + 14 ≤ (ga + 1) ∧ a + 14 ≤ (ga + 2) ∧ a + 14 ≤ (ga + 3) ∧ a + 14 ≤ (ga + 4) ∧ a + 14 ≤ (ga + 5)) (h : TyW (CG Γ cI cJ cZ cT a ct rv th dn dd da df dt dw dc kn kd ka kf kt kw kc) cI cJ cZ ga gn) : TyW Γ cI cJ cZ ga gn := ⟨rd_same (CG_o (by omega)) h.1, rd_same (CG_o (by omega)) h.2.1, rd_same (CG_o (by omega)) h.2.2.1, rd_same (CG_o (by omega)) h.2.2.2.1, rd_same (CG_o (by omega)) h.2.2.2.2.1, rd_same (CG_o (by omega)) h.2.2.2.2.2.1, h.2.2.2.2.2.2⟩
theorem PN_ty {Γ : TG} {cI cJ cZ cT : ClassId} {pa vn : Nat} {vz : Int} {vu : Nat → Int} (h1 : 1 ≤ vn ∧ vn ≤ 16) (hz : 1 ≤ vz ∧ vz ≤ (vn : Int)) (hu : nuP vu (vn : Int) vz) : TyP (PN Γ cI cJ cZ cT pa vn vz vu) cI cJ cZ pa (pa + 1) (pa + 2) vn vz.toNat := by
  have e : ((vz.toNat : Nat) : Int) = vz := by omega
  refine ⟨?_, ?_, ?_, by omega⟩
  · rw [e]; exact rd_of PN_0
  · rw [e]; exact rd_xr (rd_of PN_1) (fun i hi => by have h9 := hu i (by omega); omega)
  · exact rd_of PN_2
def pPt (Γ : TG) (cI cJ cZ : ClassId) (pa gn n : Nat) : Option Value → MH → Nat → Prop := fun r hp1 n1 => n ≤ n1 ∧ r = none ∧ ∃ (Γ1 : TG) (z : Nat), Ext Γ Γ1 ∧ Tw Γ1 hp1 ∧ TyP Γ1 cI cJ cZ pa (pa + 1) (pa + 2) gn z
def pWy (Γ : TG) (cI cJ cZ : ClassId) (wa gn n : Nat) : Option Value → MH → Nat → Prop := fun r hp1 n1 => n ≤ n1 ∧ r = none ∧ ∃ Γ1 : TG, Ext Γ Γ1 ∧ Tw Γ1 hp1 ∧ TyW Γ1 cI cJ cZ wa gn
set_option maxHeartbeats 4000000 in
set_option maxRecDepth 100000 in
theorem c_X9_init_X5 {D : va_G} {cI cJ cZ cT : ClassId} {lo b L : Nat} {xs : Nat → Int32} {hp : MH} {n d : Nat} {a : Nat} {x0 p1 : Int32} {v1 v2 v3 : Value} (hd0 : 0 ≤ d) (gc0 : hp a = some (.inr (5, [.int x0, v1, v2, v3]))) : Mt (gG D cI cJ cZ cT lo b L xs) mX9_init d 0 0 [.ref a, .int p1] hp n (fun r hp1 n1 => r = none ∧ n1 = n ∧ hp1 a = some (.inr (5, [.int p1, v1, v2, v3])) ∧ ∀ q : Nat, q ≠ a → hp1 q = hp q) := by
  refine Mt.of rfl (Nat.le_of_ble_eq_true rfl) ?_
  refine Rn.pick (lv' := [(0, .ref a), (1, .int p1)]) [0, 1] rfl ?_
  refine r_aload_n (pc := 0) dX9_init_0 (i := 0) rfl rfl ?_
  refine r_objInit (pc := 1) kX9_1 dX9_init_1 (Nat.le_of_ble_eq_true rfl) ?_
  refine r_aload_n (pc := 4) dX9_init_4 (i := 0) rfl rfl ?_
  refine r_iload_n (pc := 5) dX9_init_5 (i := 1) rfl rfl ?_
  refine w_put (pc := 6) (ty := .int) (fs' := [.int p1, v1, v2, v3]) fX9_7_X5 tyX5 tyX5_ok nmX5 (by decide +kernel) (Or.inr ⟨rfl, rfl, rfl⟩) dX9_init_6 gc0 (Nat.le_of_ble_eq_true rfl) (rfl) (rfl) rfl (fun hp_1 h_2 ho_3 => ?_)
  exact r_vret (pc := 9) dX9_init_9 rfl ⟨rfl, rfl, h_2, ho_3⟩
set_option maxHeartbeats 4000000 in
set_option maxRecDepth 100000 in
theorem c_X9_init_X10 {D : va_G} {cI cJ cZ cT : ClassId} {lo b L : Nat} {xs : Nat → Int32} {hp : MH} {n d : Nat} {a : Nat} {x0 p1 : Int32} {v1 v2 v3 v4 v5 : Value} (hd0 : 0 ≤ d) (gc0 : hp a = some (.inr (9, [.int x0, v1, v2, v3, v4, v5]))) : Mt (gG D cI cJ cZ cT lo b L xs) mX9_init d 0 0 [.ref a, .int p1] hp n (fun r hp1 n1 => r = none ∧ n1 = n ∧ hp1 a = some (.inr (9, [.int p1, v1, v2, v3, v4, v5])) ∧ ∀ q : Nat, q ≠ a → hp1 q = hp q) := by
  refine Mt.of rfl (Nat.le_of_ble_eq_true rfl) ?_
  refine Rn.pick (lv' := [(0, .ref a), (1, .int p1)]) [0, 1] rfl ?_
  refine r_aload_n (pc := 0) dX9_init_0 (i := 0) rfl rfl ?_
  refine r_objInit (pc := 1) kX9_1 dX9_init_1 (Nat.le_of_ble_eq_true rfl) ?_
  refine r_aload_n (pc := 4) dX9_init_4 (i := 0) rfl rfl ?_
  refine r_iload_n (pc := 5) dX9_init_5 (i := 1) rfl rfl ?_
  refine w_put (pc := 6) (ty := .int) (fs' := [.int p1, v1, v2, v3, v4, v5]) fX9_7_X10 tyX10 tyX10_ok nmX10 (by decide +kernel) (Or.inr ⟨rfl, rfl, rfl⟩) dX9_init_6 gc0 (Nat.le_of_ble_eq_true rfl) (rfl) (rfl) rfl (fun hp_1 h_2 ho_3 => ?_)
  exact r_vret (pc := 9) dX9_init_9 rfl ⟨rfl, rfl, h_2, ho_3⟩
set_option maxHeartbeats 4000000 in
set_option maxRecDepth 100000 in
theorem p_X5 {D : va_G} {cI cJ cZ cT : ClassId} {lo b L : Nat} {xs : Nat → Int32} {hp : MH} {n d kr wr : Nat} {Po : Option Value → MH → Nat → Prop} {Γ : TG} {pa ga gn : Nat} {Fs : List (Value → Prop)} {x2 : Int} {v3 : Value} (hd0 : 1 ≤ d) (ht : Tw Γ hp) (hg0 : rd Γ ga (tO 3 Fs)) (hF : Fs[0]? = some (fE (.int (iv (gn : Int))))) (h0 : hp pa = some (.inr (5, [.int 0, .int 0, .null, .null]))) (hn : n = pa + 1) (hgn : gn ≤ 16) (hlo : ∀ (q : Nat) (T : va_E → Prop), Γ q = some T → q < pa) (hkr : 2 ≤ kr) (hwr : gn + gn ≤ wr) (kk : ∀ hp1 : MH, Tw (PN Γ cI cJ cZ cT pa gn 0 (fun _ => 0)) hp1 → Rn (gG D cI cJ cZ cT lo b L xs) mX5_init d 28 [(0, .ref pa), (1, .ref ga), (2, .int (iv x2)), (3, v3)] [] hp1 (n + 2) (kr - 1 - 1) (wr - gn - gn) Po) : Rn (gG D cI cJ cZ cT lo b L xs) mX5_init d 0 [(0, .ref pa), (1, .ref ga), (2, .int (iv x2)), (3, v3)] [] hp n kr wr Po := by
  subst hn
  have hsq : gn * gn ≤ 256 := Nat.le_trans (Nat.mul_le_mul hgn hgn) (by decide)
  refine Rn.bd (fun bd => ?_)
  refine r_aload_n (pc := 0) dX5_init_0 (i := 0) rfl rfl ?_
  refine r_aload_n (pc := 1) dX5_init_1 (i := 1) rfl rfl ?_
  refine t_getE (pc := 2) (.int (iv (gn : Int))) ht hg0 fX5_3 dX5_init_2 hF ?_
  refine r_callI (pc := 5) (as := [.int (iv (gn : Int))]) (st := []) kX5_9 dX5_init_5 (c_X9_init_X5 (d := d - 1) (by omega) h0) rfl (by omega) (Nat.le_of_ble_eq_true rfl) (Nat.zero_le _) (Nat.zero_le _) rfl (fun r9 hq0 n1 hq1 => ?_)
  obtain ⟨rfl, hn1, g0, o0⟩ := hq1
  subst n1
  change Rn _ _ _ 8 _ [] _ _ _ _ _
  refine r_aload_n (pc := 8) dX5_init_8 (i := 0) rfl rfl ?_
  refine r_aload_n (pc := 9) dX5_init_9 (i := 0) rfl rfl ?_
  refine r_get (pc := 10) fX5_15 dX5_init_10 g0 rfl ?_
  refine w_newi (pc := 13) (t0 := 0) (N := gn) dX5_init_13 (tb_t (k := 68) (w := Cond.arrayClass .int) (by decide +kernel)) rfl (nI_iv gn).symm (by omega) (by omega) (by omega) (fun hp1 a0 k1 o1 => ?_)
  refine w_put (pc := 15) (ty := .array .int) (fs' := [.int (iv (gn : Int)), .int 0, .ref (pa + 1), .null]) fX5_18 tyX5 tyX5_ok nmX5 (by decide +kernel) (Or.inr ⟨rfl, rfl, rfl⟩) dX5_init_15 (k1 _ _ g0) (Nat.le_of_ble_eq_true rfl) rfl rfl rfl (fun hp2 g2 o2 => ?_)
  refine r_aload_n (pc := 18) dX5_init_18 (i := 0) rfl rfl ?_
  refine r_aload_n (pc := 19) dX5_init_19 (i := 0) rfl rfl ?_
  refine r_get (pc := 20) fX5_15 dX5_init_20 g2 rfl ?_
  refine w_newi (pc := 23) (t0 := 0) (N := gn) dX5_init_23 (tb_t (k := 68) (w := Cond.arrayClass .int) (by decide +kernel)) rfl (nI_iv gn).symm (by omega) (by omega) (by omega) (fun hp3 a1 k3 o3 => ?_)
  refine w_put (pc := 25) (ty := .array .int) (fs' := [.int (iv (gn : Int)), .int 0, .ref (pa + 1), .ref (pa + 2)]) fX5_22 tyX5 tyX5_ok nmX5 (by decide +kernel) (Or.inr ⟨rfl, rfl, rfl⟩) dX5_init_25 (k3 _ _ g2) (Nat.le_of_ble_eq_true rfl) rfl rfl rfl (fun hp4 g4 o4 => ?_)
  have z0 := ((o4 _ (by omega)).trans ((o3 _ (by omega)).trans ((o2 _ (by omega)).trans a0)))
  have z1 := ((o4 _ (by omega)).trans a1)
  refine kk _ (PN_tw ht (fun q e hq h9 => ?_) (fun j T hj => ?_))
  · have hne : q < pa := by
      rcases hq with h8 | h8
      · exact h8
      · exact absurd (bd q e h9) (by omega)
    exact (o4 q (by omega)).trans ((o3 q (by omega)).trans ((o2 q (by omega)).trans ((o1 q (by omega)).trans ((o0 q (by omega)).trans h9))))
  · match j, hj with
    | 0, hj =>
      obtain rfl := Option.some.inj hj
      exact ⟨_, g4, tO_mk (vs := [.int (iv (gn : Int)), .int 0, .ref (pa + 1), .ref (pa + 2)])⟩
    | 1, hj =>
      obtain rfl := Option.some.inj hj
      exact ⟨_, z0, ⟨_, rfl, fun _ _ => rfl⟩⟩
    | 2, hj =>
      obtain rfl := Option.some.inj hj
      exact ⟨_, z1, ⟨_, rfl, fun _ _ => ⟨by decide, by decide⟩⟩⟩
    | j + 3, hj => exact absurd (List.getElem?_eq_some_iff.mp hj).1 (by show ¬ (j + 3 < 3); omega)
set_option maxHeartbeats 4000000 in
set_option maxRecDepth 100000 in
theorem p_X10 {D : va_G} {cI cJ cZ cT : ClassId} {lo b L : Nat} {xs : Nat → Int32} {hp : MH} {n d kr wr : Nat} {Po : Option Value → MH → Nat → Prop} {Γ : TG} {wa ga gn : Nat} {Fs : List (Value → Prop)} {x2 : Int} {x3 : Int} (hd0 : 1 ≤ d) (ht : Tw Γ hp) (hg0 : rd Γ ga (tO 3 Fs)) (hF : Fs[0]? = some (fE (.int (iv (gn : Int))))) (h0 : hp wa = some (.inr (9, [.int 0, .null, .null, .null, .null, .null]))) (hn : n = wa + 1) (hgn : gn ≤ 16) (hlo : ∀ (q : Nat) (T : va_E → Prop), Γ q = some T → q < wa) (hkr : 5 ≤ kr) (hwr : gn + gn + gn + gn + (gn * gn) ≤ wr) (kk : ∀ hp1 : MH, Tw (WN Γ cI cJ cZ cT wa gn (fun _ => 0) (fun _ => 0) (fun _ => 0)) hp1 → Rn (gG D cI cJ cZ cT lo b L xs) mX10_init d 63 [(0, .ref wa), (1, .ref ga), (2, .int (iv x2)), (3, .int (iv x3))] [] hp1 (n + 5) (kr - 1 - 1 - 1 - 1 - 1) (wr - gn - gn - gn - gn - (gn * gn)) Po) : Rn (gG D cI cJ cZ cT lo b L xs) mX10_init d 0 [(0, .ref wa), (1, .ref ga), (2, .int (iv x2)), (3, .int (iv x3))] [] hp n kr wr Po := by
  subst hn
  have hsq : gn * gn ≤ 256 := Nat.le_trans (Nat.mul_le_mul hgn hgn) (by decide)
  refine Rn.bd (fun bd => ?_)
  refine r_aload_n (pc := 0) dX10_init_0 (i := 0) rfl rfl ?_
  refine r_aload_n (pc := 1) dX10_init_1 (i := 1) rfl rfl ?_
  refine t_getE (pc := 2) (.int (iv (gn : Int))) ht hg0 fX10_3 dX10_init_2 hF ?_
  refine r_callI (pc := 5) (as := [.int (iv (gn : Int))]) (st := []) kX10_9 dX10_init_5 (c_X9_init_X10 (d := d - 1) (by omega) h0) rfl (by omega) (Nat.le_of_ble_eq_true rfl) (Nat.zero_le _) (Nat.zero_le _) rfl (fun r9 hq0 n1 hq1 => ?_)
  obtain ⟨rfl, hn1, g0, o0⟩ := hq1
  subst n1
  change Rn _ _ _ 8 _ [] _ _ _ _ _
  refine r_aload_n (pc := 8) dX10_init_8 (i := 0) rfl rfl ?_
  refine r_aload_n (pc := 9) dX10_init_9 (i := 0) rfl rfl ?_
  refine r_get (pc := 10) fX10_15 dX10_init_10 g0 rfl ?_
  refine w_newi (pc := 13) (t0 := 0) (N := gn) dX10_init_13 (tb_t (k := 68) (w := Cond.arrayClass .int) (by decide +kernel)) rfl (nI_iv gn).symm (by omega) (by omega) (by omega) (fun hp1 a0 k1 o1 => ?_)
  refine w_put (pc := 15) (ty := .array .int) (fs' := [.int (iv (gn : Int)), .ref (wa + 1), .null, .null, .null, .null]) fX10_18 tyX10 tyX10_ok nmX10 (by decide +kernel) (Or.inr ⟨rfl, rfl, rfl⟩) dX10_init_15 (k1 _ _ g0) (Nat.le_of_ble_eq_true rfl) rfl rfl rfl (fun hp2 g2 o2 => ?_)
  refine r_aload_n (pc := 18) dX10_init_18 (i := 0) rfl rfl ?_
  refine r_aload_n (pc := 19) dX10_init_19 (i := 0) rfl rfl ?_
  refine r_get (pc := 20) fX10_15 dX10_init_20 g2 rfl ?_
  refine w_newl (pc := 23) (t0 := 1) (N := gn) dX10_init_23 (tb_t (k := 79) (w := Cond.arrayClass .long) (by decide +kernel)) rfl (nI_iv gn).symm (by omega) (by omega) (by omega) (fun hp3 a1 k3 o3 => ?_)
  refine w_put (pc := 25) (ty := .array .long) (fs' := [.int (iv (gn : Int)), .ref (wa + 1), .ref (wa + 2), .null, .null, .null]) fX10_22 tyX10 tyX10_ok nmX10 (by decide +kernel) (Or.inr ⟨rfl, rfl, rfl⟩) dX10_init_25 (k3 _ _ g2) (Nat.le_of_ble_eq_true rfl) rfl rfl rfl (fun hp4 g4 o4 => ?_)
  refine r_aload_n (pc := 28) dX10_init_28 (i := 0) rfl rfl ?_
  refine r_aload_n (pc := 29) dX10_init_29 (i := 0) rfl rfl ?_
  refine r_get (pc := 30) fX10_15 dX10_init_30 g4 rfl ?_
  refine w_newi (pc := 33) (t0 := 0) (N := gn) dX10_init_33 (tb_t (k := 68) (w := Cond.arrayClass .int) (by decide +kernel)) rfl (nI_iv gn).symm (by omega) (by omega) (by omega) (fun hp5 a2 k5 o5 => ?_)
  refine w_put (pc := 35) (ty := .array .int) (fs' := [.int (iv (gn : Int)), .ref (wa + 1), .ref (wa + 2), .ref (wa + 3), .null, .null]) fX10_26 tyX10 tyX10_ok nmX10 (by decide +kernel) (Or.inr ⟨rfl, rfl, rfl⟩) dX10_init_35 (k5 _ _ g4) (Nat.le_of_ble_eq_true rfl) rfl rfl rfl (fun hp6 g6 o6 => ?_)
  refine r_aload_n (pc := 38) dX10_init_38 (i := 0) rfl rfl ?_
  refine r_aload_n (pc := 39) dX10_init_39 (i := 0) rfl rfl ?_
  refine r_get (pc := 40) fX10_15 dX10_init_40 g6 rfl ?_
  refine w_newl (pc := 43) (t0 := 1) (N := gn) dX10_init_43 (tb_t (k := 79) (w := Cond.arrayClass .long) (by decide +kernel)) rfl (nI_iv gn).symm (by omega) (by omega) (by omega) (fun hp7 a3 k7 o7 => ?_)
  refine w_put (pc := 45) (ty := .array .long) (fs' := [.int (iv (gn : Int)), .ref (wa + 1), .ref (wa + 2), .ref (wa + 3), .ref (wa + 4), .null]) fX10_29 tyX10 tyX10_ok nmX10 (by decide +kernel) (Or.inr ⟨rfl, rfl, rfl⟩) dX10_init_45 (k7 _ _ g6) (Nat.le_of_ble_eq_true rfl) rfl rfl rfl (fun hp8 g8 o8 => ?_)
  refine r_aload_n (pc := 48) dX10_init_48 (i := 0) rfl rfl ?_
  refine r_aload_n (pc := 49) dX10_init_49 (i := 0) rfl rfl ?_
  refine r_get (pc := 50) fX10_15 dX10_init_50 g8 rfl ?_
  refine r_aload_n (pc := 53) dX10_init_53 (i := 0) rfl rfl ?_
  refine r_get (pc := 54) fX10_15 dX10_init_54 g8 rfl ?_
  refine r_imul (pc := 57) (v := nI (gn * gn)) dX10_init_57 (by rw [iv_mul, nI_iv]; congr 1) ?_
  refine w_newi (pc := 58) (t0 := 0) (N := gn * gn) dX10_init_58 (tb_t (k := 68) (w := Cond.arrayClass .int) (by decide +kernel)) rfl rfl (by omega) (by omega) (by omega) (fun hp9 a4 k9 o9 => ?_)
  refine w_put (pc := 60) (ty := .array .int) (fs' := [.int (iv (gn : Int)), .ref (wa + 1), .ref (wa + 2), .ref (wa + 3), .ref (wa + 4), .ref (wa + 5)]) fX10_32 tyX10 tyX10_ok nmX10 (by decide +kernel) (Or.inr ⟨rfl, rfl, rfl⟩) dX10_init_60 (k9 _ _ g8) (Nat.le_of_ble_eq_true rfl) rfl rfl rfl (fun hp10 g10 o10 => ?_)
  have z0 := ((o10 _ (by omega)).trans ((o9 _ (by omega)).trans ((o8 _ (by omega)).trans ((o7 _ (by omega)).trans ((o6 _ (by omega)).trans ((o5 _ (by omega)).trans ((o4 _ (by omega)).trans ((o3 _ (by omega)).trans ((o2 _ (by omega)).trans a0)))))))))
  have z1 := ((o10 _ (by omega)).trans ((o9 _ (by omega)).trans ((o8 _ (by omega)).trans ((o7 _ (by omega)).trans ((o6 _ (by omega)).trans ((o5 _ (by omega)).trans ((o4 _ (by omega)).trans a1)))))))
  have z2 := ((o10 _ (by omega)).trans ((o9 _ (by omega)).trans ((o8 _ (by omega)).trans ((o7 _ (by omega)).trans ((o6 _ (by omega)).trans a2)))))
  have z3 := ((o10 _ (by omega)).trans ((o9 _ (by omega)).trans ((o8 _ (by omega)).trans a3)))
  have z4 := ((o10 _ (by omega)).trans a4)
  refine kk _ (WN_tw ht (fun q e hq h9 => ?_) (fun j T hj => ?_))
  · have hne : q < wa := by
      rcases hq with h8 | h8
      · exact h8
      · exact absurd (bd q e h9) (by omega)
    exact (o10 q (by omega)).trans ((o9 q (by omega)).trans ((o8 q (by omega)).trans ((o7 q (by omega)).trans ((o6 q (by omega)).trans ((o5 q (by omega)).trans ((o4 q (by omega)).trans ((o3 q (by omega)).trans ((o2 q (by omega)).trans ((o1 q (by omega)).trans ((o0 q (by omega)).trans h9))))))))))
  · match j, hj with
    | 0, hj =>
      obtain rfl := Option.some.inj hj
      exact ⟨_, g10, tO_mk (vs := [.int (iv (gn : Int)), .ref (wa + 1), .ref (wa + 2), .ref (wa + 3), .ref (wa + 4), .ref (wa + 5)])⟩
    | 1, hj =>
      obtain rfl := Option.some.inj hj
      exact ⟨_, z0, ⟨_, rfl, fun _ _ => rfl⟩⟩
    | 2, hj =>
      obtain rfl := Option.some.inj hj
      exact ⟨_, z1, ⟨_, rfl, fun _ _ => rfl⟩⟩
    | 3, hj =>
      obtain rfl := Option.some.inj hj
      exact ⟨_, z2, ⟨_, rfl, fun _ _ => rfl⟩⟩
    | 4, hj =>
      obtain rfl := Option.some.inj hj
      exact ⟨_, z3, ⟨_, rfl, fun _ _ => trivial⟩⟩
    | 5, hj =>
      obtain rfl := Option.some.inj hj
      exact ⟨_, z4, ⟨_, rfl, fun _ _ => ⟨by decide, by decide⟩⟩⟩
    | j + 6, hj => exact absurd (List.getElem?_eq_some_iff.mp hj).1 (by show ¬ (j + 6 < 6); omega)
set_option maxHeartbeats 4000000 in
set_option maxRecDepth 100000 in
theorem t_X5_init_01 {D : va_G} {cI cJ cZ cT : ClassId} {lo b L : Nat} {xs : Nat → Int32} {hp : MH} {d : Nat} {Γ : TG} {ga : Nat} {gF : Nat} {gT : Nat} {gW : Nat} {gC : Nat} {gTl : Nat} {gHd : Nat} {gBy : Nat} {gOu : Nat} {gIn : Nat} {gJo : Nat} {gn : Nat} {gm : Nat} {gq : Nat} {gdr : Int}  {pa : Nat} {x2 : Int} (hd0 : 3 ≤ d) (hg : TyG Γ cI cJ cZ ga gF gT gW gC gTl gHd gBy gOu gIn gJo gn gm gq gdr) (h0 : hp pa = some (.inr (5, [.int 0, .int 0, .null, .null]))) (hlo : ∀ (q : Nat) (T : va_E → Prop), Γ q = some T → q < pa) (ht : Tw Γ hp) (hx2 : 0 ≤ x2 ∧ x2 ≤ 1) : Mt (gG D cI cJ cZ cT lo b L xs) mX5_init d 3 (gn + gn + gn) [.ref pa, .ref ga, .int (iv x2), .null] hp (pa + 1) (pPt Γ cI cJ cZ pa gn (pa + 1)) := by
  refine Mt.of rfl (Nat.le_of_ble_eq_true rfl) ?_
  refine Rn.pick (lv' := [(0, .ref pa), (1, .ref ga), (2, .int (iv x2)), (3, .null)]) [0, 1, 2, 3] rfl ?_
  obtain ⟨hg_O, hg_from, hg_to, hg_weight, hg_cost, hg_tail, hg_head, hg_by, hg_out, hg_in, hg_joined, hg_b⟩ := id hg
  have hltg : ga < pa ∧ gF < pa ∧ gT < pa ∧ gW < pa ∧ gC < pa ∧ gTl < pa ∧ gHd < pa ∧ gBy < pa ∧ gOu < pa ∧ gIn < pa ∧ gJo < pa := ⟨rd_lo hlo hg_O, rd_lo hlo hg_from, rd_lo hlo hg_to, rd_lo hlo hg_weight, rd_lo hlo hg_cost, rd_lo hlo hg_tail, rd_lo hlo hg_head, rd_lo hlo hg_by, rd_lo hlo hg_out, rd_lo hlo hg_in, rd_lo hlo hg_joined⟩
  have hu0 : Rfx gn 0 15 (fun _ => 0) := fun _ _ => ⟨(by show (0 : Int) ≤ 0; decide), (by show (0 : Int) ≤ 15; decide)⟩
  have hu1 : nuP (fun _ => 0) 0 0 := nu_0 _ _
  refine p_X5 (by omega) ht hg_O rfl h0 rfl (by omega) hlo (by omega) (by omega) (fun hp1 ht1 => ?_)
  refine r_iload_n (pc := 28) dX5_init_28 (i := 2) rfl rfl ?_
  refine r_iconst (pc := 29) (v := iv 2) dX5_init_29 (by decide) ?_
  refine t_icmp_ne (pc := 30) (tgt := 40) dX5_init_30 (by decide) (by omega) (by omega) (fun c30 => ?_) (fun c30 => ?_)
  · refine r_aload_n (pc := 40) dX5_init_40 (i := 1) rfl rfl ?_
    refine t_getE (pc := 41) (.ref gJo) ht1 (rd_PN (by omega) hg_O) fX5_31 dX5_init_41 rfl ?_
    refine r_astore (pc := 44) (lv' := [(4, .ref gJo), (0, .ref pa), (1, .ref ga), (2, .int (iv x2)), (3, .null)]) dX5_init_44 (by decide) rfl ?_
    refine r_iconst (pc := 46) (v := iv 0) dX5_init_46 (by decide) ?_
    refine r_istore (pc := 47) (lv' := [(5, .int (iv 0)), (4, .ref gJo), (0, .ref pa), (1, .ref ga), (2, .int (iv x2)), (3, .null)]) dX5_init_47 (by decide) rfl ?_
    refine r_iconst (pc := 49) (v := iv 0) dX5_init_49 (by decide) ?_
    refine r_istore (pc := 50) (lv' := [(6, .int (iv 0)), (5, .int (iv 0)), (4, .ref gJo), (0, .ref pa), (1, .ref ga), (2, .int (iv x2)), (3, .null)]) dX5_init_50 (by decide) rfl ?_
    have B52 : ∀ k : Nat, ∀ vu52 : Nat → Int, ∀ hp52 : MH, Tw (PN Γ cI cJ cZ cT pa gn 0 vu52) hp52 → ∀  (v52_5 : Int) (v52_6 : Int), 0 ≤ v52_5 ∧ v52_5 ≤ 16 ∧ 0 ≤ v52_6 ∧ v52_6 ≤ 16 ∧ Rfx gn 0 15 vu52 ∧ nuP vu52 v52_6 v52_5 ∧ v52_5 ≤ v52_6 ∧ (1 ≤ v52_6 → 1 ≤ v52_5) ∧ v52_6 ≤ (gn : Int) → 16 - v52_6 ≤ (k : Int) → Rn (gG D cI cJ cZ cT lo b L xs) mX5_init d 52 [(0, .ref pa), (1, .ref ga), (2, .int (iv x2)), (3, .null), (4, .ref gJo), (5, .int (iv v52_5)), (6, .int (iv v52_6))] [] hp52 (pa + 1 + 2) (3 - 1 - 1) ((gn + gn + gn) - gn - gn) (pPt Γ cI cJ cZ pa gn (pa + 1)) := by
      refine lpS _ ?_
      intro k52 ih52 vu52 hp52 ht52 v52_5 v52_6 hf52 hm52
      obtain ⟨hf52_0, hf52_1, hf52_2, hf52_3, ha52_4, ha52_5, hf52_6, hf52_7, hf52_8⟩ := hf52
      refine r_iload (pc := 52) dX5_init_52 rfl ?_
      refine r_aload_n (pc := 54) dX5_init_54 (i := 0) rfl rfl ?_
      refine t_getE (pc := 55) (.int (iv (gn : Int))) ht52 (rd_of PN_0) fX5_15 dX5_init_55 rfl ?_
      refine t_icmp_ge (pc := 58) (tgt := 139) dX5_init_58 (by decide) (by omega) (by omega) (fun c58 => ?_) (fun c58 => ?_)
      · refine r_aload_n (pc := 139) dX5_init_139 (i := 0) rfl rfl ?_
        refine r_iload (pc := 140) dX5_init_140 rfl ?_
        refine t_putX (pc := 142) (ty := .int) ht52 PN_0 fX5_38 tyX5 tyX5_ok nmX5 (by decide +kernel) (Or.inr ⟨rfl, rfl, rfl⟩) dX5_init_142 (Nat.le_of_ble_eq_true rfl) rfl rfl rfl (fun hp1 ht2 => ?_)
        have ht3 := RGw_vz ht2
        exact r_vret (pc := 145) dX5_init_145 rfl ⟨by omega, rfl, _, _, PN_ext hlo (Ext_refl Γ), ht3, PN_ty (by omega) (by omega) (by have e9 : v52_6 = (gn : Int) := (by omega); rw [← e9]; assumption)⟩
      · refine r_aload_n (pc := 61) dX5_init_61 (i := 1) rfl rfl ?_
        refine r_iload_n (pc := 62) dX5_init_62 (i := 2) rfl rfl ?_
        refine r_aload (pc := 63) dX5_init_63 rfl ?_
        refine r_aload_nN (pc := 65) dX5_init_65 (i := 3) rfl rfl ?_
        refine r_iload (pc := 66) dX5_init_66 rfl ?_
        refine t_callSR (pc := 68) (as := [.ref ga, .int (iv x2), .ref gJo, .null, .int (iv v52_6)]) (st := []) kX5_34 dX5_init_68 (t_X5_first_n (d := d - 1) (x1 := x2) (rA := gJo) (rL := gn) (x4 := v52_6) (by omega) (TyG.pn hltg hg) (rd_PN (by omega) hg_joined) (by omega) ht52 (by omega) (by omega) (by omega)) rfl (by omega) (Nat.le_of_ble_eq_true rfl) rfl (fun hp4 y6 ht5 by6 => ?_)
        refine r_istore (pc := 71) (lv' := [(7, .int (iv y6)), (0, .ref pa), (1, .ref ga), (2, .int (iv x2)), (3, .null), (4, .ref gJo), (5, .int (iv v52_5)), (6, .int (iv v52_6))]) dX5_init_71 (by decide) rfl ?_
        refine r_iload (pc := 73) dX5_init_73 rfl ?_
        refine r_iload (pc := 75) dX5_init_75 rfl ?_
        have B114 : ∀ vu114 : Nat → Int, ∀ hp114 : MH, Tw (PN Γ cI cJ cZ cT pa gn 0 vu114) hp114 → ∀  (v114_5 : Int), 0 ≤ v114_5 ∧ v114_5 ≤ 17 ∧ v52_5 ≤ v114_5 ∧ Rfx gn 0 15 vu114 ∧ nuP vu114 (v52_6 + 1) v114_5 ∧ v114_5 ≤ v52_6 + 1 ∧ 1 ≤ v114_5 → Rn (gG D cI cJ cZ cT lo b L xs) mX5_init d 114 [(0, .ref pa), (1, .ref ga), (2, .int (iv x2)), (3, .null), (4, .ref gJo), (5, .int (iv v114_5)), (6, .int (iv v52_6))] [] hp114 (pa + 1 + 2) (3 - 1 - 1) ((gn + gn + gn) - gn - gn) (pPt Γ cI cJ cZ pa gn (pa + 1)) := by
          intro vu114 hp114 ht114 v114_5 hf114
          obtain ⟨hf114_0, hf114_1, hf114_2, ha114_3, ha114_4, hf114_5, hf114_6⟩ := hf114
          refine r_aload_n (pc := 114) dX5_init_114 (i := 0) rfl rfl ?_
          refine t_getE (pc := 115) (.ref (pa + 2)) ht114 (rd_of PN_0) fX5_22 dX5_init_115 rfl ?_
          refine r_aload_n (pc := 118) dX5_init_118 (i := 0) rfl rfl ?_
          refine t_getE (pc := 119) (.ref (pa + 1)) ht114 (rd_of PN_0) fX5_18 dX5_init_119 rfl ?_
          refine r_iload (pc := 122) dX5_init_122 rfl ?_
          refine t_ialdX (pc := 124) (t0 := 0) ht114 (rd_of PN_1) dX5_init_124 rfl (by omega) (by omega) (fun b7 => ?_)
          have rb7 := (show Rfx gn 0 15 vu114 by assumption) (Int.toNat v52_6) (by omega)
          have hnv : nuP vu114 (v52_6 + 1) v114_5 := by assumption
          have hnw := hnv (Int.toNat v52_6) (by omega)
          refine r_dup2_11 (pc := 125) dX5_init_125 rfl rfl ?_
          refine t_ialdR (pc := 126) (t0 := 0) ht114 (rd_of PN_2) dX5_init_126 rfl (by omega) (by omega) (fun y8 by8 => ?_)
          refine r_iconst (pc := 127) (v := iv 1) dX5_init_127 (by decide) ?_
          refine r_iload (pc := 128) dX5_init_128 rfl ?_
          obtain ⟨z9, hz9, bz9⟩ := shl_1 0 15 v52_6 (by omega) (by omega) (by decide)
          refine r_ishl (pc := 130) (v := iv z9) dX5_init_130 hz9 ?_
          obtain ⟨z10, hz10, bz10⟩ := or_2 16 y8 z9 (by omega) (by omega) (by decide)
          refine r_ior (pc := 131) (v := iv z10) dX5_init_131 hz10 ?_
          refine t_iastR (pc := 132) (t0 := 0) ht114 PN_2 dX5_init_132 rfl (by omega) (by omega) (by omega) (by omega) (fun hp11 ht12 => ?_)
          refine r_iinc (pc := 133) (v := iv (v52_6 + 1)) (lv' := [(6, .int (iv (v52_6 + 1))), (0, .ref pa), (1, .ref ga), (2, .int (iv x2)), (3, .null), (4, .ref gJo), (5, .int (iv v114_5))]) dX5_init_133 rfl (iv_add _ _) (by decide) rfl ?_
          refine r_goto (pc := 136) (tgt := 52) dX5_init_136 (by decide) ?_
          refine Rn.pick (lv' := [(0, .ref pa), (1, .ref ga), (2, .int (iv x2)), (3, .null), (4, .ref gJo), (5, .int (iv v114_5)), (6, .int (iv (v52_6 + 1)))]) [1, 2, 3, 4, 5, 6, 0] rfl ?_
          exact ih52 (Int.toNat (16 - (v52_6 + 1))) (by omega) vu114 _ ht12 v114_5 (v52_6 + 1) ⟨by omega, by omega, by omega, by omega, by assumption, by assumption, by omega, by omega, by omega⟩ (by omega)
        have B102 : ∀ hp102 : MH, Tw (PN Γ cI cJ cZ cT pa gn 0 vu52) hp102 → True → Rn (gG D cI cJ cZ cT lo b L xs) mX5_init d 102 [(0, .ref pa), (1, .ref ga), (2, .int (iv x2)), (3, .null), (4, .ref gJo), (5, .int (iv v52_5)), (6, .int (iv v52_6))] [] hp102 (pa + 1 + 2) (3 - 1 - 1) ((gn + gn + gn) - gn - gn) (pPt Γ cI cJ cZ pa gn (pa + 1)) := by
          intro hp102 ht102 hf102
          refine r_aload_n (pc := 102) dX5_init_102 (i := 0) rfl rfl ?_
          refine t_getE (pc := 103) (.ref (pa + 1)) ht102 (rd_of PN_0) fX5_18 dX5_init_103 rfl ?_
          refine r_iload (pc := 106) dX5_init_106 rfl ?_
          refine r_iload (pc := 108) dX5_init_108 rfl ?_
          refine t_iastX (pc := 110) (t0 := 0) ht102 PN_1 dX5_init_110 rfl (by omega) (by omega) (by omega) (fun hp13 ht14 => ?_)
          have ht15 := RGw_vu ht14
          have hqht15 : Rfx gn 0 15 (fup vu52 (Int.toNat v52_6) v52_5) := Rfx_up (by assumption) (by omega)
          refine r_iinc (pc := 111) (v := iv (v52_5 + 1)) (lv' := [(5, .int (iv (v52_5 + 1))), (0, .ref pa), (1, .ref ga), (2, .int (iv x2)), (3, .null), (4, .ref gJo), (6, .int (iv v52_6))]) dX5_init_111 rfl (iv_add _ _) (by decide) rfl ?_
          refine Rn.pick (lv' := [(0, .ref pa), (1, .ref ga), (2, .int (iv x2)), (3, .null), (4, .ref gJo), (5, .int (iv (v52_5 + 1))), (6, .int (iv v52_6))]) [1, 2, 3, 4, 5, 0, 6] rfl ?_
          exact B114 (fup vu52 (Int.toNat v52_6) v52_5) _ ht15 (v52_5 + 1) ⟨by omega, by omega, by omega, by assumption, by (first | exact nu_a (by assumption) (by omega) | exact nu_b (by assumption) (by omega) (by omega)), by omega, by omega⟩
        refine t_icmp_ge (pc := 77) (tgt := 102) dX5_init_77 (by decide) (by omega) (by omega) (fun c77 => ?_) (fun c77 => ?_)
        · refine Rn.pick (lv' := [(0, .ref pa), (1, .ref ga), (2, .int (iv x2)), (3, .null), (4, .ref gJo), (5, .int (iv v52_5)), (6, .int (iv v52_6))]) [1, 2, 3, 4, 5, 6, 7] rfl ?_
          exact B102 _ ht5 trivial
        · refine r_iload (pc := 80) dX5_init_80 rfl ?_
          refine t_if_lt (pc := 82) (tgt := 102) dX5_init_82 (by decide) (by omega) (fun c82 => ?_) (fun c82 => ?_)
          · exfalso
            omega
          · refine r_aload_n (pc := 85) dX5_init_85 (i := 0) rfl rfl ?_
            refine t_getE (pc := 86) (.ref (pa + 1)) ht5 (rd_of PN_0) fX5_18 dX5_init_86 rfl ?_
            refine r_iload (pc := 89) dX5_init_89 rfl ?_
            refine r_aload_n (pc := 91) dX5_init_91 (i := 0) rfl rfl ?_
            refine t_getE (pc := 92) (.ref (pa + 1)) ht5 (rd_of PN_0) fX5_18 dX5_init_92 rfl ?_
            refine r_iload (pc := 95) dX5_init_95 rfl ?_
            refine t_ialdX (pc := 97) (t0 := 0) ht5 (rd_of PN_1) dX5_init_97 rfl (by omega) (by omega) (fun b16 => ?_)
            have rb16 := (show Rfx gn 0 15 vu52 by assumption) (Int.toNat y6) (by omega)
            refine t_iastX (pc := 98) (t0 := 0) ht5 PN_1 dX5_init_98 rfl (by omega) (by omega) (by omega) (fun hp17 ht18 => ?_)
            have ht19 := RGw_vu ht18
            have hqht19 : Rfx gn 0 15 (fup vu52 (Int.toNat v52_6) (vu52 (Int.toNat y6))) := Rfx_up (by assumption) (by omega)
            refine r_goto (pc := 99) (tgt := 114) dX5_init_99 (by decide) ?_
            refine Rn.pick (lv' := [(0, .ref pa), (1, .ref ga), (2, .int (iv x2)), (3, .null), (4, .ref gJo), (5, .int (iv v52_5)), (6, .int (iv v52_6))]) [1, 2, 3, 4, 5, 6, 7] rfl ?_
            exact B114 (fup vu52 (Int.toNat v52_6) (vu52 (Int.toNat y6))) _ ht19 v52_5 ⟨by omega, by omega, by omega, by assumption, by (first | exact nu_a (by assumption) (by omega) | exact nu_b (by assumption) (by omega) (by omega)), by omega, by omega⟩
    refine Rn.pick (lv' := [(0, .ref pa), (1, .ref ga), (2, .int (iv x2)), (3, .null), (4, .ref gJo), (5, .int (iv 0)), (6, .int (iv 0))]) [3, 4, 5, 6, 2, 1, 0] rfl ?_
    exact B52 (Int.toNat (16 - 0)) (fun _ => 0) _ ht1 0 0 ⟨by omega, by omega, by omega, by omega, by assumption, by assumption, by omega, by omega, by omega⟩ (by omega)
  · exfalso
    omega
set_option maxHeartbeats 4000000 in
set_option maxRecDepth 100000 in
theorem t_X5_init_2 {D : va_G} {cI cJ cZ cT : ClassId} {lo b L : Nat} {xs : Nat → Int32} {hp : MH} {d : Nat} {Γ : TG} {ga : Nat} {gF : Nat} {gT : Nat} {gW : Nat} {gC : Nat} {gTl : Nat} {gHd : Nat} {gBy : Nat} {gOu : Nat} {gIn : Nat} {gJo : Nat} {gn : Nat} {gm : Nat} {gq : Nat} {gdr : Int}  {pa : Nat} {x2 : Int} (hd0 : 3 ≤ d) (hg : TyG Γ cI cJ cZ ga gF gT gW gC gTl gHd gBy gOu gIn gJo gn gm gq gdr) (h0 : hp pa = some (.inr (5, [.int 0, .int 0, .null, .null]))) (hlo : ∀ (q : Nat) (T : va_E → Prop), Γ q = some T → q < pa) (ht : Tw Γ hp) (hx2 : 2 ≤ x2 ∧ x2 ≤ 2) : Mt (gG D cI cJ cZ cT lo b L xs) mX5_init d 3 (gn + gn + gn) [.ref pa, .ref ga, .int (iv x2), .null] hp (pa + 1) (pPt Γ cI cJ cZ pa gn (pa + 1)) := by
  refine Mt.of rfl (Nat.le_of_ble_eq_true rfl) ?_
  refine Rn.pick (lv' := [(0, .ref pa), (1, .ref ga), (2, .int (iv x2)), (3, .null)]) [0, 1, 2, 3] rfl ?_
  obtain ⟨hg_O, hg_from, hg_to, hg_weight, hg_cost, hg_tail, hg_head, hg_by, hg_out, hg_in, hg_joined, hg_b⟩ := id hg
  have hltg : ga < pa ∧ gF < pa ∧ gT < pa ∧ gW < pa ∧ gC < pa ∧ gTl < pa ∧ gHd < pa ∧ gBy < pa ∧ gOu < pa ∧ gIn < pa ∧ gJo < pa := ⟨rd_lo hlo hg_O, rd_lo hlo hg_from, rd_lo hlo hg_to, rd_lo hlo hg_weight, rd_lo hlo hg_cost, rd_lo hlo hg_tail, rd_lo hlo hg_head, rd_lo hlo hg_by, rd_lo hlo hg_out, rd_lo hlo hg_in, rd_lo hlo hg_joined⟩
  have hu0 : Rfx gn 0 15 (fun _ => 0) := fun _ _ => ⟨(by show (0 : Int) ≤ 0; decide), (by show (0 : Int) ≤ 15; decide)⟩
  have hu1 : nuP (fun _ => 0) 0 0 := nu_0 _ _
  refine p_X5 (by omega) ht hg_O rfl h0 rfl (by omega) hlo (by omega) (by omega) (fun hp1 ht1 => ?_)
  refine r_iload_n (pc := 28) dX5_init_28 (i := 2) rfl rfl ?_
  refine r_iconst (pc := 29) (v := iv 2) dX5_init_29 (by decide) ?_
  refine t_icmp_ne (pc := 30) (tgt := 40) dX5_init_30 (by decide) (by omega) (by omega) (fun c30 => ?_) (fun c30 => ?_)
  · exfalso
    omega
  · refine r_aload_n (pc := 33) dX5_init_33 (i := 1) rfl rfl ?_
    refine r_callS (pc := 34) (as := [.ref ga]) (st := []) kX5_25 dX5_init_34 (t_X8_withoutBridges (d := d - 1) (by omega) (TyG.pn hltg hg) ht1) rfl (by omega) (Nat.le_of_ble_eq_true rfl) (by omega) (by omega) rfl (fun r1 hp2 n3 hq4 => ?_)
    obtain ⟨hnn3, hrr1, Γ1, hE1, hR1, ht5⟩ := hq4
    subst n3 r1
    obtain ⟨Γ2, hE2, eq2⟩ := PN_x hE1
    rw [← eq2] at ht5 hR1
    have hg := TyG.ext hE2 hg
    obtain ⟨hg_O, hg_from, hg_to, hg_weight, hg_cost, hg_tail, hg_head, hg_by, hg_out, hg_in, hg_joined, hg_b⟩ := id hg
    have hR3 : PN Γ2 cI cJ cZ cT pa gn 0 (fun _ => 0) (pa + 3) = some (tI cI gn (rg 0 65535)) := hR1
    have hR4 : Γ2 (pa + 3) = some (tI cI gn (rg 0 65535)) := (PN_o (by omega)).symm.trans hR3
    change Rn _ _ _ 37 _ [.ref (pa + 3)] _ _ _ _ _
    refine r_goto (pc := 37) (tgt := 44) dX5_init_37 (by decide) ?_
    refine r_astore (pc := 44) (lv' := [(4, .ref (pa + 3)), (0, .ref pa), (1, .ref ga), (2, .int (iv x2)), (3, .null)]) dX5_init_44 (by decide) rfl ?_
    refine r_iconst (pc := 46) (v := iv 0) dX5_init_46 (by decide) ?_
    refine r_istore (pc := 47) (lv' := [(5, .int (iv 0)), (4, .ref (pa + 3)), (0, .ref pa), (1, .ref ga), (2, .int (iv x2)), (3, .null)]) dX5_init_47 (by decide) rfl ?_
    refine r_iconst (pc := 49) (v := iv 0) dX5_init_49 (by decide) ?_
    refine r_istore (pc := 50) (lv' := [(6, .int (iv 0)), (5, .int (iv 0)), (4, .ref (pa + 3)), (0, .ref pa), (1, .ref ga), (2, .int (iv x2)), (3, .null)]) dX5_init_50 (by decide) rfl ?_
    have B52 : ∀ k : Nat, ∀ vu52 : Nat → Int, ∀ hp52 : MH, Tw (PN Γ2 cI cJ cZ cT pa gn 0 vu52) hp52 → ∀  (v52_5 : Int) (v52_6 : Int), 0 ≤ v52_5 ∧ v52_5 ≤ 16 ∧ 0 ≤ v52_6 ∧ v52_6 ≤ 16 ∧ Rfx gn 0 15 vu52 ∧ nuP vu52 v52_6 v52_5 ∧ v52_5 ≤ v52_6 ∧ (1 ≤ v52_6 → 1 ≤ v52_5) ∧ v52_6 ≤ (gn : Int) → 16 - v52_6 ≤ (k : Int) → Rn (gG D cI cJ cZ cT lo b L xs) mX5_init d 52 [(0, .ref pa), (1, .ref ga), (2, .int (iv x2)), (3, .null), (4, .ref (pa + 3)), (5, .int (iv v52_5)), (6, .int (iv v52_6))] [] hp52 (pa + 1 + 2 + 1) ((3 - 1 - 1) - 1) (((gn + gn + gn) - gn - gn) - gn) (pPt Γ cI cJ cZ pa gn (pa + 1)) := by
      refine lpS _ ?_
      intro k52 ih52 vu52 hp52 ht52 v52_5 v52_6 hf52 hm52
      obtain ⟨hf52_0, hf52_1, hf52_2, hf52_3, ha52_4, ha52_5, hf52_6, hf52_7, hf52_8⟩ := hf52
      refine r_iload (pc := 52) dX5_init_52 rfl ?_
      refine r_aload_n (pc := 54) dX5_init_54 (i := 0) rfl rfl ?_
      refine t_getE (pc := 55) (.int (iv (gn : Int))) ht52 (rd_of PN_0) fX5_15 dX5_init_55 rfl ?_
      refine t_icmp_ge (pc := 58) (tgt := 139) dX5_init_58 (by decide) (by omega) (by omega) (fun c58 => ?_) (fun c58 => ?_)
      · refine r_aload_n (pc := 139) dX5_init_139 (i := 0) rfl rfl ?_
        refine r_iload (pc := 140) dX5_init_140 rfl ?_
        refine t_putX (pc := 142) (ty := .int) ht52 PN_0 fX5_38 tyX5 tyX5_ok nmX5 (by decide +kernel) (Or.inr ⟨rfl, rfl, rfl⟩) dX5_init_142 (Nat.le_of_ble_eq_true rfl) rfl rfl rfl (fun hp6 ht7 => ?_)
        have ht8 := RGw_vz ht7
        exact r_vret (pc := 145) dX5_init_145 rfl ⟨by omega, rfl, _, _, PN_ext hlo hE2, ht8, PN_ty (by omega) (by omega) (by have e9 : v52_6 = (gn : Int) := (by omega); rw [← e9]; assumption)⟩
      · refine r_aload_n (pc := 61) dX5_init_61 (i := 1) rfl rfl ?_
        refine r_iload_n (pc := 62) dX5_init_62 (i := 2) rfl rfl ?_
        refine r_aload (pc := 63) dX5_init_63 rfl ?_
        refine r_aload_nN (pc := 65) dX5_init_65 (i := 3) rfl rfl ?_
        refine r_iload (pc := 66) dX5_init_66 rfl ?_
        refine t_callSR (pc := 68) (as := [.ref ga, .int (iv x2), .ref (pa + 3), .null, .int (iv v52_6)]) (st := []) kX5_34 dX5_init_68 (t_X5_first_n (d := d - 1) (x1 := x2) (rA := (pa + 3)) (rL := gn) (x4 := v52_6) (by omega) (TyG.pn hltg hg) (rd_PN (by omega) (rd_of hR4)) (by omega) ht52 (by omega) (by omega) (by omega)) rfl (by omega) (Nat.le_of_ble_eq_true rfl) rfl (fun hp9 y11 ht10 by11 => ?_)
        refine r_istore (pc := 71) (lv' := [(7, .int (iv y11)), (0, .ref pa), (1, .ref ga), (2, .int (iv x2)), (3, .null), (4, .ref (pa + 3)), (5, .int (iv v52_5)), (6, .int (iv v52_6))]) dX5_init_71 (by decide) rfl ?_
        refine r_iload (pc := 73) dX5_init_73 rfl ?_
        refine r_iload (pc := 75) dX5_init_75 rfl ?_
        have B114 : ∀ vu114 : Nat → Int, ∀ hp114 : MH, Tw (PN Γ2 cI cJ cZ cT pa gn 0 vu114) hp114 → ∀  (v114_5 : Int), 0 ≤ v114_5 ∧ v114_5 ≤ 17 ∧ v52_5 ≤ v114_5 ∧ Rfx gn 0 15 vu114 ∧ nuP vu114 (v52_6 + 1) v114_5 ∧ v114_5 ≤ v52_6 + 1 ∧ 1 ≤ v114_5 → Rn (gG D cI cJ cZ cT lo b L xs) mX5_init d 114 [(0, .ref pa), (1, .ref ga), (2, .int (iv x2)), (3, .null), (4, .ref (pa + 3)), (5, .int (iv v114_5)), (6, .int (iv v52_6))] [] hp114 (pa + 1 + 2 + 1) ((3 - 1 - 1) - 1) (((gn + gn + gn) - gn - gn) - gn) (pPt Γ cI cJ cZ pa gn (pa + 1)) := by
          intro vu114 hp114 ht114 v114_5 hf114
          obtain ⟨hf114_0, hf114_1, hf114_2, ha114_3, ha114_4, hf114_5, hf114_6⟩ := hf114
          refine r_aload_n (pc := 114) dX5_init_114 (i := 0) rfl rfl ?_
          refine t_getE (pc := 115) (.ref (pa + 2)) ht114 (rd_of PN_0) fX5_22 dX5_init_115 rfl ?_
          refine r_aload_n (pc := 118) dX5_init_118 (i := 0) rfl rfl ?_
          refine t_getE (pc := 119) (.ref (pa + 1)) ht114 (rd_of PN_0) fX5_18 dX5_init_119 rfl ?_
          refine r_iload (pc := 122) dX5_init_122 rfl ?_
          refine t_ialdX (pc := 124) (t0 := 0) ht114 (rd_of PN_1) dX5_init_124 rfl (by omega) (by omega) (fun b12 => ?_)
          have rb12 := (show Rfx gn 0 15 vu114 by assumption) (Int.toNat v52_6) (by omega)
          have hnv : nuP vu114 (v52_6 + 1) v114_5 := by assumption
          have hnw := hnv (Int.toNat v52_6) (by omega)
          refine r_dup2_11 (pc := 125) dX5_init_125 rfl rfl ?_
          refine t_ialdR (pc := 126) (t0 := 0) ht114 (rd_of PN_2) dX5_init_126 rfl (by omega) (by omega) (fun y13 by13 => ?_)
          refine r_iconst (pc := 127) (v := iv 1) dX5_init_127 (by decide) ?_
          refine r_iload (pc := 128) dX5_init_128 rfl ?_
          obtain ⟨z14, hz14, bz14⟩ := shl_1 0 15 v52_6 (by omega) (by omega) (by decide)
          refine r_ishl (pc := 130) (v := iv z14) dX5_init_130 hz14 ?_
          obtain ⟨z15, hz15, bz15⟩ := or_2 16 y13 z14 (by omega) (by omega) (by decide)
          refine r_ior (pc := 131) (v := iv z15) dX5_init_131 hz15 ?_
          refine t_iastR (pc := 132) (t0 := 0) ht114 PN_2 dX5_init_132 rfl (by omega) (by omega) (by omega) (by omega) (fun hp16 ht17 => ?_)
          refine r_iinc (pc := 133) (v := iv (v52_6 + 1)) (lv' := [(6, .int (iv (v52_6 + 1))), (0, .ref pa), (1, .ref ga), (2, .int (iv x2)), (3, .null), (4, .ref (pa + 3)), (5, .int (iv v114_5))]) dX5_init_133 rfl (iv_add _ _) (by decide) rfl ?_
          refine r_goto (pc := 136) (tgt := 52) dX5_init_136 (by decide) ?_
          refine Rn.pick (lv' := [(0, .ref pa), (1, .ref ga), (2, .int (iv x2)), (3, .null), (4, .ref (pa + 3)), (5, .int (iv v114_5)), (6, .int (iv (v52_6 + 1)))]) [1, 2, 3, 4, 5, 6, 0] rfl ?_
          exact ih52 (Int.toNat (16 - (v52_6 + 1))) (by omega) vu114 _ ht17 v114_5 (v52_6 + 1) ⟨by omega, by omega, by omega, by omega, by assumption, by assumption, by omega, by omega, by omega⟩ (by omega)
        have B102 : ∀ hp102 : MH, Tw (PN Γ2 cI cJ cZ cT pa gn 0 vu52) hp102 → True → Rn (gG D cI cJ cZ cT lo b L xs) mX5_init d 102 [(0, .ref pa), (1, .ref ga), (2, .int (iv x2)), (3, .null), (4, .ref (pa + 3)), (5, .int (iv v52_5)), (6, .int (iv v52_6))] [] hp102 (pa + 1 + 2 + 1) ((3 - 1 - 1) - 1) (((gn + gn + gn) - gn - gn) - gn) (pPt Γ cI cJ cZ pa gn (pa + 1)) := by
          intro hp102 ht102 hf102
          refine r_aload_n (pc := 102) dX5_init_102 (i := 0) rfl rfl ?_
          refine t_getE (pc := 103) (.ref (pa + 1)) ht102 (rd_of PN_0) fX5_18 dX5_init_103 rfl ?_
          refine r_iload (pc := 106) dX5_init_106 rfl ?_
          refine r_iload (pc := 108) dX5_init_108 rfl ?_
          refine t_iastX (pc := 110) (t0 := 0) ht102 PN_1 dX5_init_110 rfl (by omega) (by omega) (by omega) (fun hp18 ht19 => ?_)
          have ht20 := RGw_vu ht19
          have hqht20 : Rfx gn 0 15 (fup vu52 (Int.toNat v52_6) v52_5) := Rfx_up (by assumption) (by omega)
          refine r_iinc (pc := 111) (v := iv (v52_5 + 1)) (lv' := [(5, .int (iv (v52_5 + 1))), (0, .ref pa), (1, .ref ga), (2, .int (iv x2)), (3, .null), (4, .ref (pa + 3)), (6, .int (iv v52_6))]) dX5_init_111 rfl (iv_add _ _) (by decide) rfl ?_
          refine Rn.pick (lv' := [(0, .ref pa), (1, .ref ga), (2, .int (iv x2)), (3, .null), (4, .ref (pa + 3)), (5, .int (iv (v52_5 + 1))), (6, .int (iv v52_6))]) [1, 2, 3, 4, 5, 0, 6] rfl ?_
          exact B114 (fup vu52 (Int.toNat v52_6) v52_5) _ ht20 (v52_5 + 1) ⟨by omega, by omega, by omega, by assumption, by (first | exact nu_a (by assumption) (by omega) | exact nu_b (by assumption) (by omega) (by omega)), by omega, by omega⟩
        refine t_icmp_ge (pc := 77) (tgt := 102) dX5_init_77 (by decide) (by omega) (by omega) (fun c77 => ?_) (fun c77 => ?_)
        · refine Rn.pick (lv' := [(0, .ref pa), (1, .ref ga), (2, .int (iv x2)), (3, .null), (4, .ref (pa + 3)), (5, .int (iv v52_5)), (6, .int (iv v52_6))]) [1, 2, 3, 4, 5, 6, 7] rfl ?_
          exact B102 _ ht10 trivial
        · refine r_iload (pc := 80) dX5_init_80 rfl ?_
          refine t_if_lt (pc := 82) (tgt := 102) dX5_init_82 (by decide) (by omega) (fun c82 => ?_) (fun c82 => ?_)
          · exfalso
            omega
          · refine r_aload_n (pc := 85) dX5_init_85 (i := 0) rfl rfl ?_
            refine t_getE (pc := 86) (.ref (pa + 1)) ht10 (rd_of PN_0) fX5_18 dX5_init_86 rfl ?_
            refine r_iload (pc := 89) dX5_init_89 rfl ?_
            refine r_aload_n (pc := 91) dX5_init_91 (i := 0) rfl rfl ?_
            refine t_getE (pc := 92) (.ref (pa + 1)) ht10 (rd_of PN_0) fX5_18 dX5_init_92 rfl ?_
            refine r_iload (pc := 95) dX5_init_95 rfl ?_
            refine t_ialdX (pc := 97) (t0 := 0) ht10 (rd_of PN_1) dX5_init_97 rfl (by omega) (by omega) (fun b21 => ?_)
            have rb21 := (show Rfx gn 0 15 vu52 by assumption) (Int.toNat y11) (by omega)
            refine t_iastX (pc := 98) (t0 := 0) ht10 PN_1 dX5_init_98 rfl (by omega) (by omega) (by omega) (fun hp22 ht23 => ?_)
            have ht24 := RGw_vu ht23
            have hqht24 : Rfx gn 0 15 (fup vu52 (Int.toNat v52_6) (vu52 (Int.toNat y11))) := Rfx_up (by assumption) (by omega)
            refine r_goto (pc := 99) (tgt := 114) dX5_init_99 (by decide) ?_
            refine Rn.pick (lv' := [(0, .ref pa), (1, .ref ga), (2, .int (iv x2)), (3, .null), (4, .ref (pa + 3)), (5, .int (iv v52_5)), (6, .int (iv v52_6))]) [1, 2, 3, 4, 5, 6, 7] rfl ?_
            exact B114 (fup vu52 (Int.toNat v52_6) (vu52 (Int.toNat y11))) _ ht24 v52_5 ⟨by omega, by omega, by omega, by assumption, by (first | exact nu_a (by assumption) (by omega) | exact nu_b (by assumption) (by omega) (by omega)), by omega, by omega⟩
    refine Rn.pick (lv' := [(0, .ref pa), (1, .ref ga), (2, .int (iv x2)), (3, .null), (4, .ref (pa + 3)), (5, .int (iv 0)), (6, .int (iv 0))]) [3, 4, 5, 6, 2, 1, 0] rfl ?_
    exact B52 (Int.toNat (16 - 0)) (fun _ => 0) _ ht5 0 0 ⟨by omega, by omega, by omega, by omega, by assumption, by assumption, by omega, by omega, by omega⟩ (by omega)
set_option maxHeartbeats 4000000 in
set_option maxRecDepth 100000 in
theorem t_X5_init_3 {D : va_G} {cI cJ cZ cT : ClassId} {lo b L : Nat} {xs : Nat → Int32} {hp : MH} {d : Nat} {Γ : TG} {ga : Nat} {gF : Nat} {gT : Nat} {gW : Nat} {gC : Nat} {gTl : Nat} {gHd : Nat} {gBy : Nat} {gOu : Nat} {gIn : Nat} {gJo : Nat} {gn : Nat} {gm : Nat} {gq : Nat} {gdr : Int}  {pa : Nat} {x2 : Int} (hd0 : 3 ≤ d) (hg : TyG Γ cI cJ cZ ga gF gT gW gC gTl gHd gBy gOu gIn gJo gn gm gq gdr) (h0 : hp pa = some (.inr (5, [.int 0, .int 0, .null, .null]))) (hlo : ∀ (q : Nat) (T : va_E → Prop), Γ q = some T → q < pa) (ht : Tw Γ hp) (hx2 : 3 ≤ x2 ∧ x2 ≤ 3) : Mt (gG D cI cJ cZ cT lo b L xs) mX5_init d 3 (gn + gn + gn) [.ref pa, .ref ga, .int (iv x2), .null] hp (pa + 1) (pPt Γ cI cJ cZ pa gn (pa + 1)) := by
  refine Mt.of rfl (Nat.le_of_ble_eq_true rfl) ?_
  refine Rn.pick (lv' := [(0, .ref pa), (1, .ref ga), (2, .int (iv x2)), (3, .null)]) [0, 1, 2, 3] rfl ?_
  obtain ⟨hg_O, hg_from, hg_to, hg_weight, hg_cost, hg_tail, hg_head, hg_by, hg_out, hg_in, hg_joined, hg_b⟩ := id hg
  have hltg : ga < pa ∧ gF < pa ∧ gT < pa ∧ gW < pa ∧ gC < pa ∧ gTl < pa ∧ gHd < pa ∧ gBy < pa ∧ gOu < pa ∧ gIn < pa ∧ gJo < pa := ⟨rd_lo hlo hg_O, rd_lo hlo hg_from, rd_lo hlo hg_to, rd_lo hlo hg_weight, rd_lo hlo hg_cost, rd_lo hlo hg_tail, rd_lo hlo hg_head, rd_lo hlo hg_by, rd_lo hlo hg_out, rd_lo hlo hg_in, rd_lo hlo hg_joined⟩
  have hu0 : Rfx gn 0 15 (fun _ => 0) := fun _ _ => ⟨(by show (0 : Int) ≤ 0; decide), (by show (0 : Int) ≤ 15; decide)⟩
  have hu1 : nuP (fun _ => 0) 0 0 := nu_0 _ _
  refine p_X5 (by omega) ht hg_O rfl h0 rfl (by omega) hlo (by omega) (by omega) (fun hp1 ht1 => ?_)
  refine r_iload_n (pc := 28) dX5_init_28 (i := 2) rfl rfl ?_
  refine r_iconst (pc := 29) (v := iv 2) dX5_init_29 (by decide) ?_
  refine t_icmp_ne (pc := 30) (tgt := 40) dX5_init_30 (by decide) (by omega) (by omega) (fun c30 => ?_) (fun c30 => ?_)
  · refine r_aload_n (pc := 40) dX5_init_40 (i := 1) rfl rfl ?_
    refine t_getE (pc := 41) (.ref gJo) ht1 (rd_PN (by omega) hg_O) fX5_31 dX5_init_41 rfl ?_
    refine r_astore (pc := 44) (lv' := [(4, .ref gJo), (0, .ref pa), (1, .ref ga), (2, .int (iv x2)), (3, .null)]) dX5_init_44 (by decide) rfl ?_
    refine r_iconst (pc := 46) (v := iv 0) dX5_init_46 (by decide) ?_
    refine r_istore (pc := 47) (lv' := [(5, .int (iv 0)), (4, .ref gJo), (0, .ref pa), (1, .ref ga), (2, .int (iv x2)), (3, .null)]) dX5_init_47 (by decide) rfl ?_
    refine r_iconst (pc := 49) (v := iv 0) dX5_init_49 (by decide) ?_
    refine r_istore (pc := 50) (lv' := [(6, .int (iv 0)), (5, .int (iv 0)), (4, .ref gJo), (0, .ref pa), (1, .ref ga), (2, .int (iv x2)), (3, .null)]) dX5_init_50 (by decide) rfl ?_
    have B52 : ∀ k : Nat, ∀ vu52 : Nat → Int, ∀ hp52 : MH, Tw (PN Γ cI cJ cZ cT pa gn 0 vu52) hp52 → ∀  (v52_5 : Int) (v52_6 : Int), 0 ≤ v52_5 ∧ v52_5 ≤ 16 ∧ 0 ≤ v52_6 ∧ v52_6 ≤ 16 ∧ Rfx gn 0 15 vu52 ∧ nuP vu52 v52_6 v52_5 ∧ v52_5 ≤ v52_6 ∧ (1 ≤ v52_6 → 1 ≤ v52_5) ∧ v52_6 ≤ (gn : Int) → 16 - v52_6 ≤ (k : Int) → Rn (gG D cI cJ cZ cT lo b L xs) mX5_init d 52 [(0, .ref pa), (1, .ref ga), (2, .int (iv x2)), (3, .null), (4, .ref gJo), (5, .int (iv v52_5)), (6, .int (iv v52_6))] [] hp52 (pa + 1 + 2) (3 - 1 - 1) ((gn + gn + gn) - gn - gn) (pPt Γ cI cJ cZ pa gn (pa + 1)) := by
      refine lpS _ ?_
      intro k52 ih52 vu52 hp52 ht52 v52_5 v52_6 hf52 hm52
      obtain ⟨hf52_0, hf52_1, hf52_2, hf52_3, ha52_4, ha52_5, hf52_6, hf52_7, hf52_8⟩ := hf52
      refine r_iload (pc := 52) dX5_init_52 rfl ?_
      refine r_aload_n (pc := 54) dX5_init_54 (i := 0) rfl rfl ?_
      refine t_getE (pc := 55) (.int (iv (gn : Int))) ht52 (rd_of PN_0) fX5_15 dX5_init_55 rfl ?_
      refine t_icmp_ge (pc := 58) (tgt := 139) dX5_init_58 (by decide) (by omega) (by omega) (fun c58 => ?_) (fun c58 => ?_)
      · refine r_aload_n (pc := 139) dX5_init_139 (i := 0) rfl rfl ?_
        refine r_iload (pc := 140) dX5_init_140 rfl ?_
        refine t_putX (pc := 142) (ty := .int) ht52 PN_0 fX5_38 tyX5 tyX5_ok nmX5 (by decide +kernel) (Or.inr ⟨rfl, rfl, rfl⟩) dX5_init_142 (Nat.le_of_ble_eq_true rfl) rfl rfl rfl (fun hp1 ht2 => ?_)
        have ht3 := RGw_vz ht2
        exact r_vret (pc := 145) dX5_init_145 rfl ⟨by omega, rfl, _, _, PN_ext hlo (Ext_refl Γ), ht3, PN_ty (by omega) (by omega) (by have e9 : v52_6 = (gn : Int) := (by omega); rw [← e9]; assumption)⟩
      · refine r_aload_n (pc := 61) dX5_init_61 (i := 1) rfl rfl ?_
        refine r_iload_n (pc := 62) dX5_init_62 (i := 2) rfl rfl ?_
        refine r_aload (pc := 63) dX5_init_63 rfl ?_
        refine r_aload_nN (pc := 65) dX5_init_65 (i := 3) rfl rfl ?_
        refine r_iload (pc := 66) dX5_init_66 rfl ?_
        refine t_callSR (pc := 68) (as := [.ref ga, .int (iv x2), .ref gJo, .null, .int (iv v52_6)]) (st := []) kX5_34 dX5_init_68 (t_X5_first_n (d := d - 1) (x1 := x2) (rA := gJo) (rL := gn) (x4 := v52_6) (by omega) (TyG.pn hltg hg) (rd_PN (by omega) hg_joined) (by omega) ht52 (by omega) (by omega) (by omega)) rfl (by omega) (Nat.le_of_ble_eq_true rfl) rfl (fun hp4 y6 ht5 by6 => ?_)
        refine r_istore (pc := 71) (lv' := [(7, .int (iv y6)), (0, .ref pa), (1, .ref ga), (2, .int (iv x2)), (3, .null), (4, .ref gJo), (5, .int (iv v52_5)), (6, .int (iv v52_6))]) dX5_init_71 (by decide) rfl ?_
        refine r_iload (pc := 73) dX5_init_73 rfl ?_
        refine r_iload (pc := 75) dX5_init_75 rfl ?_
        have B114 : ∀ vu114 : Nat → Int, ∀ hp114 : MH, Tw (PN Γ cI cJ cZ cT pa gn 0 vu114) hp114 → ∀  (v114_5 : Int), 0 ≤ v114_5 ∧ v114_5 ≤ 17 ∧ v52_5 ≤ v114_5 ∧ Rfx gn 0 15 vu114 ∧ nuP vu114 (v52_6 + 1) v114_5 ∧ v114_5 ≤ v52_6 + 1 ∧ 1 ≤ v114_5 → Rn (gG D cI cJ cZ cT lo b L xs) mX5_init d 114 [(0, .ref pa), (1, .ref ga), (2, .int (iv x2)), (3, .null), (4, .ref gJo), (5, .int (iv v114_5)), (6, .int (iv v52_6))] [] hp114 (pa + 1 + 2) (3 - 1 - 1) ((gn + gn + gn) - gn - gn) (pPt Γ cI cJ cZ pa gn (pa + 1)) := by
          intro vu114 hp114 ht114 v114_5 hf114
          obtain ⟨hf114_0, hf114_1, hf114_2, ha114_3, ha114_4, hf114_5, hf114_6⟩ := hf114
          refine r_aload_n (pc := 114) dX5_init_114 (i := 0) rfl rfl ?_
          refine t_getE (pc := 115) (.ref (pa + 2)) ht114 (rd_of PN_0) fX5_22 dX5_init_115 rfl ?_
          refine r_aload_n (pc := 118) dX5_init_118 (i := 0) rfl rfl ?_
          refine t_getE (pc := 119) (.ref (pa + 1)) ht114 (rd_of PN_0) fX5_18 dX5_init_119 rfl ?_
          refine r_iload (pc := 122) dX5_init_122 rfl ?_
          refine t_ialdX (pc := 124) (t0 := 0) ht114 (rd_of PN_1) dX5_init_124 rfl (by omega) (by omega) (fun b7 => ?_)
          have rb7 := (show Rfx gn 0 15 vu114 by assumption) (Int.toNat v52_6) (by omega)
          have hnv : nuP vu114 (v52_6 + 1) v114_5 := by assumption
          have hnw := hnv (Int.toNat v52_6) (by omega)
          refine r_dup2_11 (pc := 125) dX5_init_125 rfl rfl ?_
          refine t_ialdR (pc := 126) (t0 := 0) ht114 (rd_of PN_2) dX5_init_126 rfl (by omega) (by omega) (fun y8 by8 => ?_)
          refine r_iconst (pc := 127) (v := iv 1) dX5_init_127 (by decide) ?_
          refine r_iload (pc := 128) dX5_init_128 rfl ?_
          obtain ⟨z9, hz9, bz9⟩ := shl_1 0 15 v52_6 (by omega) (by omega) (by decide)
          refine r_ishl (pc := 130) (v := iv z9) dX5_init_130 hz9 ?_
          obtain ⟨z10, hz10, bz10⟩ := or_2 16 y8 z9 (by omega) (by omega) (by decide)
          refine r_ior (pc := 131) (v := iv z10) dX5_init_131 hz10 ?_
          refine t_iastR (pc := 132) (t0 := 0) ht114 PN_2 dX5_init_132 rfl (by omega) (by omega) (by omega) (by omega) (fun hp11 ht12 => ?_)
          refine r_iinc (pc := 133) (v := iv (v52_6 + 1)) (lv' := [(6, .int (iv (v52_6 + 1))), (0, .ref pa), (1, .ref ga), (2, .int (iv x2)), (3, .null), (4, .ref gJo), (5, .int (iv v114_5))]) dX5_init_133 rfl (iv_add _ _) (by decide) rfl ?_
          refine r_goto (pc := 136) (tgt := 52) dX5_init_136 (by decide) ?_
          refine Rn.pick (lv' := [(0, .ref pa), (1, .ref ga), (2, .int (iv x2)), (3, .null), (4, .ref gJo), (5, .int (iv v114_5)), (6, .int (iv (v52_6 + 1)))]) [1, 2, 3, 4, 5, 6, 0] rfl ?_
          exact ih52 (Int.toNat (16 - (v52_6 + 1))) (by omega) vu114 _ ht12 v114_5 (v52_6 + 1) ⟨by omega, by omega, by omega, by omega, by assumption, by assumption, by omega, by omega, by omega⟩ (by omega)
        have B102 : ∀ hp102 : MH, Tw (PN Γ cI cJ cZ cT pa gn 0 vu52) hp102 → True → Rn (gG D cI cJ cZ cT lo b L xs) mX5_init d 102 [(0, .ref pa), (1, .ref ga), (2, .int (iv x2)), (3, .null), (4, .ref gJo), (5, .int (iv v52_5)), (6, .int (iv v52_6))] [] hp102 (pa + 1 + 2) (3 - 1 - 1) ((gn + gn + gn) - gn - gn) (pPt Γ cI cJ cZ pa gn (pa + 1)) := by
          intro hp102 ht102 hf102
          refine r_aload_n (pc := 102) dX5_init_102 (i := 0) rfl rfl ?_
          refine t_getE (pc := 103) (.ref (pa + 1)) ht102 (rd_of PN_0) fX5_18 dX5_init_103 rfl ?_
          refine r_iload (pc := 106) dX5_init_106 rfl ?_
          refine r_iload (pc := 108) dX5_init_108 rfl ?_
          refine t_iastX (pc := 110) (t0 := 0) ht102 PN_1 dX5_init_110 rfl (by omega) (by omega) (by omega) (fun hp13 ht14 => ?_)
          have ht15 := RGw_vu ht14
          have hqht15 : Rfx gn 0 15 (fup vu52 (Int.toNat v52_6) v52_5) := Rfx_up (by assumption) (by omega)
          refine r_iinc (pc := 111) (v := iv (v52_5 + 1)) (lv' := [(5, .int (iv (v52_5 + 1))), (0, .ref pa), (1, .ref ga), (2, .int (iv x2)), (3, .null), (4, .ref gJo), (6, .int (iv v52_6))]) dX5_init_111 rfl (iv_add _ _) (by decide) rfl ?_
          refine Rn.pick (lv' := [(0, .ref pa), (1, .ref ga), (2, .int (iv x2)), (3, .null), (4, .ref gJo), (5, .int (iv (v52_5 + 1))), (6, .int (iv v52_6))]) [1, 2, 3, 4, 5, 0, 6] rfl ?_
          exact B114 (fup vu52 (Int.toNat v52_6) v52_5) _ ht15 (v52_5 + 1) ⟨by omega, by omega, by omega, by assumption, by (first | exact nu_a (by assumption) (by omega) | exact nu_b (by assumption) (by omega) (by omega)), by omega, by omega⟩
        refine t_icmp_ge (pc := 77) (tgt := 102) dX5_init_77 (by decide) (by omega) (by omega) (fun c77 => ?_) (fun c77 => ?_)
        · refine Rn.pick (lv' := [(0, .ref pa), (1, .ref ga), (2, .int (iv x2)), (3, .null), (4, .ref gJo), (5, .int (iv v52_5)), (6, .int (iv v52_6))]) [1, 2, 3, 4, 5, 6, 7] rfl ?_
          exact B102 _ ht5 trivial
        · refine r_iload (pc := 80) dX5_init_80 rfl ?_
          refine t_if_lt (pc := 82) (tgt := 102) dX5_init_82 (by decide) (by omega) (fun c82 => ?_) (fun c82 => ?_)
          · exfalso
            omega
          · refine r_aload_n (pc := 85) dX5_init_85 (i := 0) rfl rfl ?_
            refine t_getE (pc := 86) (.ref (pa + 1)) ht5 (rd_of PN_0) fX5_18 dX5_init_86 rfl ?_
            refine r_iload (pc := 89) dX5_init_89 rfl ?_
            refine r_aload_n (pc := 91) dX5_init_91 (i := 0) rfl rfl ?_
            refine t_getE (pc := 92) (.ref (pa + 1)) ht5 (rd_of PN_0) fX5_18 dX5_init_92 rfl ?_
            refine r_iload (pc := 95) dX5_init_95 rfl ?_
            refine t_ialdX (pc := 97) (t0 := 0) ht5 (rd_of PN_1) dX5_init_97 rfl (by omega) (by omega) (fun b16 => ?_)
            have rb16 := (show Rfx gn 0 15 vu52 by assumption) (Int.toNat y6) (by omega)
            refine t_iastX (pc := 98) (t0 := 0) ht5 PN_1 dX5_init_98 rfl (by omega) (by omega) (by omega) (fun hp17 ht18 => ?_)
            have ht19 := RGw_vu ht18
            have hqht19 : Rfx gn 0 15 (fup vu52 (Int.toNat v52_6) (vu52 (Int.toNat y6))) := Rfx_up (by assumption) (by omega)
            refine r_goto (pc := 99) (tgt := 114) dX5_init_99 (by decide) ?_
            refine Rn.pick (lv' := [(0, .ref pa), (1, .ref ga), (2, .int (iv x2)), (3, .null), (4, .ref gJo), (5, .int (iv v52_5)), (6, .int (iv v52_6))]) [1, 2, 3, 4, 5, 6, 7] rfl ?_
            exact B114 (fup vu52 (Int.toNat v52_6) (vu52 (Int.toNat y6))) _ ht19 v52_5 ⟨by omega, by omega, by omega, by assumption, by (first | exact nu_a (by assumption) (by omega) | exact nu_b (by assumption) (by omega) (by omega)), by omega, by omega⟩
    refine Rn.pick (lv' := [(0, .ref pa), (1, .ref ga), (2, .int (iv x2)), (3, .null), (4, .ref gJo), (5, .int (iv 0)), (6, .int (iv 0))]) [3, 4, 5, 6, 2, 1, 0] rfl ?_
    exact B52 (Int.toNat (16 - 0)) (fun _ => 0) _ ht1 0 0 ⟨by omega, by omega, by omega, by omega, by assumption, by assumption, by omega, by omega, by omega⟩ (by omega)
  · exfalso
    omega
set_option maxHeartbeats 4000000 in
set_option maxRecDepth 100000 in
theorem t_X5_init_4 {D : va_G} {cI cJ cZ cT : ClassId} {lo b L : Nat} {xs : Nat → Int32} {hp : MH} {d : Nat} {Γ : TG} {ga : Nat} {gF : Nat} {gT : Nat} {gW : Nat} {gC : Nat} {gTl : Nat} {gHd : Nat} {gBy : Nat} {gOu : Nat} {gIn : Nat} {gJo : Nat} {gn : Nat} {gm : Nat} {gq : Nat} {gdr : Int} {ca : Nat} {cM : Nat} {cn : Nat} {pa : Nat} {x2 : Int} (hd0 : 2 ≤ d) (hg : TyG Γ cI cJ cZ ga gF gT gW gC gTl gHd gBy gOu gIn gJo gn gm gq gdr) (h0 : hp pa = some (.inr (5, [.int 0, .int 0, .null, .null]))) (hlo : ∀ (q : Nat) (T : va_E → Prop), Γ q = some T → q < pa) (ht : Tw Γ hp) (hx2 : 4 ≤ x2 ∧ x2 ≤ 4) (hc : TyC Γ cI cJ cZ ca cM cn) : Mt (gG D cI cJ cZ cT lo b L xs) mX5_init d 3 (gn + gn + gn) [.ref pa, .ref ga, .int (iv x2), .ref ca] hp (pa + 1) (pPt Γ cI cJ cZ pa gn (pa + 1)) := by
  refine Mt.of rfl (Nat.le_of_ble_eq_true rfl) ?_
  refine Rn.pick (lv' := [(0, .ref pa), (1, .ref ga), (2, .int (iv x2)), (3, .ref ca)]) [0, 1, 2, 3] rfl ?_
  obtain ⟨hg_O, hg_from, hg_to, hg_weight, hg_cost, hg_tail, hg_head, hg_by, hg_out, hg_in, hg_joined, hg_b⟩ := id hg
  have hltg : ga < pa ∧ gF < pa ∧ gT < pa ∧ gW < pa ∧ gC < pa ∧ gTl < pa ∧ gHd < pa ∧ gBy < pa ∧ gOu < pa ∧ gIn < pa ∧ gJo < pa := ⟨rd_lo hlo hg_O, rd_lo hlo hg_from, rd_lo hlo hg_to, rd_lo hlo hg_weight, rd_lo hlo hg_cost, rd_lo hlo hg_tail, rd_lo hlo hg_head, rd_lo hlo hg_by, rd_lo hlo hg_out, rd_lo hlo hg_in, rd_lo hlo hg_joined⟩
  obtain ⟨hc_O, hc_numbers, hc_b⟩ := id hc
  have hltc : ca < pa ∧ cM < pa := ⟨rd_lo hlo hc_O, rd_lo hlo hc_numbers⟩
  have hu0 : Rfx gn 0 15 (fun _ => 0) := fun _ _ => ⟨(by show (0 : Int) ≤ 0; decide), (by show (0 : Int) ≤ 15; decide)⟩
  have hu1 : nuP (fun _ => 0) 0 0 := nu_0 _ _
  refine p_X5 (by omega) ht hg_O rfl h0 rfl (by omega) hlo (by omega) (by omega) (fun hp1 ht1 => ?_)
  refine r_iload_n (pc := 28) dX5_init_28 (i := 2) rfl rfl ?_
  refine r_iconst (pc := 29) (v := iv 2) dX5_init_29 (by decide) ?_
  refine t_icmp_ne (pc := 30) (tgt := 40) dX5_init_30 (by decide) (by omega) (by omega) (fun c30 => ?_) (fun c30 => ?_)
  · refine r_aload_n (pc := 40) dX5_init_40 (i := 1) rfl rfl ?_
    refine t_getE (pc := 41) (.ref gJo) ht1 (rd_PN (by omega) hg_O) fX5_31 dX5_init_41 rfl ?_
    refine r_astore (pc := 44) (lv' := [(4, .ref gJo), (0, .ref pa), (1, .ref ga), (2, .int (iv x2)), (3, .ref ca)]) dX5_init_44 (by decide) rfl ?_
    refine r_iconst (pc := 46) (v := iv 0) dX5_init_46 (by decide) ?_
    refine r_istore (pc := 47) (lv' := [(5, .int (iv 0)), (4, .ref gJo), (0, .ref pa), (1, .ref ga), (2, .int (iv x2)), (3, .ref ca)]) dX5_init_47 (by decide) rfl ?_
    refine r_iconst (pc := 49) (v := iv 0) dX5_init_49 (by decide) ?_
    refine r_istore (pc := 50) (lv' := [(6, .int (iv 0)), (5, .int (iv 0)), (4, .ref gJo), (0, .ref pa), (1, .ref ga), (2, .int (iv x2)), (3, .ref ca)]) dX5_init_50 (by decide) rfl ?_
    have B52 : ∀ k : Nat, ∀ vu52 : Nat → Int, ∀ hp52 : MH, Tw (PN Γ cI cJ cZ cT pa gn 0 vu52) hp52 → ∀  (v52_5 : Int) (v52_6 : Int), 0 ≤ v52_5 ∧ v52_5 ≤ 16 ∧ 0 ≤ v52_6 ∧ v52_6 ≤ 16 ∧ Rfx gn 0 15 vu52 ∧ nuP vu52 v52_6 v52_5 ∧ v52_5 ≤ v52_6 ∧ (1 ≤ v52_6 → 1 ≤ v52_5) ∧ v52_6 ≤ (gn : Int) → 16 - v52_6 ≤ (k : Int) → Rn (gG D cI cJ cZ cT lo b L xs) mX5_init d 52 [(0, .ref pa), (1, .ref ga), (2, .int (iv x2)), (3, .ref ca), (4, .ref gJo), (5, .int (iv v52_5)), (6, .int (iv v52_6))] [] hp52 (pa + 1 + 2) (3 - 1 - 1) ((gn + gn + gn) - gn - gn) (pPt Γ cI cJ cZ pa gn (pa + 1)) := by
      refine lpS _ ?_
      intro k52 ih52 vu52 hp52 ht52 v52_5 v52_6 hf52 hm52
      obtain ⟨hf52_0, hf52_1, hf52_2, hf52_3, ha52_4, ha52_5, hf52_6, hf52_7, hf52_8⟩ := hf52
      refine r_iload (pc := 52) dX5_init_52 rfl ?_
      refine r_aload_n (pc := 54) dX5_init_54 (i := 0) rfl rfl ?_
      refine t_getE (pc := 55) (.int (iv (gn : Int))) ht52 (rd_of PN_0) fX5_15 dX5_init_55 rfl ?_
      refine t_icmp_ge (pc := 58) (tgt := 139) dX5_init_58 (by decide) (by omega) (by omega) (fun c58 => ?_) (fun c58 => ?_)
      · refine r_aload_n (pc := 139) dX5_init_139 (i := 0) rfl rfl ?_
        refine r_iload (pc := 140) dX5_init_140 rfl ?_
        refine t_putX (pc := 142) (ty := .int) ht52 PN_0 fX5_38 tyX5 tyX5_ok nmX5 (by decide +kernel) (Or.inr ⟨rfl, rfl, rfl⟩) dX5_init_142 (Nat.le_of_ble_eq_true rfl) rfl rfl rfl (fun hp1 ht2 => ?_)
        have ht3 := RGw_vz ht2
        exact r_vret (pc := 145) dX5_init_145 rfl ⟨by omega, rfl, _, _, PN_ext hlo (Ext_refl Γ), ht3, PN_ty (by omega) (by omega) (by have e9 : v52_6 = (gn : Int) := (by omega); rw [← e9]; assumption)⟩
      · refine r_aload_n (pc := 61) dX5_init_61 (i := 1) rfl rfl ?_
        refine r_iload_n (pc := 62) dX5_init_62 (i := 2) rfl rfl ?_
        refine r_aload (pc := 63) dX5_init_63 rfl ?_
        refine r_aload_n (pc := 65) dX5_init_65 (i := 3) rfl rfl ?_
        refine r_iload (pc := 66) dX5_init_66 rfl ?_
        refine t_callSR (pc := 68) (as := [.ref ga, .int (iv x2), .ref gJo, .ref ca, .int (iv v52_6)]) (st := []) kX5_34 dX5_init_68 (t_X5_first_c (d := d - 1) (x1 := x2) (rA := gJo) (rL := gn) (x4 := v52_6) (by omega) (TyG.pn hltg hg) (TyC.pn hltc hc) (rd_PN (by omega) hg_joined) (by omega) ht52 (by omega) (by omega) (by omega)) rfl (by omega) (Nat.le_of_ble_eq_true rfl) rfl (fun hp4 y6 ht5 by6 => ?_)
        refine r_istore (pc := 71) (lv' := [(7, .int (iv y6)), (0, .ref pa), (1, .ref ga), (2, .int (iv x2)), (3, .ref ca), (4, .ref gJo), (5, .int (iv v52_5)), (6, .int (iv v52_6))]) dX5_init_71 (by decide) rfl ?_
        refine r_iload (pc := 73) dX5_init_73 rfl ?_
        refine r_iload (pc := 75) dX5_init_75 rfl ?_
        have B114 : ∀ vu114 : Nat → Int, ∀ hp114 : MH, Tw (PN Γ cI cJ cZ cT pa gn 0 vu114) hp114 → ∀  (v114_5 : Int), 0 ≤ v114_5 ∧ v114_5 ≤ 17 ∧ v52_5 ≤ v114_5 ∧ Rfx gn 0 15 vu114 ∧ nuP vu114 (v52_6 + 1) v114_5 ∧ v114_5 ≤ v52_6 + 1 ∧ 1 ≤ v114_5 → Rn (gG D cI cJ cZ cT lo b L xs) mX5_init d 114 [(0, .ref pa), (1, .ref ga), (2, .int (iv x2)), (3, .ref ca), (4, .ref gJo), (5, .int (iv v114_5)), (6, .int (iv v52_6))] [] hp114 (pa + 1 + 2) (3 - 1 - 1) ((gn + gn + gn) - gn - gn) (pPt Γ cI cJ cZ pa gn (pa + 1)) := by
          intro vu114 hp114 ht114 v114_5 hf114
          obtain ⟨hf114_0, hf114_1, hf114_2, ha114_3, ha114_4, hf114_5, hf114_6⟩ := hf114
          refine r_aload_n (pc := 114) dX5_init_114 (i := 0) rfl rfl ?_
          refine t_getE (pc := 115) (.ref (pa + 2)) ht114 (rd_of PN_0) fX5_22 dX5_init_115 rfl ?_
          refine r_aload_n (pc := 118) dX5_init_118 (i := 0) rfl rfl ?_
          refine t_getE (pc := 119) (.ref (pa + 1)) ht114 (rd_of PN_0) fX5_18 dX5_init_119 rfl ?_
          refine r_iload (pc := 122) dX5_init_122 rfl ?_
          refine t_ialdX (pc := 124) (t0 := 0) ht114 (rd_of PN_1) dX5_init_124 rfl (by omega) (by omega) (fun b7 => ?_)
          have rb7 := (show Rfx gn 0 15 vu114 by assumption) (Int.toNat v52_6) (by omega)
          have hnv : nuP vu114 (v52_6 + 1) v114_5 := by assumption
          have hnw := hnv (Int.toNat v52_6) (by omega)
          refine r_dup2_11 (pc := 125) dX5_init_125 rfl rfl ?_
          refine t_ialdR (pc := 126) (t0 := 0) ht114 (rd_of PN_2) dX5_init_126 rfl (by omega) (by omega) (fun y8 by8 => ?_)
          refine r_iconst (pc := 127) (v := iv 1) dX5_init_127 (by decide) ?_
          refine r_iload (pc := 128) dX5_init_128 rfl ?_
          obtain ⟨z9, hz9, bz9⟩ := shl_1 0 15 v52_6 (by omega) (by omega) (by decide)
          refine r_ishl (pc := 130) (v := iv z9) dX5_init_130 hz9 ?_
          obtain ⟨z10, hz10, bz10⟩ := or_2 16 y8 z9 (by omega) (by omega) (by decide)
          refine r_ior (pc := 131) (v := iv z10) dX5_init_131 hz10 ?_
          refine t_iastR (pc := 132) (t0 := 0) ht114 PN_2 dX5_init_132 rfl (by omega) (by omega) (by omega) (by omega) (fun hp11 ht12 => ?_)
          refine r_iinc (pc := 133) (v := iv (v52_6 + 1)) (lv' := [(6, .int (iv (v52_6 + 1))), (0, .ref pa), (1, .ref ga), (2, .int (iv x2)), (3, .ref ca), (4, .ref gJo), (5, .int (iv v114_5))]) dX5_init_133 rfl (iv_add _ _) (by decide) rfl ?_
          refine r_goto (pc := 136) (tgt := 52) dX5_init_136 (by decide) ?_
          refine Rn.pick (lv' := [(0, .ref pa), (1, .ref ga), (2, .int (iv x2)), (3, .ref ca), (4, .ref gJo), (5, .int (iv v114_5)), (6, .int (iv (v52_6 + 1)))]) [1, 2, 3, 4, 5, 6, 0] rfl ?_
          exact ih52 (Int.toNat (16 - (v52_6 + 1))) (by omega) vu114 _ ht12 v114_5 (v52_6 + 1) ⟨by omega, by omega, by omega, by omega, by assumption, by assumption, by omega, by omega, by omega⟩ (by omega)
        have B102 : ∀ hp102 : MH, Tw (PN Γ cI cJ cZ cT pa gn 0 vu52) hp102 → True → Rn (gG D cI cJ cZ cT lo b L xs) mX5_init d 102 [(0, .ref pa), (1, .ref ga), (2, .int (iv x2)), (3, .ref ca), (4, .ref gJo), (5, .int (iv v52_5)), (6, .int (iv v52_6))] [] hp102 (pa + 1 + 2) (3 - 1 - 1) ((gn + gn + gn) - gn - gn) (pPt Γ cI cJ cZ pa gn (pa + 1)) := by
          intro hp102 ht102 hf102
          refine r_aload_n (pc := 102) dX5_init_102 (i := 0) rfl rfl ?_
          refine t_getE (pc := 103) (.ref (pa + 1)) ht102 (rd_of PN_0) fX5_18 dX5_init_103 rfl ?_
          refine r_iload (pc := 106) dX5_init_106 rfl ?_
          refine r_iload (pc := 108) dX5_init_108 rfl ?_
          refine t_iastX (pc := 110) (t0 := 0) ht102 PN_1 dX5_init_110 rfl (by omega) (by omega) (by omega) (fun hp13 ht14 => ?_)
          have ht15 := RGw_vu ht14
          have hqht15 : Rfx gn 0 15 (fup vu52 (Int.toNat v52_6) v52_5) := Rfx_up (by assumption) (by omega)
          refine r_iinc (pc := 111) (v := iv (v52_5 + 1)) (lv' := [(5, .int (iv (v52_5 + 1))), (0, .ref pa), (1, .ref ga), (2, .int (iv x2)), (3, .ref ca), (4, .ref gJo), (6, .int (iv v52_6))]) dX5_init_111 rfl (iv_add _ _) (by decide) rfl ?_
          refine Rn.pick (lv' := [(0, .ref pa), (1, .ref ga), (2, .int (iv x2)), (3, .ref ca), (4, .ref gJo), (5, .int (iv (v52_5 + 1))), (6, .int (iv v52_6))]) [1, 2, 3, 4, 5, 0, 6] rfl ?_
          exact B114 (fup vu52 (Int.toNat v52_6) v52_5) _ ht15 (v52_5 + 1) ⟨by omega, by omega, by omega, by assumption, by (first | exact nu_a (by assumption) (by omega) | exact nu_b (by assumption) (by omega) (by omega)), by omega, by omega⟩
        refine t_icmp_ge (pc := 77) (tgt := 102) dX5_init_77 (by decide) (by omega) (by omega) (fun c77 => ?_) (fun c77 => ?_)
        · refine Rn.pick (lv' := [(0, .ref pa), (1, .ref ga), (2, .int (iv x2)), (3, .ref ca), (4, .ref gJo), (5, .int (iv v52_5)), (6, .int (iv v52_6))]) [1, 2, 3, 4, 5, 6, 7] rfl ?_
          exact B102 _ ht5 trivial
        · refine r_iload (pc := 80) dX5_init_80 rfl ?_
          refine t_if_lt (pc := 82) (tgt := 102) dX5_init_82 (by decide) (by omega) (fun c82 => ?_) (fun c82 => ?_)
          · exfalso
            omega
          · refine r_aload_n (pc := 85) dX5_init_85 (i := 0) rfl rfl ?_
            refine t_getE (pc := 86) (.ref (pa + 1)) ht5 (rd_of PN_0) fX5_18 dX5_init_86 rfl ?_
            refine r_iload (pc := 89) dX5_init_89 rfl ?_
            refine r_aload_n (pc := 91) dX5_init_91 (i := 0) rfl rfl ?_
            refine t_getE (pc := 92) (.ref (pa + 1)) ht5 (rd_of PN_0) fX5_18 dX5_init_92 rfl ?_
            refine r_iload (pc := 95) dX5_init_95 rfl ?_
            refine t_ialdX (pc := 97) (t0 := 0) ht5 (rd_of PN_1) dX5_init_97 rfl (by omega) (by omega) (fun b16 => ?_)
            have rb16 := (show Rfx gn 0 15 vu52 by assumption) (Int.toNat y6) (by omega)
            refine t_iastX (pc := 98) (t0 := 0) ht5 PN_1 dX5_init_98 rfl (by omega) (by omega) (by omega) (fun hp17 ht18 => ?_)
            have ht19 := RGw_vu ht18
            have hqht19 : Rfx gn 0 15 (fup vu52 (Int.toNat v52_6) (vu52 (Int.toNat y6))) := Rfx_up (by assumption) (by omega)
            refine r_goto (pc := 99) (tgt := 114) dX5_init_99 (by decide) ?_
            refine Rn.pick (lv' := [(0, .ref pa), (1, .ref ga), (2, .int (iv x2)), (3, .ref ca), (4, .ref gJo), (5, .int (iv v52_5)), (6, .int (iv v52_6))]) [1, 2, 3, 4, 5, 6, 7] rfl ?_
            exact B114 (fup vu52 (Int.toNat v52_6) (vu52 (Int.toNat y6))) _ ht19 v52_5 ⟨by omega, by omega, by omega, by assumption, by (first | exact nu_a (by assumption) (by omega) | exact nu_b (by assumption) (by omega) (by omega)), by omega, by omega⟩
    refine Rn.pick (lv' := [(0, .ref pa), (1, .ref ga), (2, .int (iv x2)), (3, .ref ca), (4, .ref gJo), (5, .int (iv 0)), (6, .int (iv 0))]) [3, 4, 5, 6, 2, 1, 0] rfl ?_
    exact B52 (Int.toNat (16 - 0)) (fun _ => 0) _ ht1 0 0 ⟨by omega, by omega, by omega, by omega, by assumption, by assumption, by omega, by omega, by omega⟩ (by omega)
  · exfalso
    omega
theorem t_fillX {D : va_G} {cI cJ cZ cT : ClassId} {lo b L : Nat} {xs : Nat → Int32} {M : MM} {d pc : Nat} {lv : List (Nat × Value)} {st : List Value} {hp : MH} {n kr wr : Nat} {Po : Option Value → MH → Nat → Prop} {Γ : TG} {ix a N : Nat} {x : Int} {f0 : Nat → Int} (ht : Tw Γ hp) (hΓ : Γ a = some (xI cI N f0)) (F : lkK (gG D cI cJ cZ cT lo b L xs) M.1.cls ix mJ7_fill_53178 2 ∧ Cond.static mJ7_fill_53178.1 ∈ g_ws (gG D cI cJ cZ cT lo b L xs)) (hd : decode M.2.1 pc = .ok (.invokestatic ix, 3)) (hN : N < 2 ^ 31) (hb : -2147483648 ≤ x ∧ x ≤ 2147483647) (hdd : 1 ≤ d) (hst : (st.map fun v => v.category).sum ≤ 8) (kk : ∀ hp1 : MH, Tw (ov Γ a (xI cI N (fun _ => x))) hp1 → Rn (gG D cI cJ cZ cT lo b L xs) M d (pc + 3) lv st hp1 n kr wr Po) : Rn (gG D cI cJ cZ cT lo b L xs) M d pc lv (.int (iv x) :: .ref a :: st) hp n kr wr Po := by
  obtain ⟨e, h1', f, rfl, h2⟩ := rd_at ht (rd_of hΓ)
  refine r_callS (as := [.ref a, .int (iv x)]) (st := st) F hd (c_J7_fill_53178 (d := 0) (Nat.zero_le _) h1' hN) rfl (by omega) hst (Nat.zero_le _) (Nat.zero_le _) rfl (fun r hp1 n1 hq => ?_)
  obtain ⟨rfl, rfl, h4, h5⟩ := hq
  refine kk hp1 ?_
  intro q T' h7
  by_cases hq : q = a
  · subst hq
    rw [ov_s] at h7
    cases h7
    refine ⟨_, h4, _, rfl, ?_⟩
    intro i hi
    show (if i < N then iv x else f i).toInt = x
    rw [if_pos hi, iv_toInt hb.1 hb.2]
  · rw [ov_o _ _ hq] at h7
    obtain ⟨e', h8, h9⟩ := ht q T' h7
    exact ⟨e', h5 q e' h8 hq, h9⟩
theorem WN_wy {Γ : TG} {cI cJ cZ cT : ClassId} {wa vn : Nat} {s0 l0 S Lf : Nat → Int} {o0 Wo : Nat → Int64} : wyN (WN Γ cI cJ cZ cT wa vn s0 o0 l0) cI cJ wa vn S Wo Lf = WN Γ cI cJ cZ cT wa vn S Wo Lf := by
  funext q
  by_cases h1 : q = wa + 1
  · subst h1; unfold wyN; rw [ov_o _ _ (by omega), ov_o _ _ (by omega), ov_s]; exact WN_1.symm
  · by_cases h2 : q = wa + 2
    · subst h2; unfold wyN; rw [ov_o _ _ (by omega), ov_s]; exact WN_2.symm
    · by_cases h3 : q = wa + 3
      · subst h3; unfold wyN; rw [ov_s]; exact WN_3.symm
      · unfold wyN; rw [ov_o _ _ h3, ov_o _ _ h2, ov_o _ _ h1]
        by_cases hr : wa ≤ q ∧ q < wa + 6
        · obtain ⟨j, hj, rfl⟩ : ∃ j, j < 6 ∧ q = wa + j := ⟨q - wa, by omega, by omega⟩
          match j, hj with
          | 0, _ => exact (WN_e 0 (by decide) rfl).trans (WN_e 0 (by decide) rfl).symm
          | 1, _ => omega
          | 2, _ => omega
          | 3, _ => omega
          | 4, _ => exact (WN_e 4 (by decide) rfl).trans (WN_e 4 (by decide) rfl).symm
          | 5, _ => exact (WN_e 5 (by decide) rfl).trans (WN_e 5 (by decide) rfl).symm
          | j + 6, hj => omega
        · rw [WN_o (by omega), WN_o (by omega)]
theorem WN_T {Γ : TG} {cI cJ cZ cT : ClassId} {wa vn : Nat} {vs vl : Nat → Int} {vo : Nat → Int64} {hp : MH} (ht : Tw (WN Γ cI cJ cZ cT wa vn vs vo vl) hp) (hs : Rfx vn 0 2 vs) (hl : Rfx vn (-1) ((vn : Int) - 1) vl) : Tw (WT Γ cI cJ cZ cT wa vn) hp := by
  intro q T h
  by_cases hr : wa ≤ q ∧ q < wa + 6
  · obtain ⟨j, hj, rfl⟩ : ∃ j, j < 6 ∧ q = wa + j := ⟨q - wa, by omega, by omega⟩
    match j, hj with
    | 0, _ => rw [WT_e 0 (by decide) rfl] at h; cases h; exact ht _ _ (WN_e 0 (by decide) rfl)
    | 1, _ =>
      rw [WT_e 1 (by decide) rfl] at h; cases h
      obtain ⟨e, h1, f, rfl, h2⟩ := ht _ _ (WN_e 1 (by decide) rfl)
      exact ⟨_, h1, f, rfl, fun i hi => by have h3 : (f i).toInt = vs i := h2 i hi; rw [h3]; exact hs i hi⟩
    | 2, _ =>
      rw [WT_e 2 (by decide) rfl] at h; cases h
      obtain ⟨e, h1, f, rfl, h2⟩ := ht _ _ (WN_e 2 (by decide) rfl)
      exact ⟨_, h1, f, rfl, fun i hi => trivial⟩
    | 3, _ =>
      rw [WT_e 3 (by decide) rfl] at h; cases h
      obtain ⟨e, h1, f, rfl, h2⟩ := ht _ _ (WN_e 3 (by decide) rfl)
      exact ⟨_, h1, f, rfl, fun i hi => by have h3 : (f i).toInt = vl i := h2 i hi; rw [h3]; exact hl i hi⟩
    | 4, _ => rw [WT_e 4 (by decide) rfl] at h; cases h; exact ht _ _ (WN_e 4 (by decide) rfl)
    | 5, _ => rw [WT_e 5 (by decide) rfl] at h; cases h; exact ht _ _ (WN_e 5 (by decide) rfl)
    | j + 6, hj => omega
  · rw [WT_o (by omega)] at h
    exact ht q T (by rw [WN_o (by omega)]; exact h)
theorem WT_ty {Γ : TG} {cI cJ cZ cT : ClassId} {wa vn : Nat} (h1 : 1 ≤ vn ∧ vn ≤ 16) : TyW (WT Γ cI cJ cZ cT wa vn) cI cJ cZ wa vn := ⟨rd_of WT_0, rd_of WT_1, rd_of WT_2, rd_of WT_3, rd_of WT_4, rd_of WT_5, h1⟩
theorem li_0 {n q : Nat} {s : Int} {Tl Hd p : Nat → Int} (hs : 0 ≤ s) : liP n q s Tl Hd p (fup (fun _ => 0) s.toNat 1) (fun _ => 0) (fup (fun _ => -1) s.toNat 0) 0 := by
  intro i hi
  by_cases hq : i = s.toNat
  · subst hq
    right
    rw [fup_s, fup_s]
    have e : ((0 : Int64)).toInt = 0 := by decide
    refine ⟨rfl, by decide, by decide, by rw [e]; decide, by rw [e]; decide, Or.inl ⟨by omega, rfl⟩⟩
  · left
    rw [fup_o _ _ hq, fup_o _ _ hq]
    exact ⟨rfl, rfl⟩
theorem wy_s {n : Nat} {x : Int} (h : 0 ≤ x) : Rfx n 0 2 (fup (fun _ => 0) x.toNat 1) := by
  intro i hi
  by_cases hq : i = x.toNat
  · subst hq; rw [fup_s]; decide
  · rw [fup_o _ _ hq]; decide
theorem wy_l {n : Nat} {x : Int} (h : 1 ≤ n) : Rfx n (-1) ((n : Int) - 1) (fup (fun _ => -1) x.toNat 0) := by
  intro i hi
  by_cases hq : i = x.toNat
  · subst hq; rw [fup_s]; omega
  · rw [fup_o _ _ hq]; omega
set_option maxHeartbeats 4000000 in
set_option maxRecDepth 100000 in
theorem t_X10_init {D : va_G} {cI cJ cZ cT : ClassId} {lo b L : Nat} {xs : Nat → Int32} {hp : MH} {d : Nat} {Γ : TG} {ga : Nat} {gF : Nat} {gT : Nat} {gW : Nat} {gC : Nat} {gTl : Nat} {gHd : Nat} {gBy : Nat} {gOu : Nat} {gIn : Nat} {gJo : Nat} {gn : Nat} {gm : Nat} {gq : Nat} {gdr : Int} {wa : Nat} {x2 x3 : Int} {fF fT fW fC fTl fHd fBy fOu fIn fJo : Nat → Int} (hd0 : 3 ≤ d) (hg : TyG Γ cI cJ cZ ga gF gT gW gC gTl gHd gBy gOu gIn gJo gn gm gq gdr) (hxg : XG Γ cI gF gT gW gC gTl gHd gBy gOu gIn gJo gn gm gq fF fT fW fC fTl fHd fBy fOu fIn fJo) (h0 : hp wa = some (.inr (9, [.int 0, .null, .null, .null, .null, .null]))) (hlo : ∀ (q : Nat) (T : va_E → Prop), Γ q = some T → q < wa) (ht : Tw Γ hp) (hx2 : 0 ≤ x2 ∧ x2 ≤ 2) (hx3 : 0 ≤ x3 ∧ x3 < (gn : Int)) : Mt (gG D cI cJ cZ cT lo b L xs) mX10_init d 7 (gn + gn + gn + gn + (gn * gn) + (gn + gn)) [.ref wa, .ref ga, .int (iv x2), .int (iv x3)] hp (wa + 1) (pWy Γ cI cJ cZ wa gn (wa + 1)) := by
  refine Mt.of rfl (Nat.le_of_ble_eq_true rfl) ?_
  refine Rn.pick (lv' := [(0, .ref wa), (1, .ref ga), (2, .int (iv x2)), (3, .int (iv x3))]) [0, 1, 2, 3] rfl ?_
  obtain ⟨hg_O, hg_from, hg_to, hg_weight, hg_cost, hg_tail, hg_head, hg_by, hg_out, hg_in, hg_joined, hg_b⟩ := id hg
  have hltg : ga < wa ∧ gF < wa ∧ gT < wa ∧ gW < wa ∧ gC < wa ∧ gTl < wa ∧ gHd < wa ∧ gBy < wa ∧ gOu < wa ∧ gIn < wa ∧ gJo < wa := ⟨rd_lo hlo hg_O, rd_lo hlo hg_from, rd_lo hlo hg_to, rd_lo hlo hg_weight, rd_lo hlo hg_cost, rd_lo hlo hg_tail, rd_lo hlo hg_head, rd_lo hlo hg_by, rd_lo hlo hg_out, rd_lo hlo hg_in, rd_lo hlo hg_joined⟩
  have hsq : gn * gn ≤ 256 := Nat.le_trans (Nat.mul_le_mul (show gn ≤ 16 by omega) (show gn ≤ 16 by omega)) (by decide)
  refine p_X10 (by omega) ht hg_O rfl h0 rfl (by omega) hlo (by omega) (by omega) (fun hp1 ht1 => ?_)
  refine r_aload_n (pc := 63) dX10_init_63 (i := 0) rfl rfl ?_
  refine t_getE (pc := 64) (.ref (wa + 3)) ht1 (rd_of WN_0) fX10_26 dX10_init_64 rfl ?_
  refine r_iconst (pc := 67) (v := iv (-1)) dX10_init_67 (by decide) ?_
  refine t_fillX (pc := 68) ht1 WN_3 kX10_35 dX10_init_68 (by omega) (by omega) (by omega) (Nat.le_of_ble_eq_true rfl) (fun hp1 ht2 => ?_)
  have ht3 := RGw_vl ht2
  refine r_aload_n (pc := 71) dX10_init_71 (i := 0) rfl rfl ?_
  refine t_getE (pc := 72) (.ref (wa + 1)) ht3 (rd_of WN_0) fX10_18 dX10_init_72 rfl ?_
  refine r_iload_n (pc := 75) dX10_init_75 (i := 3) rfl rfl ?_
  refine r_iconst (pc := 76) (v := iv 1) dX10_init_76 (by decide) ?_
  refine t_iastX (pc := 77) (t0 := 0) ht3 WN_1 dX10_init_77 rfl (by omega) (by omega) (by omega) (fun hp4 ht5 => ?_)
  have ht6 := RGw_vs ht5
  refine r_aload_n (pc := 78) dX10_init_78 (i := 0) rfl rfl ?_
  refine t_getE (pc := 79) (.ref (wa + 3)) ht6 (rd_of WN_0) fX10_26 dX10_init_79 rfl ?_
  refine r_iload_n (pc := 82) dX10_init_82 (i := 3) rfl rfl ?_
  refine r_iconst (pc := 83) (v := iv 0) dX10_init_83 (by decide) ?_
  refine t_iastX (pc := 84) (t0 := 0) ht6 WN_3 dX10_init_84 rfl (by omega) (by omega) (by omega) (fun hp7 ht8 => ?_)
  have ht9 := RGw_vl ht8
  refine r_aload_n (pc := 85) dX10_init_85 (i := 0) rfl rfl ?_
  refine t_getE (pc := 86) (.ref (wa + 4)) ht9 (rd_of WN_0) fX10_29 dX10_init_86 rfl ?_
  refine r_iload_n (pc := 89) dX10_init_89 (i := 3) rfl rfl ?_
  refine r_lconst (pc := 90) (v := 1) dX10_init_90 (by decide) ?_
  refine t_last (pc := 91) (t0 := 1) ht9 WN_4 dX10_init_91 rfl (by omega) (by omega) trivial (fun hp10 ht11 => ?_)
  refine r_iload_n (pc := 92) dX10_init_92 (i := 2) rfl rfl ?_
  refine r_iconst (pc := 93) (v := iv 2) dX10_init_93 (by decide) ?_
  refine t_icmp_ne (pc := 94) (tgt := 120) dX10_init_94 (by decide) (by omega) (by omega) (fun c94 => ?_) (fun c94 => ?_)
  · refine r_aload_n (pc := 120) dX10_init_120 (i := 0) rfl rfl ?_
    refine r_aload_n (pc := 121) dX10_init_121 (i := 1) rfl rfl ?_
    refine r_iload_n (pc := 122) dX10_init_122 (i := 2) rfl rfl ?_
    refine r_iconst (pc := 123) (v := iv 1) dX10_init_123 (by decide) ?_
    refine t_icmp_ne (pc := 124) (tgt := 131) dX10_init_124 (by decide) (by omega) (by omega) (fun c124 => ?_) (fun c124 => ?_)
    · refine r_iconst (pc := 131) (v := iv 0) dX10_init_131 (by decide) ?_
      have hw0 := Tw_eq (Γ1 := wyN (WN Γ cI cJ cZ cT wa gn (fup (fun _ => 0) (Int.toNat x3) 1) (fun _ => 0) (fup (fun _ => (-1)) (Int.toNat x3) 0)) cI cJ wa gn (fup (fun _ => 0) (Int.toNat x3) 1) (fun _ => 0) (fup (fun _ => (-1)) (Int.toNat x3) 0)) WN_wy.symm ht11
      obtain ⟨fs17, hfs17⟩ := t_obj ht11 (rd_of WN_0)
      refine r_callV (pc := 132) (as := [.ref ga, .int (iv 0)]) (st := []) kX10_51 rfl dX10_init_132 hfs17 (t_X10_lowerAllx (d := d - 1) (s := x3) (x1 := 0) (by omega) (TyG.wn hltg hg) (rd_WN (by omega) hxg.1.2.2.2.2.1) (rd_WN (by omega) hxg.1.2.2.2.2.2.1) (rd_WN (by omega) hxg.1.2.2.2.2.2.2.1) (rd_WN (by omega) hxg.1.2.2.1) hxg.2.1.2.2.2.2.1 hxg.2.1.2.2.2.2.2.1 hxg.2.1.2.2.2.2.2.2.1 hxg.2.1.2.2.1 (rd_of WN_0) (by omega) (li_0 (by omega)) hw0 (by omega)) rfl (by omega) (Nat.le_of_ble_eq_true rfl) (Nat.zero_le _) (Nat.zero_le _) rfl (fun r13 hp14 n15 hq16 => ?_)
      obtain ⟨hnn15, hrr13, S1, W1, L1, ht12, hli1⟩ := hq16
      subst n15 r13
      rw [WN_wy] at ht12
      change Rn _ _ _ 135 _ [] _ _ _ _ _
      refine r_aload_n (pc := 135) dX10_init_135 (i := 0) rfl rfl ?_
      refine r_aload_n (pc := 136) dX10_init_136 (i := 1) rfl rfl ?_
      refine r_iload_n (pc := 137) dX10_init_137 (i := 2) rfl rfl ?_
      refine r_iconst (pc := 138) (v := iv 1) dX10_init_138 (by decide) ?_
      refine t_icmp_ne (pc := 139) (tgt := 146) dX10_init_139 (by decide) (by omega) (by omega) (fun c139 => ?_) (fun c139 => ?_)
      · refine r_iconst (pc := 146) (v := iv 0) dX10_init_146 (by decide) ?_
        have hw1 := Tw_eq (Γ1 := wyN (WN Γ cI cJ cZ cT wa gn S1 W1 L1) cI cJ wa gn S1 W1 L1) WN_wy.symm ht12
        obtain ⟨fs23, hfs23⟩ := t_obj ht12 (rd_of WN_0)
        refine r_callV (pc := 147) (as := [.ref ga, .int (iv 0)]) (st := []) kX10_55 rfl dX10_init_147 hfs23 (t_X10_markEndlessx (d := d - 1) (s := x3) (x1 := 0) (by omega) (TyG.wn hltg hg) (rd_WN (by omega) hxg.1.2.2.2.2.1) (rd_WN (by omega) hxg.1.2.2.2.2.2.1) (rd_WN (by omega) hxg.1.2.2.2.2.2.2.1) (rd_WN (by omega) hxg.1.2.2.1) hxg.2.1.2.2.2.2.1 hxg.2.1.2.2.2.2.2.1 hxg.2.1.2.2.2.2.2.2.1 hxg.2.1.2.2.1 (rd_of WN_0) (by omega) (rd_WN (by omega) hxg.1.2.2.2.2.2.2.2.1) hxg.2.1.2.2.2.2.2.2.2.1 hxg.2.2 WN_4 hli1 hw1 (by omega)) rfl (by omega) (Nat.le_of_ble_eq_true rfl) (Nat.zero_le _) (Nat.zero_le _) rfl (fun r19 hp20 n21 hq22 => ?_)
        obtain ⟨hnn21, hrr19, S2, W2, L2, ht18, hS2, hL2⟩ := hq22
        subst n21 r19
        rw [WN_wy] at ht18
        change Rn _ _ _ 150 _ [] _ _ _ _ _
        refine r_aload_n (pc := 150) dX10_init_150 (i := 0) rfl rfl ?_
        refine r_aload_n (pc := 151) dX10_init_151 (i := 1) rfl rfl ?_
        refine r_iload_n (pc := 152) dX10_init_152 (i := 2) rfl rfl ?_
        refine r_iconst (pc := 153) (v := iv 1) dX10_init_153 (by decide) ?_
        refine t_icmp_ne (pc := 154) (tgt := 161) dX10_init_154 (by decide) (by omega) (by omega) (fun c154 => ?_) (fun c154 => ?_)
        · refine r_iconst (pc := 161) (v := iv 0) dX10_init_161 (by decide) ?_
          obtain ⟨fs30, hfs30⟩ := t_obj ht18 (rd_of WN_0)
          refine r_callV (pc := 162) (as := [.ref ga, .int (iv 0)]) (st := []) kX10_58 rfl dX10_init_162 hfs30 (t_X10_traceLowx (d := d - 1) (x1 := 0) (by omega) (TyG.wn hltg hg) (rd_WN (by omega) hxg.1.2.2.2.2.1) (rd_WN (by omega) hxg.1.2.2.2.2.2.1) (rd_WN (by omega) hxg.1.2.2.2.2.2.2.1) (rd_WN (by omega) hxg.1.2.2.1) hxg.2.1.2.2.2.2.1 hxg.2.1.2.2.2.2.2.1 hxg.2.1.2.2.2.2.2.2.1 hxg.2.1.2.2.1 (rd_of WN_0) (rd_xr (rd_of WN_1) hS2) (rd_xj (rd_of WN_2)) (rd_of WN_3) hL2 WN_4 WN_5 ht18 (by omega)) rfl (by omega) (Nat.le_of_ble_eq_true rfl) (Nat.zero_le _) (Nat.zero_le _) rfl (fun r26 hp27 n28 hq29 => ?_)
          obtain ⟨hnn28, ht24, hrr26⟩ := hq29
          subst n28 r26
          have ht25 := WN_T ht24 hS2 hL2
          change Rn _ _ _ 165 _ [] _ _ _ _ _
          exact r_vret (pc := 165) dX10_init_165 rfl ⟨by omega, rfl, _, WT_ext hlo (Ext_refl Γ), ht25, WT_ty (by omega)⟩
        · exfalso
          omega
      · exfalso
        omega
    · refine r_iconst (pc := 127) (v := iv 1) dX10_init_127 (by decide) ?_
      refine r_goto (pc := 128) (tgt := 132) dX10_init_128 (by decide) ?_
      have hw0 := Tw_eq (Γ1 := wyN (WN Γ cI cJ cZ cT wa gn (fup (fun _ => 0) (Int.toNat x3) 1) (fun _ => 0) (fup (fun _ => (-1)) (Int.toNat x3) 0)) cI cJ wa gn (fup (fun _ => 0) (Int.toNat x3) 1) (fun _ => 0) (fup (fun _ => (-1)) (Int.toNat x3) 0)) WN_wy.symm ht11
      obtain ⟨fs36, hfs36⟩ := t_obj ht11 (rd_of WN_0)
      refine r_callV (pc := 132) (as := [.ref ga, .int (iv 1)]) (st := []) kX10_51 rfl dX10_init_132 hfs36 (t_X10_lowerAllx (d := d - 1) (s := x3) (x1 := 1) (by omega) (TyG.wn hltg hg) (rd_WN (by omega) hxg.1.2.2.2.2.1) (rd_WN (by omega) hxg.1.2.2.2.2.2.1) (rd_WN (by omega) hxg.1.2.2.2.2.2.2.1) (rd_WN (by omega) hxg.1.2.2.1) hxg.2.1.2.2.2.2.1 hxg.2.1.2.2.2.2.2.1 hxg.2.1.2.2.2.2.2.2.1 hxg.2.1.2.2.1 (rd_of WN_0) (by omega) (li_0 (by omega)) hw0 (by omega)) rfl (by omega) (Nat.le_of_ble_eq_true rfl) (Nat.zero_le _) (Nat.zero_le _) rfl (fun r32 hp33 n34 hq35 => ?_)
      obtain ⟨hnn34, hrr32, S1, W1, L1, ht31, hli1⟩ := hq35
      subst n34 r32
      rw [WN_wy] at ht31
      change Rn _ _ _ 135 _ [] _ _ _ _ _
      refine r_aload_n (pc := 135) dX10_init_135 (i := 0) rfl rfl ?_
      refine r_aload_n (pc := 136) dX10_init_136 (i := 1) rfl rfl ?_
      refine r_iload_n (pc := 137) dX10_init_137 (i := 2) rfl rfl ?_
      refine r_iconst (pc := 138) (v := iv 1) dX10_init_138 (by decide) ?_
      refine t_icmp_ne (pc := 139) (tgt := 146) dX10_init_139 (by decide) (by omega) (by omega) (fun c139 => ?_) (fun c139 => ?_)
      · exfalso
        omega
      · refine r_iconst (pc := 142) (v := iv 1) dX10_init_142 (by decide) ?_
        refine r_goto (pc := 143) (tgt := 147) dX10_init_143 (by decide) ?_
        have hw1 := Tw_eq (Γ1 := wyN (WN Γ cI cJ cZ cT wa gn S1 W1 L1) cI cJ wa gn S1 W1 L1) WN_wy.symm ht31
        obtain ⟨fs42, hfs42⟩ := t_obj ht31 (rd_of WN_0)
        refine r_callV (pc := 147) (as := [.ref ga, .int (iv 1)]) (st := []) kX10_55 rfl dX10_init_147 hfs42 (t_X10_markEndlessx (d := d - 1) (s := x3) (x1 := 1) (by omega) (TyG.wn hltg hg) (rd_WN (by omega) hxg.1.2.2.2.2.1) (rd_WN (by omega) hxg.1.2.2.2.2.2.1) (rd_WN (by omega) hxg.1.2.2.2.2.2.2.1) (rd_WN (by omega) hxg.1.2.2.1) hxg.2.1.2.2.2.2.1 hxg.2.1.2.2.2.2.2.1 hxg.2.1.2.2.2.2.2.2.1 hxg.2.1.2.2.1 (rd_of WN_0) (by omega) (rd_WN (by omega) hxg.1.2.2.2.2.2.2.2.1) hxg.2.1.2.2.2.2.2.2.2.1 hxg.2.2 WN_4 hli1 hw1 (by omega)) rfl (by omega) (Nat.le_of_ble_eq_true rfl) (Nat.zero_le _) (Nat.zero_le _) rfl (fun r38 hp39 n40 hq41 => ?_)
        obtain ⟨hnn40, hrr38, S2, W2, L2, ht37, hS2, hL2⟩ := hq41
        subst n40 r38
        rw [WN_wy] at ht37
        change Rn _ _ _ 150 _ [] _ _ _ _ _
        refine r_aload_n (pc := 150) dX10_init_150 (i := 0) rfl rfl ?_
        refine r_aload_n (pc := 151) dX10_init_151 (i := 1) rfl rfl ?_
        refine r_iload_n (pc := 152) dX10_init_152 (i := 2) rfl rfl ?_
        refine r_iconst (pc := 153) (v := iv 1) dX10_init_153 (by decide) ?_
        refine t_icmp_ne (pc := 154) (tgt := 161) dX10_init_154 (by decide) (by omega) (by omega) (fun c154 => ?_) (fun c154 => ?_)
        · exfalso
          omega
        · refine r_iconst (pc := 157) (v := iv 1) dX10_init_157 (by decide) ?_
          refine r_goto (pc := 158) (tgt := 162) dX10_init_158 (by decide) ?_
          obtain ⟨fs49, hfs49⟩ := t_obj ht37 (rd_of WN_0)
          refine r_callV (pc := 162) (as := [.ref ga, .int (iv 1)]) (st := []) kX10_58 rfl dX10_init_162 hfs49 (t_X10_traceLowx (d := d - 1) (x1 := 1) (by omega) (TyG.wn hltg hg) (rd_WN (by omega) hxg.1.2.2.2.2.1) (rd_WN (by omega) hxg.1.2.2.2.2.2.1) (rd_WN (by omega) hxg.1.2.2.2.2.2.2.1) (rd_WN (by omega) hxg.1.2.2.1) hxg.2.1.2.2.2.2.1 hxg.2.1.2.2.2.2.2.1 hxg.2.1.2.2.2.2.2.2.1 hxg.2.1.2.2.1 (rd_of WN_0) (rd_xr (rd_of WN_1) hS2) (rd_xj (rd_of WN_2)) (rd_of WN_3) hL2 WN_4 WN_5 ht37 (by omega)) rfl (by omega) (Nat.le_of_ble_eq_true rfl) (Nat.zero_le _) (Nat.zero_le _) rfl (fun r45 hp46 n47 hq48 => ?_)
          obtain ⟨hnn47, ht43, hrr45⟩ := hq48
          subst n47 r45
          have ht44 := WN_T ht43 hS2 hL2
          change Rn _ _ _ 165 _ [] _ _ _ _ _
          exact r_vret (pc := 165) dX10_init_165 rfl ⟨by omega, rfl, _, WT_ext hlo (Ext_refl Γ), ht44, WT_ty (by omega)⟩
  · refine r_aload_n (pc := 97) dX10_init_97 (i := 0) rfl rfl ?_
    refine t_getE (pc := 98) (.ref (wa + 2)) ht11 (rd_of WN_0) fX10_22 dX10_init_98 rfl ?_
    refine r_iload_n (pc := 101) dX10_init_101 (i := 3) rfl rfl ?_
    refine r_ldc2 (pc := 102) (v := 1001) dX10_init_102 kX10_41 ?_
    refine t_lastX (pc := 105) (t0 := 1) ht11 WN_2 dX10_init_105 rfl (by omega) (by omega) (fun hp50 ht51 => ?_)
    have ht52 := RGw_vo ht51
    refine r_aload_n (pc := 106) dX10_init_106 (i := 0) rfl rfl ?_
    refine r_aload_n (pc := 107) dX10_init_107 (i := 1) rfl rfl ?_
    have ht54 := WN_T ht52 (wy_s (x := x3) (by omega)) (wy_l (x := x3) (by omega))
    obtain ⟨fs59, hfs59⟩ := t_obj ht54 (rd_of WT_0)
    refine r_callV (pc := 108) (as := [.ref ga]) (st := []) kX10_43 rfl dX10_init_108 hfs59 (t_X10_widenAll (d := d - 1) (by omega) (TyG.wt hltg hg) (rd_of WT_0) WT_1 WT_2 WT_3 WT_4 WT_5 ht54) rfl (by omega) (Nat.le_of_ble_eq_true rfl) (Nat.zero_le _) (Nat.zero_le _) rfl (fun r55 hp56 n57 hq58 => ?_)
    obtain ⟨hnn57, ht53, hrr55⟩ := hq58
    subst n57 r55
    change Rn _ _ _ 111 _ [] _ _ _ _ _
    refine r_aload_n (pc := 111) dX10_init_111 (i := 0) rfl rfl ?_
    refine r_aload_n (pc := 112) dX10_init_112 (i := 1) rfl rfl ?_
    refine r_iload_n (pc := 113) dX10_init_113 (i := 3) rfl rfl ?_
    obtain ⟨fs65, hfs65⟩ := t_obj ht53 (rd_of WT_0)
    refine r_callV (pc := 114) (as := [.ref ga, .int (iv x3)]) (st := []) kX10_47 rfl dX10_init_114 hfs65 (t_X10_traceWide (d := d - 1) (x1 := x3) (by omega) (TyG.wt hltg hg) (rd_of WT_0) WT_1 WT_2 WT_3 WT_4 WT_5 ht53 (by omega)) rfl (by omega) (Nat.le_of_ble_eq_true rfl) (by omega) (by omega) rfl (fun r61 hp62 n63 hq64 => ?_)
    obtain ⟨hnn63, ht60, hrr61⟩ := hq64
    subst n63 r61
    change Rn _ _ _ 117 _ [] _ _ _ _ _
    refine r_goto (pc := 117) (tgt := 165) dX10_init_117 (by decide) ?_
    exact r_vret (pc := 165) dX10_init_165 rfl ⟨by omega, rfl, _, WT_ext hlo (Ext_refl Γ), ht60, WT_ty (by omega)⟩
