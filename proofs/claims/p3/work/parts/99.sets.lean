set_option maxHeartbeats 4000000 in
set_option maxRecDepth 100000 in
theorem t_X7_fillStrangers {D : va_G} {cI cJ cZ cT : ClassId} {lo b L : Nat} {xs : Nat → Int32} {hp : MH} {n d : Nat} {Γ : TG} {ss : Nat} {ga : Nat} {gF : Nat} {gT : Nat} {gW : Nat} {gC : Nat} {gTl : Nat} {gHd : Nat} {gBy : Nat} {gOu : Nat} {gIn : Nat} {gJo : Nat} {gn : Nat} {gm : Nat} {gq : Nat} {gdr : Int} (hd0 : 1 ≤ d) (hs : TySets Γ cI cJ cZ ss) (hg : TyG Γ cI cJ cZ ga gF gT gW gC gTl gHd gBy gOu gIn gJo gn gm gq gdr) (ht : Tw Γ hp)  : Mt (gG D cI cJ cZ cT lo b L xs) mX7_fillStrangers d 0 0 [.ref ss, .ref ga] hp n (pV Γ n) := by
  obtain ⟨hs_O, hs_strangers, hs_classes, hs_levels, hs_melted, hs_hopeless⟩ := id hs
  obtain ⟨hg_O, hg_from, hg_to, hg_weight, hg_cost, hg_tail, hg_head, hg_by, hg_out, hg_in, hg_joined, hg_b⟩ := id hg
  refine Mt.of rfl (Nat.le_of_ble_eq_true rfl) ?_
  refine Rn.pick (lv' := [(0, .ref ss), (1, .ref ga)]) [0, 1] rfl ?_
  refine r_iconst (pc := 0) (v := iv 0) dX7_fillStrangers_0 (by decide) ?_
  refine r_istore_n (pc := 1) (lv' := [(2, .int (iv 0)), (0, .ref ss), (1, .ref ga)]) dX7_fillStrangers_1 (i := 2) rfl (by decide) rfl ?_
  have B2 : ∀ k : Nat, ∀ hp2 : MH, Tw Γ hp2 → ∀  (v2_2 : Int), 0 ≤ v2_2 ∧ v2_2 ≤ 16 → 16 - v2_2 ≤ (k : Int) → Rn (gG D cI cJ cZ cT lo b L xs) mX7_fillStrangers d 2 [(0, .ref ss), (1, .ref ga), (2, .int (iv v2_2))] [] hp2 n 0 0 (pV Γ n) := by
    refine lpS _ ?_
    intro k2 ih2 hp2 ht2 v2_2 hf2 hm2
    refine r_iload_n (pc := 2) dX7_fillStrangers_2 (i := 2) rfl rfl ?_
    refine r_aload_n (pc := 3) dX7_fillStrangers_3 (i := 1) rfl rfl ?_
    refine t_getE (pc := 4) (.int (iv (gn : Int))) ht2 hg_O fX7_44 dX7_fillStrangers_4 rfl ?_
    refine t_icmp_ge (pc := 7) (tgt := 41) dX7_fillStrangers_7 (by decide) (by omega) (by omega) (fun c7 => ?_) (fun c7 => ?_)
    · exact r_vret (pc := 41) dX7_fillStrangers_41 rfl ⟨rfl, ht2, rfl⟩
    · refine r_aload_n (pc := 10) dX7_fillStrangers_10 (i := 0) rfl rfl ?_
      refine t_getE (pc := 11) (.ref (ss + 1)) ht2 (rd_of hs_O) fX7_9 dX7_fillStrangers_11 rfl ?_
      refine r_iload_n (pc := 14) dX7_fillStrangers_14 (i := 2) rfl rfl ?_
      refine r_aload_n (pc := 15) dX7_fillStrangers_15 (i := 1) rfl rfl ?_
      refine t_callVR (pc := 16) (as := []) (st := [.int (iv v2_2), .ref (ss + 1)]) ht2 hg_O kX7_31 rfl dX7_fillStrangers_16 (t_X3_allNodes (d := d - 1)  (by omega) hg  ht2  ) rfl (by omega) (Nat.le_of_ble_eq_true rfl) rfl (fun hp1 y3 ht2 by3 => ?_)
      refine r_aload_n (pc := 19) dX7_fillStrangers_19 (i := 1) rfl rfl ?_
      refine t_getE (pc := 20) (.ref gJo) ht2 hg_O fX7_41 dX7_fillStrangers_20 rfl ?_
      refine r_iload_n (pc := 23) dX7_fillStrangers_23 (i := 2) rfl rfl ?_
      refine t_ialdR (pc := 24) (t0 := 0) ht2 hg_joined dX7_fillStrangers_24 rfl (by omega) (by omega) (fun y4 by4 => ?_)
      refine r_iconst (pc := 25) (v := iv (-1)) dX7_fillStrangers_25 (by decide) ?_
      refine r_ixor (pc := 26) (v := iv (-y4 - 1)) dX7_fillStrangers_26 (iv_not _) ?_
      obtain ⟨z5, hz5, bz5⟩ := and_l y3 (-y4 - 1) (by omega) (by omega)
      refine r_iand (pc := 27) (v := iv z5) dX7_fillStrangers_27 hz5 ?_
      refine r_iconst (pc := 28) (v := iv 1) dX7_fillStrangers_28 (by decide) ?_
      refine r_iload_n (pc := 29) dX7_fillStrangers_29 (i := 2) rfl rfl ?_
      obtain ⟨z6, hz6, bz6⟩ := shl_1 0 15 v2_2 (by omega) (by omega) (by decide)
      refine r_ishl (pc := 30) (v := iv z6) dX7_fillStrangers_30 hz6 ?_
      refine r_iconst (pc := 31) (v := iv (-1)) dX7_fillStrangers_31 (by decide) ?_
      refine r_ixor (pc := 32) (v := iv (-z6 - 1)) dX7_fillStrangers_32 (iv_not _) ?_
      obtain ⟨z7, hz7, bz7⟩ := and_l z5 (-z6 - 1) (by omega) (by omega)
      refine r_iand (pc := 33) (v := iv z7) dX7_fillStrangers_33 hz7 ?_
      refine t_iastR (pc := 34) (t0 := 0) ht2 hs_strangers dX7_fillStrangers_34 rfl (by decide) (by decide) (by omega) (by omega) (fun hp8 ht9 => ?_)
      refine r_iinc (pc := 35) (v := iv (v2_2 + 1)) (lv' := [(2, .int (iv (v2_2 + 1))), (0, .ref ss), (1, .ref ga)]) dX7_fillStrangers_35 rfl (iv_add _ _) (by decide) rfl ?_
      refine r_goto (pc := 38) (tgt := 2) dX7_fillStrangers_38 (by decide) ?_
      refine Rn.pick (lv' := [(0, .ref ss), (1, .ref ga), (2, .int (iv (v2_2 + 1)))]) [1, 2, 0] rfl ?_
      exact ih2 (Int.toNat (16 - (v2_2 + 1))) (by omega) _ ht9 (v2_2 + 1) ⟨by omega, by omega⟩ (by omega)
  refine Rn.pick (lv' := [(0, .ref ss), (1, .ref ga), (2, .int (iv 0))]) [1, 2, 0] rfl ?_
  exact B2 (Int.toNat (16 - 0)) _ ht 0 ⟨by omega, by omega⟩ (by omega)
set_option maxHeartbeats 4000000 in
set_option maxRecDepth 100000 in
theorem t_X7_hardNodes {D : va_G} {cI cJ cZ cT : ClassId} {lo b L : Nat} {xs : Nat → Int32} {hp : MH} {n d : Nat} {Γ : TG} {ga : Nat} {gF : Nat} {gT : Nat} {gW : Nat} {gC : Nat} {gTl : Nat} {gHd : Nat} {gBy : Nat} {gOu : Nat} {gIn : Nat} {gJo : Nat} {gn : Nat} {gm : Nat} {gq : Nat} {gdr : Int} {x1 : Int} (hd0 : 1 ≤ d) (hg : TyG Γ cI cJ cZ ga gF gT gW gC gTl gHd gBy gOu gIn gJo gn gm gq gdr) (ht : Tw Γ hp) (hx1 : 0 ≤ x1 ∧ x1 ≤ 16) : Mt (gG D cI cJ cZ cT lo b L xs) mX7_hardNodes d 0 0 [.ref ga, .int (iv x1)] hp n (pR Γ n 0 65535) := by
  obtain ⟨hg_O, hg_from, hg_to, hg_weight, hg_cost, hg_tail, hg_head, hg_by, hg_out, hg_in, hg_joined, hg_b⟩ := id hg
  refine Mt.of rfl (Nat.le_of_ble_eq_true rfl) ?_
  refine Rn.pick (lv' := [(0, .ref ga), (1, .int (iv x1))]) [0, 1] rfl ?_
  refine r_aload_n (pc := 0) dX7_hardNodes_0 (i := 0) rfl rfl ?_
  refine t_callVR (pc := 1) (as := []) (st := []) ht hg_O kX7_31 rfl dX7_hardNodes_1 (t_X3_allNodes (d := d - 1)  (by omega) hg  ht  ) rfl (by omega) (Nat.le_of_ble_eq_true rfl) rfl (fun hp1 y3 ht2 by3 => ?_)
  refine r_istore_n (pc := 4) (lv' := [(2, .int (iv y3)), (0, .ref ga), (1, .int (iv x1))]) dX7_hardNodes_4 (i := 2) rfl (by decide) rfl ?_
  refine r_iconst (pc := 5) (v := iv 0) dX7_hardNodes_5 (by decide) ?_
  refine r_istore_n (pc := 6) (lv' := [(3, .int (iv 0)), (2, .int (iv y3)), (0, .ref ga), (1, .int (iv x1))]) dX7_hardNodes_6 (i := 3) rfl (by decide) rfl ?_
  have B7 : ∀ k : Nat, ∀ hp7 : MH, Tw Γ hp7 → ∀  (v7_2 : Int) (v7_3 : Int), 0 ≤ v7_2 ∧ v7_2 ≤ 65535 ∧ v7_2 ≤ y3 ∧ 0 ≤ v7_3 ∧ v7_3 ≤ 16 → 16 - v7_3 ≤ (k : Int) → Rn (gG D cI cJ cZ cT lo b L xs) mX7_hardNodes d 7 [(0, .ref ga), (1, .int (iv x1)), (2, .int (iv v7_2)), (3, .int (iv v7_3))] [] hp7 n 0 0 (pR Γ n 0 65535) := by
    refine lpS _ ?_
    intro k7 ih7 hp7 ht7 v7_2 v7_3 hf7 hm7
    refine r_iload_n (pc := 7) dX7_hardNodes_7 (i := 3) rfl rfl ?_
    refine r_aload_n (pc := 8) dX7_hardNodes_8 (i := 0) rfl rfl ?_
    refine t_getE (pc := 9) (.int (iv (gn : Int))) ht7 hg_O fX7_44 dX7_hardNodes_9 rfl ?_
    refine t_icmp_ge (pc := 12) (tgt := 64) dX7_hardNodes_12 (by decide) (by omega) (by omega) (fun c12 => ?_) (fun c12 => ?_)
    · refine r_iload_n (pc := 64) dX7_hardNodes_64 (i := 2) rfl rfl ?_
      exact r_iret (pc := 65) dX7_hardNodes_65 rfl ⟨rfl, ht7, _, rfl, by omega, by omega⟩
    · refine r_iconst (pc := 15) (v := iv 0) dX7_hardNodes_15 (by decide) ?_
      refine r_istore (pc := 16) (lv' := [(4, .int (iv 0)), (0, .ref ga), (1, .int (iv x1)), (2, .int (iv v7_2)), (3, .int (iv v7_3))]) dX7_hardNodes_16 (by decide) rfl ?_
      have B18 : ∀ k : Nat, ∀ hp18 : MH, Tw Γ hp18 → ∀  (v18_2 : Int) (v18_4 : Int), 0 ≤ v18_2 ∧ v18_2 ≤ 65535 ∧ v18_2 ≤ v7_2 ∧ 0 ≤ v18_4 ∧ v18_4 ≤ 16 → 16 - v18_4 ≤ (k : Int) → Rn (gG D cI cJ cZ cT lo b L xs) mX7_hardNodes d 18 [(0, .ref ga), (1, .int (iv x1)), (2, .int (iv v18_2)), (3, .int (iv v7_3)), (4, .int (iv v18_4))] [] hp18 n 0 0 (pR Γ n 0 65535) := by
        refine lpS _ ?_
        intro k18 ih18 hp18 ht18 v18_2 v18_4 hf18 hm18
        refine r_iload (pc := 18) dX7_hardNodes_18 rfl ?_
        refine r_aload_n (pc := 20) dX7_hardNodes_20 (i := 0) rfl rfl ?_
        refine t_getE (pc := 21) (.int (iv (gn : Int))) ht18 hg_O fX7_44 dX7_hardNodes_21 rfl ?_
        refine t_icmp_ge (pc := 24) (tgt := 58) dX7_hardNodes_24 (by decide) (by omega) (by omega) (fun c24 => ?_) (fun c24 => ?_)
        · refine r_iinc (pc := 58) (v := iv (v7_3 + 1)) (lv' := [(3, .int (iv (v7_3 + 1))), (0, .ref ga), (1, .int (iv x1)), (2, .int (iv v18_2)), (4, .int (iv v18_4))]) dX7_hardNodes_58 rfl (iv_add _ _) (by decide) rfl ?_
          refine r_goto (pc := 61) (tgt := 7) dX7_hardNodes_61 (by decide) ?_
          refine Rn.pick (lv' := [(0, .ref ga), (1, .int (iv x1)), (2, .int (iv v18_2)), (3, .int (iv (v7_3 + 1)))]) [1, 2, 3, 0] rfl ?_
          exact ih7 (Int.toNat (16 - (v7_3 + 1))) (by omega) _ ht18 v18_2 (v7_3 + 1) ⟨by omega, by omega, by omega, by omega, by omega⟩ (by omega)
        · refine r_aload_n (pc := 27) dX7_hardNodes_27 (i := 0) rfl rfl ?_
          refine t_getE (pc := 28) (.ref gJo) ht18 hg_O fX7_41 dX7_hardNodes_28 rfl ?_
          refine r_iload (pc := 31) dX7_hardNodes_31 rfl ?_
          refine t_ialdR (pc := 33) (t0 := 0) ht18 hg_joined dX7_hardNodes_33 rfl (by omega) (by omega) (fun y4 by4 => ?_)
          refine r_iload_n (pc := 34) dX7_hardNodes_34 (i := 2) rfl rfl ?_
          obtain ⟨z5, hz5, bz5⟩ := and_2 y4 v18_2 (by omega) (by omega)
          refine r_iand (pc := 35) (v := iv z5) dX7_hardNodes_35 hz5 ?_
          refine t_callSR (pc := 36) (as := [.int (iv z5)]) (st := []) kX7_52 dX7_hardNodes_36 (t_J6_bitCount_0f7a4 (d := d - 1) (x0 := z5) (by omega)   ht18 (by omega) ) rfl (by omega) (Nat.le_of_ble_eq_true rfl) rfl (fun hp6 y8 ht7 by8 => ?_)
          refine r_iload_n (pc := 39) dX7_hardNodes_39 (i := 1) rfl rfl ?_
          have B52 : ∀ hp52 : MH, Tw Γ hp52 → ∀  (v52_2 : Int), 0 ≤ v52_2 ∧ v52_2 ≤ 65535 ∧ v52_2 ≤ v18_2 → Rn (gG D cI cJ cZ cT lo b L xs) mX7_hardNodes d 52 [(0, .ref ga), (1, .int (iv x1)), (2, .int (iv v52_2)), (3, .int (iv v7_3)), (4, .int (iv v18_4))] [] hp52 n 0 0 (pR Γ n 0 65535) := by
            intro hp52 ht52 v52_2 hf52
            refine r_iinc (pc := 52) (v := iv (v18_4 + 1)) (lv' := [(4, .int (iv (v18_4 + 1))), (0, .ref ga), (1, .int (iv x1)), (2, .int (iv v52_2)), (3, .int (iv v7_3))]) dX7_hardNodes_52 rfl (iv_add _ _) (by decide) rfl ?_
            refine r_goto (pc := 55) (tgt := 18) dX7_hardNodes_55 (by decide) ?_
            refine Rn.pick (lv' := [(0, .ref ga), (1, .int (iv x1)), (2, .int (iv v52_2)), (3, .int (iv v7_3)), (4, .int (iv (v18_4 + 1)))]) [1, 2, 3, 4, 0] rfl ?_
            exact ih18 (Int.toNat (16 - (v18_4 + 1))) (by omega) _ ht52 v52_2 (v18_4 + 1) ⟨by omega, by omega, by omega, by omega, by omega⟩ (by omega)
          refine t_icmp_ge (pc := 40) (tgt := 52) dX7_hardNodes_40 (by decide) (by omega) (by omega) (fun c40 => ?_) (fun c40 => ?_)
          · refine Rn.pick (lv' := [(0, .ref ga), (1, .int (iv x1)), (2, .int (iv v18_2)), (3, .int (iv v7_3)), (4, .int (iv v18_4))]) [0, 1, 2, 3, 4] rfl ?_
            exact B52 _ ht7 v18_2 ⟨by omega, by omega, by omega⟩
          · refine r_iload_n (pc := 43) dX7_hardNodes_43 (i := 2) rfl rfl ?_
            refine r_iconst (pc := 44) (v := iv 1) dX7_hardNodes_44 (by decide) ?_
            refine r_iload (pc := 45) dX7_hardNodes_45 rfl ?_
            obtain ⟨z9, hz9, bz9⟩ := shl_1 0 15 v18_4 (by omega) (by omega) (by decide)
            refine r_ishl (pc := 47) (v := iv z9) dX7_hardNodes_47 hz9 ?_
            refine r_iconst (pc := 48) (v := iv (-1)) dX7_hardNodes_48 (by decide) ?_
            refine r_ixor (pc := 49) (v := iv (-z9 - 1)) dX7_hardNodes_49 (iv_not _) ?_
            obtain ⟨z10, hz10, bz10⟩ := and_l v18_2 (-z9 - 1) (by omega) (by omega)
            refine r_iand (pc := 50) (v := iv z10) dX7_hardNodes_50 hz10 ?_
            refine r_istore_n (pc := 51) (lv' := [(2, .int (iv z10)), (0, .ref ga), (1, .int (iv x1)), (3, .int (iv v7_3)), (4, .int (iv v18_4))]) dX7_hardNodes_51 (i := 2) rfl (by decide) rfl ?_
            refine Rn.pick (lv' := [(0, .ref ga), (1, .int (iv x1)), (2, .int (iv z10)), (3, .int (iv v7_3)), (4, .int (iv v18_4))]) [1, 2, 0, 3, 4] rfl ?_
            exact B52 _ ht7 z10 ⟨by omega, by omega, by omega⟩
      refine Rn.pick (lv' := [(0, .ref ga), (1, .int (iv x1)), (2, .int (iv v7_2)), (3, .int (iv v7_3)), (4, .int (iv 0))]) [1, 2, 3, 4, 0] rfl ?_
      exact B18 (Int.toNat (16 - 0)) _ ht7 v7_2 0 ⟨by omega, by omega, by omega, by omega, by omega⟩ (by omega)
  refine Rn.pick (lv' := [(0, .ref ga), (1, .int (iv x1)), (2, .int (iv y3)), (3, .int (iv 0))]) [2, 3, 1, 0] rfl ?_
  exact B7 (Int.toNat (16 - 0)) _ ht2 y3 0 ⟨by omega, by omega, by omega, by omega, by omega⟩ (by omega)
set_option maxHeartbeats 4000000 in
set_option maxRecDepth 100000 in
theorem t_X7_mostBound {D : va_G} {cI cJ cZ cT : ClassId} {lo b L : Nat} {xs : Nat → Int32} {hp : MH} {n d : Nat} {Γ : TG} {ss : Nat} {rA rL : Nat} {x2 x3 : Int} (hd0 : 1 ≤ d) (hs : TySets Γ cI cJ cZ ss) (hrA : rd Γ rA (tI cI rL (rg 0 65535))) (hrL : rL ≤ 16) (ht : Tw Γ hp) (hx2 : 0 ≤ x2 ∧ x2 ≤ 65535) (hx3 : 0 ≤ x3 ∧ x3 ≤ 16) : Mt (gG D cI cJ cZ cT lo b L xs) mX7_mostBound d 0 0 [.ref ss, .ref rA, .int (iv x2), .int (iv x3)] hp n (pI Γ n (fun r => -1 ≤ r ∧ r ≤ 15 ∧ r < (rL : Int))) := by
  obtain ⟨hs_O, hs_strangers, hs_classes, hs_levels, hs_melted, hs_hopeless⟩ := id hs
  refine Mt.of rfl (Nat.le_of_ble_eq_true rfl) ?_
  refine Rn.pick (lv' := [(0, .ref ss), (1, .ref rA), (2, .int (iv x2)), (3, .int (iv x3))]) [0, 1, 2, 3] rfl ?_
  refine r_iconst (pc := 0) (v := iv (-1)) dX7_mostBound_0 (by decide) ?_
  refine r_istore (pc := 1) (lv' := [(4, .int (iv (-1))), (0, .ref ss), (1, .ref rA), (2, .int (iv x2)), (3, .int (iv x3))]) dX7_mostBound_1 (by decide) rfl ?_
  refine r_iconst (pc := 3) (v := iv (-1)) dX7_mostBound_3 (by decide) ?_
  refine r_istore (pc := 4) (lv' := [(5, .int (iv (-1))), (4, .int (iv (-1))), (0, .ref ss), (1, .ref rA), (2, .int (iv x2)), (3, .int (iv x3))]) dX7_mostBound_4 (by decide) rfl ?_
  refine r_iconst (pc := 6) (v := iv 0) dX7_mostBound_6 (by decide) ?_
  refine r_istore (pc := 7) (lv' := [(6, .int (iv 0)), (5, .int (iv (-1))), (4, .int (iv (-1))), (0, .ref ss), (1, .ref rA), (2, .int (iv x2)), (3, .int (iv x3))]) dX7_mostBound_7 (by decide) rfl ?_
  have B9 : ∀ k : Nat, ∀ hp9 : MH, Tw Γ hp9 → ∀  (v9_4 : Int) (v9_5 : Int) (v9_6 : Int), (-1) ≤ v9_4 ∧ v9_4 ≤ 15 ∧ (-1) ≤ v9_5 ∧ v9_5 ≤ 2147483647 ∧ 0 ≤ v9_6 ∧ v9_6 ≤ 16 ∧ v9_4 < (rL : Int) → 16 - v9_6 ≤ (k : Int) → Rn (gG D cI cJ cZ cT lo b L xs) mX7_mostBound d 9 [(0, .ref ss), (1, .ref rA), (2, .int (iv x2)), (3, .int (iv x3)), (4, .int (iv v9_4)), (5, .int (iv v9_5)), (6, .int (iv v9_6))] [] hp9 n 0 0 (pI Γ n (fun r => -1 ≤ r ∧ r ≤ 15 ∧ r < (rL : Int))) := by
    refine lpS _ ?_
    intro k9 ih9 hp9 ht9 v9_4 v9_5 v9_6 hf9 hm9
    refine r_iload (pc := 9) dX7_mostBound_9 rfl ?_
    refine r_aload_n (pc := 11) dX7_mostBound_11 (i := 1) rfl rfl ?_
    refine t_lenI (pc := 12) (t0 := 0) ht9 hrA dX7_mostBound_12 rfl ?_
    refine t_icmp_ge (pc := 13) (tgt := 105) dX7_mostBound_13 (by decide) (by omega) (by omega) (fun c13 => ?_) (fun c13 => ?_)
    · refine r_iload (pc := 105) dX7_mostBound_105 rfl ?_
      exact r_iret (pc := 107) dX7_mostBound_107 rfl ⟨rfl, ht9, _, rfl, by omega, by omega, by omega⟩
    · refine r_iload_n (pc := 16) dX7_mostBound_16 (i := 2) rfl rfl ?_
      refine r_iload (pc := 17) dX7_mostBound_17 rfl ?_
      obtain ⟨z1, hz1, bz1⟩ := shr_x x2 v9_6 (by omega) (by omega)
      refine r_ishr (pc := 19) (v := iv z1) dX7_mostBound_19 hz1 ?_
      refine r_iconst (pc := 20) (v := iv 1) dX7_mostBound_20 (by decide) ?_
      obtain ⟨z2, hz2, bz2⟩ := and_2 z1 1 (by omega) (by omega)
      refine r_iand (pc := 21) (v := iv z2) dX7_mostBound_21 hz2 ?_
      have B99 : ∀ hp99 : MH, Tw Γ hp99 → ∀  (v99_4 : Int) (v99_5 : Int), (-1) ≤ v99_4 ∧ v99_4 ≤ 15 ∧ (-1) ≤ v99_5 ∧ v99_5 ≤ 2147483647 ∧ v99_4 < (rL : Int) → Rn (gG D cI cJ cZ cT lo b L xs) mX7_mostBound d 99 [(0, .ref ss), (1, .ref rA), (2, .int (iv x2)), (3, .int (iv x3)), (4, .int (iv v99_4)), (5, .int (iv v99_5)), (6, .int (iv v9_6))] [] hp99 n 0 0 (pI Γ n (fun r => -1 ≤ r ∧ r ≤ 15 ∧ r < (rL : Int))) := by
        intro hp99 ht99 v99_4 v99_5 hf99
        refine r_iinc (pc := 99) (v := iv (v9_6 + 1)) (lv' := [(6, .int (iv (v9_6 + 1))), (0, .ref ss), (1, .ref rA), (2, .int (iv x2)), (3, .int (iv x3)), (4, .int (iv v99_4)), (5, .int (iv v99_5))]) dX7_mostBound_99 rfl (iv_add _ _) (by decide) rfl ?_
        refine r_goto (pc := 102) (tgt := 9) dX7_mostBound_102 (by decide) ?_
        refine Rn.pick (lv' := [(0, .ref ss), (1, .ref rA), (2, .int (iv x2)), (3, .int (iv x3)), (4, .int (iv v99_4)), (5, .int (iv v99_5)), (6, .int (iv (v9_6 + 1)))]) [1, 2, 3, 4, 5, 6, 0] rfl ?_
        exact ih9 (Int.toNat (16 - (v9_6 + 1))) (by omega) _ ht99 v99_4 v99_5 (v9_6 + 1) ⟨by omega, by omega, by omega, by omega, by omega, by omega, by omega⟩ (by omega)
      refine t_if_eq (pc := 22) (tgt := 99) dX7_mostBound_22 (by decide) (by omega) (fun c22 => ?_) (fun c22 => ?_)
      · refine Rn.pick (lv' := [(0, .ref ss), (1, .ref rA), (2, .int (iv x2)), (3, .int (iv x3)), (4, .int (iv v9_4)), (5, .int (iv v9_5)), (6, .int (iv v9_6))]) [0, 1, 2, 3, 4, 5, 6] rfl ?_
        exact B99 _ ht9 v9_4 v9_5 ⟨by omega, by omega, by omega, by omega, by omega⟩
      · refine r_aload_n (pc := 25) dX7_mostBound_25 (i := 1) rfl rfl ?_
        refine r_iload (pc := 26) dX7_mostBound_26 rfl ?_
        refine t_ialdR (pc := 28) (t0 := 0) ht9 hrA dX7_mostBound_28 rfl (by omega) (by omega) (fun y3 by3 => ?_)
        refine r_iload_n (pc := 29) dX7_mostBound_29 (i := 2) rfl rfl ?_
        obtain ⟨z4, hz4, bz4⟩ := and_2 y3 x2 (by omega) (by omega)
        refine r_iand (pc := 30) (v := iv z4) dX7_mostBound_30 hz4 ?_
        refine t_callSR (pc := 31) (as := [.int (iv z4)]) (st := []) kX7_52 dX7_mostBound_31 (t_J6_bitCount_0f7a4 (d := d - 1) (x0 := z4) (by omega)   ht9 (by omega) ) rfl (by omega) (Nat.le_of_ble_eq_true rfl) rfl (fun hp5 y7 ht6 by7 => ?_)
        refine r_istore (pc := 34) (lv' := [(7, .int (iv y7)), (0, .ref ss), (1, .ref rA), (2, .int (iv x2)), (3, .int (iv x3)), (4, .int (iv v9_4)), (5, .int (iv v9_5)), (6, .int (iv v9_6))]) dX7_mostBound_34 (by decide) rfl ?_
        refine r_iconst (pc := 36) (v := iv 0) dX7_mostBound_36 (by decide) ?_
        refine r_istore (pc := 37) (lv' := [(8, .int (iv 0)), (7, .int (iv y7)), (0, .ref ss), (1, .ref rA), (2, .int (iv x2)), (3, .int (iv x3)), (4, .int (iv v9_4)), (5, .int (iv v9_5)), (6, .int (iv v9_6))]) dX7_mostBound_37 (by decide) rfl ?_
        have B39 : ∀ k : Nat, ∀ hp39 : MH, Tw Γ hp39 → ∀  (v39_7 : Int) (v39_8 : Int), (-2147483648) ≤ v39_7 ∧ v39_7 ≤ 2147483647 ∧ 0 ≤ v39_8 ∧ v39_8 ≤ 16 → 16 - v39_8 ≤ (k : Int) → Rn (gG D cI cJ cZ cT lo b L xs) mX7_mostBound d 39 [(0, .ref ss), (1, .ref rA), (2, .int (iv x2)), (3, .int (iv x3)), (4, .int (iv v9_4)), (5, .int (iv v9_5)), (6, .int (iv v9_6)), (7, .int (iv v39_7)), (8, .int (iv v39_8))] [] hp39 n 0 0 (pI Γ n (fun r => -1 ≤ r ∧ r ≤ 15 ∧ r < (rL : Int))) := by
          refine lpS _ ?_
          intro k39 ih39 hp39 ht39 v39_7 v39_8 hf39 hm39
          refine r_iload (pc := 39) dX7_mostBound_39 rfl ?_
          refine r_iload_n (pc := 41) dX7_mostBound_41 (i := 3) rfl rfl ?_
          have B84 : ∀ hp84 : MH, Tw Γ hp84 → True → Rn (gG D cI cJ cZ cT lo b L xs) mX7_mostBound d 84 [(0, .ref ss), (1, .ref rA), (2, .int (iv x2)), (3, .int (iv x3)), (4, .int (iv v9_4)), (5, .int (iv v9_5)), (6, .int (iv v9_6)), (7, .int (iv v39_7))] [] hp84 n 0 0 (pI Γ n (fun r => -1 ≤ r ∧ r ≤ 15 ∧ r < (rL : Int))) := by
            intro hp84 ht84 hf84
            refine r_iload (pc := 84) dX7_mostBound_84 rfl ?_
            refine r_iload (pc := 86) dX7_mostBound_86 rfl ?_
            refine t_icmp_le (pc := 88) (tgt := 99) dX7_mostBound_88 (by decide) (by omega) (by omega) (fun c88 => ?_) (fun c88 => ?_)
            · refine Rn.pick (lv' := [(0, .ref ss), (1, .ref rA), (2, .int (iv x2)), (3, .int (iv x3)), (4, .int (iv v9_4)), (5, .int (iv v9_5)), (6, .int (iv v9_6))]) [0, 1, 2, 3, 4, 5, 6] rfl ?_
              exact B99 _ ht84 v9_4 v9_5 ⟨by omega, by omega, by omega, by omega, by omega⟩
            · refine r_iload (pc := 91) dX7_mostBound_91 rfl ?_
              refine r_istore (pc := 93) (lv' := [(4, .int (iv v9_6)), (0, .ref ss), (1, .ref rA), (2, .int (iv x2)), (3, .int (iv x3)), (5, .int (iv v9_5)), (6, .int (iv v9_6)), (7, .int (iv v39_7))]) dX7_mostBound_93 (by decide) rfl ?_
              refine r_iload (pc := 95) dX7_mostBound_95 rfl ?_
              refine r_istore (pc := 97) (lv' := [(5, .int (iv v39_7)), (4, .int (iv v9_6)), (0, .ref ss), (1, .ref rA), (2, .int (iv x2)), (3, .int (iv x3)), (6, .int (iv v9_6)), (7, .int (iv v39_7))]) dX7_mostBound_97 (by decide) rfl ?_
              refine Rn.pick (lv' := [(0, .ref ss), (1, .ref rA), (2, .int (iv x2)), (3, .int (iv x3)), (4, .int (iv v9_6)), (5, .int (iv v39_7)), (6, .int (iv v9_6))]) [2, 3, 4, 5, 1, 0, 6] rfl ?_
              exact B99 _ ht84 v9_6 v39_7 ⟨by omega, by omega, by omega, by omega, by omega⟩
          refine t_icmp_ge (pc := 42) (tgt := 84) dX7_mostBound_42 (by decide) (by omega) (by omega) (fun c42 => ?_) (fun c42 => ?_)
          · refine Rn.pick (lv' := [(0, .ref ss), (1, .ref rA), (2, .int (iv x2)), (3, .int (iv x3)), (4, .int (iv v9_4)), (5, .int (iv v9_5)), (6, .int (iv v9_6)), (7, .int (iv v39_7))]) [0, 1, 2, 3, 4, 5, 6, 7] rfl ?_
            exact B84 _ ht39 trivial
          · refine r_iload (pc := 45) dX7_mostBound_45 rfl ?_
            refine r_bipush (pc := 47) (v := iv 16) dX7_mostBound_47 (by decide) ?_
            refine t_icmp_ge (pc := 49) (tgt := 84) dX7_mostBound_49 (by decide) (by omega) (by omega) (fun c49 => ?_) (fun c49 => ?_)
            · exfalso
              omega
            · refine r_iload (pc := 52) dX7_mostBound_52 rfl ?_
              refine r_aload_n (pc := 54) dX7_mostBound_54 (i := 0) rfl rfl ?_
              refine t_getE (pc := 55) (.ref (ss + 2)) ht39 (rd_of hs_O) fX7_15 dX7_mostBound_55 rfl ?_
              refine r_iload (pc := 58) dX7_mostBound_58 rfl ?_
              refine t_ialdR (pc := 60) (t0 := 0) ht39 (rd_of hs_classes) dX7_mostBound_60 rfl (by decide) (by omega) (fun y8 by8 => ?_)
              refine r_aload_n (pc := 61) dX7_mostBound_61 (i := 1) rfl rfl ?_
              refine r_iload (pc := 62) dX7_mostBound_62 rfl ?_
              refine t_ialdR (pc := 64) (t0 := 0) ht39 hrA dX7_mostBound_64 rfl (by omega) (by omega) (fun y9 by9 => ?_)
              obtain ⟨z10, hz10, bz10⟩ := and_2 y8 y9 (by omega) (by omega)
              refine r_iand (pc := 65) (v := iv z10) dX7_mostBound_65 hz10 ?_
              have B75 : ∀ hp75 : MH, Tw Γ hp75 → ∀  (u75_1 : Int), 0 ≤ u75_1 ∧ u75_1 ≤ 16 → Rn (gG D cI cJ cZ cT lo b L xs) mX7_mostBound d 75 [(0, .ref ss), (1, .ref rA), (2, .int (iv x2)), (3, .int (iv x3)), (4, .int (iv v9_4)), (5, .int (iv v9_5)), (6, .int (iv v9_6)), (8, .int (iv v39_8))] [.int (iv u75_1), .int (iv v39_7)] hp75 n 0 0 (pI Γ n (fun r => -1 ≤ r ∧ r ≤ 15 ∧ r < (rL : Int))) := by
                intro hp75 ht75 u75_1 hf75
                obtain ⟨z11, hz11, bz11⟩ := any_i (iv v39_7 + iv u75_1)
                refine r_iadd (pc := 75) (v := iv z11) dX7_mostBound_75 hz11 ?_
                refine r_istore (pc := 76) (lv' := [(7, .int (iv z11)), (0, .ref ss), (1, .ref rA), (2, .int (iv x2)), (3, .int (iv x3)), (4, .int (iv v9_4)), (5, .int (iv v9_5)), (6, .int (iv v9_6)), (8, .int (iv v39_8))]) dX7_mostBound_76 (by decide) rfl ?_
                refine r_iinc (pc := 78) (v := iv (v39_8 + 1)) (lv' := [(8, .int (iv (v39_8 + 1))), (7, .int (iv z11)), (0, .ref ss), (1, .ref rA), (2, .int (iv x2)), (3, .int (iv x3)), (4, .int (iv v9_4)), (5, .int (iv v9_5)), (6, .int (iv v9_6))]) dX7_mostBound_78 rfl (iv_add _ _) (by decide) rfl ?_
                refine r_goto (pc := 81) (tgt := 39) dX7_mostBound_81 (by decide) ?_
                refine Rn.pick (lv' := [(0, .ref ss), (1, .ref rA), (2, .int (iv x2)), (3, .int (iv x3)), (4, .int (iv v9_4)), (5, .int (iv v9_5)), (6, .int (iv v9_6)), (7, .int (iv z11)), (8, .int (iv (v39_8 + 1)))]) [2, 3, 4, 5, 6, 7, 8, 1, 0] rfl ?_
                exact ih39 (Int.toNat (16 - (v39_8 + 1))) (by omega) _ ht75 z11 (v39_8 + 1) ⟨by omega, by omega, by omega, by omega⟩ (by omega)
              refine t_if_ne (pc := 66) (tgt := 73) dX7_mostBound_66 (by decide) (by omega) (fun c66 => ?_) (fun c66 => ?_)
              · refine r_bipush (pc := 73) (v := iv 16) dX7_mostBound_73 (by decide) ?_
                refine Rn.pick (lv' := [(0, .ref ss), (1, .ref rA), (2, .int (iv x2)), (3, .int (iv x3)), (4, .int (iv v9_4)), (5, .int (iv v9_5)), (6, .int (iv v9_6)), (8, .int (iv v39_8))]) [0, 1, 2, 3, 4, 5, 6, 8] rfl ?_
                exact B75 _ ht39 16 ⟨by omega, by omega⟩
              · refine r_iconst (pc := 69) (v := iv 0) dX7_mostBound_69 (by decide) ?_
                refine r_goto (pc := 70) (tgt := 75) dX7_mostBound_70 (by decide) ?_
                refine Rn.pick (lv' := [(0, .ref ss), (1, .ref rA), (2, .int (iv x2)), (3, .int (iv x3)), (4, .int (iv v9_4)), (5, .int (iv v9_5)), (6, .int (iv v9_6)), (8, .int (iv v39_8))]) [0, 1, 2, 3, 4, 5, 6, 8] rfl ?_
                exact B75 _ ht39 0 ⟨by omega, by omega⟩
        refine Rn.pick (lv' := [(0, .ref ss), (1, .ref rA), (2, .int (iv x2)), (3, .int (iv x3)), (4, .int (iv v9_4)), (5, .int (iv v9_5)), (6, .int (iv v9_6)), (7, .int (iv y7)), (8, .int (iv 0))]) [2, 3, 4, 5, 6, 7, 8, 1, 0] rfl ?_
        exact B39 (Int.toNat (16 - 0)) _ ht6 y7 0 ⟨by omega, by omega, by omega, by omega⟩ (by omega)
  refine Rn.pick (lv' := [(0, .ref ss), (1, .ref rA), (2, .int (iv x2)), (3, .int (iv x3)), (4, .int (iv (-1))), (5, .int (iv (-1))), (6, .int (iv 0))]) [3, 4, 5, 6, 2, 1, 0] rfl ?_
  exact B9 (Int.toNat (16 - 0)) _ ht (-1) (-1) 0 ⟨by omega, by omega, by omega, by omega, by omega, by omega, by omega⟩ (by omega)
set_option maxHeartbeats 4000000 in
set_option maxRecDepth 100000 in
theorem t_X7_leastDegree {D : va_G} {cI cJ cZ cT : ClassId} {lo b L : Nat} {xs : Nat → Int32} {hp : MH} {n d : Nat} {Γ : TG} {ss : Nat} {x1 : Int} (hd0 : 1 ≤ d) (hs : TySets Γ cI cJ cZ ss) (ht : Tw Γ hp) (hx1 : 0 ≤ x1 ∧ x1 ≤ 65535) : Mt (gG D cI cJ cZ cT lo b L xs) mX7_leastDegree d 0 0 [.ref ss, .int (iv x1)] hp n (pR Γ n 0 15) := by
  obtain ⟨hs_O, hs_strangers, hs_classes, hs_levels, hs_melted, hs_hopeless⟩ := id hs
  refine Mt.of rfl (Nat.le_of_ble_eq_true rfl) ?_
  refine Rn.pick (lv' := [(0, .ref ss), (1, .int (iv x1))]) [0, 1] rfl ?_
  refine r_iconst (pc := 0) (v := iv 0) dX7_leastDegree_0 (by decide) ?_
  refine r_istore_n (pc := 1) (lv' := [(2, .int (iv 0)), (0, .ref ss), (1, .int (iv x1))]) dX7_leastDegree_1 (i := 2) rfl (by decide) rfl ?_
  refine r_bipush (pc := 2) (v := iv 16) dX7_leastDegree_2 (by decide) ?_
  refine r_istore_n (pc := 4) (lv' := [(3, .int (iv 16)), (2, .int (iv 0)), (0, .ref ss), (1, .int (iv x1))]) dX7_leastDegree_4 (i := 3) rfl (by decide) rfl ?_
  refine r_iconst (pc := 5) (v := iv 0) dX7_leastDegree_5 (by decide) ?_
  refine r_istore (pc := 6) (lv' := [(4, .int (iv 0)), (3, .int (iv 16)), (2, .int (iv 0)), (0, .ref ss), (1, .int (iv x1))]) dX7_leastDegree_6 (by decide) rfl ?_
  have B8 : ∀ k : Nat, ∀ hp8 : MH, Tw Γ hp8 → ∀  (v8_2 : Int) (v8_3 : Int) (v8_4 : Int), 0 ≤ v8_2 ∧ v8_2 ≤ 15 ∧ 0 ≤ v8_3 ∧ v8_3 ≤ 16 ∧ 0 ≤ v8_4 ∧ v8_4 ≤ 16 → 16 - v8_4 ≤ (k : Int) → Rn (gG D cI cJ cZ cT lo b L xs) mX7_leastDegree d 8 [(0, .ref ss), (1, .int (iv x1)), (2, .int (iv v8_2)), (3, .int (iv v8_3)), (4, .int (iv v8_4))] [] hp8 n 0 0 (pR Γ n 0 15) := by
    refine lpS _ ?_
    intro k8 ih8 hp8 ht8 v8_2 v8_3 v8_4 hf8 hm8
    refine r_iload (pc := 8) dX7_leastDegree_8 rfl ?_
    refine r_bipush (pc := 10) (v := iv 16) dX7_leastDegree_10 (by decide) ?_
    refine t_icmp_ge (pc := 12) (tgt := 62) dX7_leastDegree_12 (by decide) (by omega) (by omega) (fun c12 => ?_) (fun c12 => ?_)
    · refine r_iload_n (pc := 62) dX7_leastDegree_62 (i := 2) rfl rfl ?_
      exact r_iret (pc := 63) dX7_leastDegree_63 rfl ⟨rfl, ht8, _, rfl, by omega, by omega⟩
    · refine r_iload_n (pc := 15) dX7_leastDegree_15 (i := 1) rfl rfl ?_
      refine r_iload (pc := 16) dX7_leastDegree_16 rfl ?_
      obtain ⟨z1, hz1, bz1⟩ := shr_x x1 v8_4 (by omega) (by omega)
      refine r_ishr (pc := 18) (v := iv z1) dX7_leastDegree_18 hz1 ?_
      refine r_iconst (pc := 19) (v := iv 1) dX7_leastDegree_19 (by decide) ?_
      obtain ⟨z2, hz2, bz2⟩ := and_2 z1 1 (by omega) (by omega)
      refine r_iand (pc := 20) (v := iv z2) dX7_leastDegree_20 hz2 ?_
      have B56 : ∀ hp56 : MH, Tw Γ hp56 → ∀  (v56_2 : Int) (v56_3 : Int), 0 ≤ v56_2 ∧ v56_2 ≤ 15 ∧ 0 ≤ v56_3 ∧ v56_3 ≤ 16 ∧ v56_3 ≤ v8_3 → Rn (gG D cI cJ cZ cT lo b L xs) mX7_leastDegree d 56 [(0, .ref ss), (1, .int (iv x1)), (2, .int (iv v56_2)), (3, .int (iv v56_3)), (4, .int (iv v8_4))] [] hp56 n 0 0 (pR Γ n 0 15) := by
        intro hp56 ht56 v56_2 v56_3 hf56
        refine r_iinc (pc := 56) (v := iv (v8_4 + 1)) (lv' := [(4, .int (iv (v8_4 + 1))), (0, .ref ss), (1, .int (iv x1)), (2, .int (iv v56_2)), (3, .int (iv v56_3))]) dX7_leastDegree_56 rfl (iv_add _ _) (by decide) rfl ?_
        refine r_goto (pc := 59) (tgt := 8) dX7_leastDegree_59 (by decide) ?_
        refine Rn.pick (lv' := [(0, .ref ss), (1, .int (iv x1)), (2, .int (iv v56_2)), (3, .int (iv v56_3)), (4, .int (iv (v8_4 + 1)))]) [1, 2, 3, 4, 0] rfl ?_
        exact ih8 (Int.toNat (16 - (v8_4 + 1))) (by omega) _ ht56 v56_2 v56_3 (v8_4 + 1) ⟨by omega, by omega, by omega, by omega, by omega, by omega⟩ (by omega)
      refine t_if_eq (pc := 21) (tgt := 56) dX7_leastDegree_21 (by decide) (by omega) (fun c21 => ?_) (fun c21 => ?_)
      · refine Rn.pick (lv' := [(0, .ref ss), (1, .int (iv x1)), (2, .int (iv v8_2)), (3, .int (iv v8_3)), (4, .int (iv v8_4))]) [0, 1, 2, 3, 4] rfl ?_
        exact B56 _ ht8 v8_2 v8_3 ⟨by omega, by omega, by omega, by omega, by omega⟩
      · refine r_aload_n (pc := 24) dX7_leastDegree_24 (i := 0) rfl rfl ?_
        refine t_getE (pc := 25) (.ref (ss + 4)) ht8 (rd_of hs_O) fX7_21 dX7_leastDegree_25 rfl ?_
        refine r_iload (pc := 28) dX7_leastDegree_28 rfl ?_
        refine t_ialdR (pc := 30) (t0 := 0) ht8 (rd_of hs_melted) dX7_leastDegree_30 rfl (by decide) (by omega) (fun y3 by3 => ?_)
        refine t_callSR (pc := 31) (as := [.int (iv y3)]) (st := []) kX7_52 dX7_leastDegree_31 (t_J6_bitCount_0f7a4 (d := d - 1) (x0 := y3) (by omega)   ht8 (by omega) ) rfl (by omega) (Nat.le_of_ble_eq_true rfl) rfl (fun hp4 y6 ht5 by6 => ?_)
        refine r_istore (pc := 34) (lv' := [(5, .int (iv y6)), (0, .ref ss), (1, .int (iv x1)), (2, .int (iv v8_2)), (3, .int (iv v8_3)), (4, .int (iv v8_4))]) dX7_leastDegree_34 (by decide) rfl ?_
        refine r_iload (pc := 36) dX7_leastDegree_36 rfl ?_
        refine r_iload_n (pc := 38) dX7_leastDegree_38 (i := 3) rfl rfl ?_
        have B48 : ∀ hp48 : MH, Tw Γ hp48 → ∀  (u48_0 : Int), 0 ≤ u48_0 ∧ u48_0 ≤ 15 → Rn (gG D cI cJ cZ cT lo b L xs) mX7_leastDegree d 48 [(0, .ref ss), (1, .int (iv x1)), (3, .int (iv v8_3)), (4, .int (iv v8_4)), (5, .int (iv y6))] [.int (iv u48_0)] hp48 n 0 0 (pR Γ n 0 15) := by
          intro hp48 ht48 u48_0 hf48
          refine r_istore_n (pc := 48) (lv' := [(2, .int (iv u48_0)), (0, .ref ss), (1, .int (iv x1)), (3, .int (iv v8_3)), (4, .int (iv v8_4)), (5, .int (iv y6))]) dX7_leastDegree_48 (i := 2) rfl (by decide) rfl ?_
          refine r_iload_n (pc := 49) dX7_leastDegree_49 (i := 3) rfl rfl ?_
          refine r_iload (pc := 50) dX7_leastDegree_50 rfl ?_
          obtain ⟨z7, hz7, bz7⟩ := min_b v8_3 y6 (by omega) (by omega)
          refine r_mmin (pc := 52) (v := iv z7) qX7_113 dX7_leastDegree_52 (Nat.le_of_ble_eq_true rfl) hz7 ?_
          refine r_istore_n (pc := 55) (lv' := [(3, .int (iv z7)), (2, .int (iv u48_0)), (0, .ref ss), (1, .int (iv x1)), (4, .int (iv v8_4)), (5, .int (iv y6))]) dX7_leastDegree_55 (i := 3) rfl (by decide) rfl ?_
          refine Rn.pick (lv' := [(0, .ref ss), (1, .int (iv x1)), (2, .int (iv u48_0)), (3, .int (iv z7)), (4, .int (iv v8_4))]) [2, 3, 1, 0, 4] rfl ?_
          exact B56 _ ht48 u48_0 z7 ⟨by omega, by omega, by omega, by omega, by omega⟩
        refine t_icmp_ge (pc := 39) (tgt := 47) dX7_leastDegree_39 (by decide) (by omega) (by omega) (fun c39 => ?_) (fun c39 => ?_)
        · refine r_iload_n (pc := 47) dX7_leastDegree_47 (i := 2) rfl rfl ?_
          refine Rn.pick (lv' := [(0, .ref ss), (1, .int (iv x1)), (3, .int (iv v8_3)), (4, .int (iv v8_4)), (5, .int (iv y6))]) [1, 2, 4, 5, 0] rfl ?_
          exact B48 _ ht5 v8_2 ⟨by omega, by omega⟩
        · refine r_iload (pc := 42) dX7_leastDegree_42 rfl ?_
          refine r_goto (pc := 44) (tgt := 48) dX7_leastDegree_44 (by decide) ?_
          refine Rn.pick (lv' := [(0, .ref ss), (1, .int (iv x1)), (3, .int (iv v8_3)), (4, .int (iv v8_4)), (5, .int (iv y6))]) [1, 2, 4, 5, 0] rfl ?_
          exact B48 _ ht5 v8_4 ⟨by omega, by omega⟩
  refine Rn.pick (lv' := [(0, .ref ss), (1, .int (iv x1)), (2, .int (iv 0)), (3, .int (iv 16)), (4, .int (iv 0))]) [3, 4, 2, 1, 0] rfl ?_
  exact B8 (Int.toNat (16 - 0)) _ ht 0 16 0 ⟨by omega, by omega, by omega, by omega, by omega, by omega⟩ (by omega)
set_option maxHeartbeats 4000000 in
set_option maxRecDepth 100000 in
theorem t_X7_leastShared {D : va_G} {cI cJ cZ cT : ClassId} {lo b L : Nat} {xs : Nat → Int32} {hp : MH} {n d : Nat} {Γ : TG} {ss : Nat} {x1 : Int} (hd0 : 1 ≤ d) (hs : TySets Γ cI cJ cZ ss) (ht : Tw Γ hp) (hx1 : 0 ≤ x1 ∧ x1 ≤ 15) : Mt (gG D cI cJ cZ cT lo b L xs) mX7_leastShared d 0 0 [.ref ss, .int (iv x1)] hp n (pR Γ n (-1) 15) := by
  obtain ⟨hs_O, hs_strangers, hs_classes, hs_levels, hs_melted, hs_hopeless⟩ := id hs
  refine Mt.of rfl (Nat.le_of_ble_eq_true rfl) ?_
  refine Rn.pick (lv' := [(0, .ref ss), (1, .int (iv x1))]) [0, 1] rfl ?_
  refine r_iconst (pc := 0) (v := iv (-1)) dX7_leastShared_0 (by decide) ?_
  refine r_istore_n (pc := 1) (lv' := [(2, .int (iv (-1))), (0, .ref ss), (1, .int (iv x1))]) dX7_leastShared_1 (i := 2) rfl (by decide) rfl ?_
  refine r_bipush (pc := 2) (v := iv 16) dX7_leastShared_2 (by decide) ?_
  refine r_istore_n (pc := 4) (lv' := [(3, .int (iv 16)), (2, .int (iv (-1))), (0, .ref ss), (1, .int (iv x1))]) dX7_leastShared_4 (i := 3) rfl (by decide) rfl ?_
  refine r_iconst (pc := 5) (v := iv 0) dX7_leastShared_5 (by decide) ?_
  refine r_istore (pc := 6) (lv' := [(4, .int (iv 0)), (3, .int (iv 16)), (2, .int (iv (-1))), (0, .ref ss), (1, .int (iv x1))]) dX7_leastShared_6 (by decide) rfl ?_
  have B8 : ∀ k : Nat, ∀ hp8 : MH, Tw Γ hp8 → ∀  (v8_2 : Int) (v8_3 : Int) (v8_4 : Int), (-1) ≤ v8_2 ∧ v8_2 ≤ 15 ∧ 0 ≤ v8_3 ∧ v8_3 ≤ 16 ∧ 0 ≤ v8_4 ∧ v8_4 ≤ 16 → 16 - v8_4 ≤ (k : Int) → Rn (gG D cI cJ cZ cT lo b L xs) mX7_leastShared d 8 [(0, .ref ss), (1, .int (iv x1)), (2, .int (iv v8_2)), (3, .int (iv v8_3)), (4, .int (iv v8_4))] [] hp8 n 0 0 (pR Γ n (-1) 15) := by
    refine lpS _ ?_
    intro k8 ih8 hp8 ht8 v8_2 v8_3 v8_4 hf8 hm8
    refine r_iload (pc := 8) dX7_leastShared_8 rfl ?_
    refine r_bipush (pc := 10) (v := iv 16) dX7_leastShared_10 (by decide) ?_
    refine t_icmp_ge (pc := 12) (tgt := 74) dX7_leastShared_12 (by decide) (by omega) (by omega) (fun c12 => ?_) (fun c12 => ?_)
    · refine r_iload_n (pc := 74) dX7_leastShared_74 (i := 2) rfl rfl ?_
      exact r_iret (pc := 75) dX7_leastShared_75 rfl ⟨rfl, ht8, _, rfl, by omega, by omega⟩
    · refine r_aload_n (pc := 15) dX7_leastShared_15 (i := 0) rfl rfl ?_
      refine t_getE (pc := 16) (.ref (ss + 4)) ht8 (rd_of hs_O) fX7_21 dX7_leastShared_16 rfl ?_
      refine r_iload_n (pc := 19) dX7_leastShared_19 (i := 1) rfl rfl ?_
      refine t_ialdR (pc := 20) (t0 := 0) ht8 (rd_of hs_melted) dX7_leastShared_20 rfl (by decide) (by omega) (fun y1 by1 => ?_)
      refine r_iload (pc := 21) dX7_leastShared_21 rfl ?_
      obtain ⟨z2, hz2, bz2⟩ := shr_x y1 v8_4 (by omega) (by omega)
      refine r_ishr (pc := 23) (v := iv z2) dX7_leastShared_23 hz2 ?_
      refine r_iconst (pc := 24) (v := iv 1) dX7_leastShared_24 (by decide) ?_
      obtain ⟨z3, hz3, bz3⟩ := and_2 z2 1 (by omega) (by omega)
      refine r_iand (pc := 25) (v := iv z3) dX7_leastShared_25 hz3 ?_
      have B68 : ∀ hp68 : MH, Tw Γ hp68 → ∀  (v68_2 : Int) (v68_3 : Int), (-1) ≤ v68_2 ∧ v68_2 ≤ 15 ∧ 0 ≤ v68_3 ∧ v68_3 ≤ 16 ∧ v68_3 ≤ v8_3 → Rn (gG D cI cJ cZ cT lo b L xs) mX7_leastShared d 68 [(0, .ref ss), (1, .int (iv x1)), (2, .int (iv v68_2)), (3, .int (iv v68_3)), (4, .int (iv v8_4))] [] hp68 n 0 0 (pR Γ n (-1) 15) := by
        intro hp68 ht68 v68_2 v68_3 hf68
        refine r_iinc (pc := 68) (v := iv (v8_4 + 1)) (lv' := [(4, .int (iv (v8_4 + 1))), (0, .ref ss), (1, .int (iv x1)), (2, .int (iv v68_2)), (3, .int (iv v68_3))]) dX7_leastShared_68 rfl (iv_add _ _) (by decide) rfl ?_
        refine r_goto (pc := 71) (tgt := 8) dX7_leastShared_71 (by decide) ?_
        refine Rn.pick (lv' := [(0, .ref ss), (1, .int (iv x1)), (2, .int (iv v68_2)), (3, .int (iv v68_3)), (4, .int (iv (v8_4 + 1)))]) [1, 2, 3, 4, 0] rfl ?_
        exact ih8 (Int.toNat (16 - (v8_4 + 1))) (by omega) _ ht68 v68_2 v68_3 (v8_4 + 1) ⟨by omega, by omega, by omega, by omega, by omega, by omega⟩ (by omega)
      refine t_if_eq (pc := 26) (tgt := 68) dX7_leastShared_26 (by decide) (by omega) (fun c26 => ?_) (fun c26 => ?_)
      · refine Rn.pick (lv' := [(0, .ref ss), (1, .int (iv x1)), (2, .int (iv v8_2)), (3, .int (iv v8_3)), (4, .int (iv v8_4))]) [0, 1, 2, 3, 4] rfl ?_
        exact B68 _ ht8 v8_2 v8_3 ⟨by omega, by omega, by omega, by omega, by omega⟩
      · refine r_aload_n (pc := 29) dX7_leastShared_29 (i := 0) rfl rfl ?_
        refine t_getE (pc := 30) (.ref (ss + 4)) ht8 (rd_of hs_O) fX7_21 dX7_leastShared_30 rfl ?_
        refine r_iload (pc := 33) dX7_leastShared_33 rfl ?_
        refine t_ialdR (pc := 35) (t0 := 0) ht8 (rd_of hs_melted) dX7_leastShared_35 rfl (by decide) (by omega) (fun y4 by4 => ?_)
        refine r_aload_n (pc := 36) dX7_leastShared_36 (i := 0) rfl rfl ?_
        refine t_getE (pc := 37) (.ref (ss + 4)) ht8 (rd_of hs_O) fX7_21 dX7_leastShared_37 rfl ?_
        refine r_iload_n (pc := 40) dX7_leastShared_40 (i := 1) rfl rfl ?_
        refine t_ialdR (pc := 41) (t0 := 0) ht8 (rd_of hs_melted) dX7_leastShared_41 rfl (by decide) (by omega) (fun y5 by5 => ?_)
        obtain ⟨z6, hz6, bz6⟩ := and_2 y4 y5 (by omega) (by omega)
        refine r_iand (pc := 42) (v := iv z6) dX7_leastShared_42 hz6 ?_
        refine t_callSR (pc := 43) (as := [.int (iv z6)]) (st := []) kX7_52 dX7_leastShared_43 (t_J6_bitCount_0f7a4 (d := d - 1) (x0 := z6) (by omega)   ht8 (by omega) ) rfl (by omega) (Nat.le_of_ble_eq_true rfl) rfl (fun hp7 y9 ht8 by9 => ?_)
        refine r_istore (pc := 46) (lv' := [(5, .int (iv y9)), (0, .ref ss), (1, .int (iv x1)), (2, .int (iv v8_2)), (3, .int (iv v8_3)), (4, .int (iv v8_4))]) dX7_leastShared_46 (by decide) rfl ?_
        refine r_iload (pc := 48) dX7_leastShared_48 rfl ?_
        refine r_iload_n (pc := 50) dX7_leastShared_50 (i := 3) rfl rfl ?_
        have B60 : ∀ hp60 : MH, Tw Γ hp60 → ∀  (u60_0 : Int), (-1) ≤ u60_0 ∧ u60_0 ≤ 15 → Rn (gG D cI cJ cZ cT lo b L xs) mX7_leastShared d 60 [(0, .ref ss), (1, .int (iv x1)), (3, .int (iv v8_3)), (4, .int (iv v8_4)), (5, .int (iv y9))] [.int (iv u60_0)] hp60 n 0 0 (pR Γ n (-1) 15) := by
          intro hp60 ht60 u60_0 hf60
          refine r_istore_n (pc := 60) (lv' := [(2, .int (iv u60_0)), (0, .ref ss), (1, .int (iv x1)), (3, .int (iv v8_3)), (4, .int (iv v8_4)), (5, .int (iv y9))]) dX7_leastShared_60 (i := 2) rfl (by decide) rfl ?_
          refine r_iload_n (pc := 61) dX7_leastShared_61 (i := 3) rfl rfl ?_
          refine r_iload (pc := 62) dX7_leastShared_62 rfl ?_
          obtain ⟨z10, hz10, bz10⟩ := min_b v8_3 y9 (by omega) (by omega)
          refine r_mmin (pc := 64) (v := iv z10) qX7_113 dX7_leastShared_64 (Nat.le_of_ble_eq_true rfl) hz10 ?_
          refine r_istore_n (pc := 67) (lv' := [(3, .int (iv z10)), (2, .int (iv u60_0)), (0, .ref ss), (1, .int (iv x1)), (4, .int (iv v8_4)), (5, .int (iv y9))]) dX7_leastShared_67 (i := 3) rfl (by decide) rfl ?_
          refine Rn.pick (lv' := [(0, .ref ss), (1, .int (iv x1)), (2, .int (iv u60_0)), (3, .int (iv z10)), (4, .int (iv v8_4))]) [2, 3, 1, 0, 4] rfl ?_
          exact B68 _ ht60 u60_0 z10 ⟨by omega, by omega, by omega, by omega, by omega⟩
        refine t_icmp_ge (pc := 51) (tgt := 59) dX7_leastShared_51 (by decide) (by omega) (by omega) (fun c51 => ?_) (fun c51 => ?_)
        · refine r_iload_n (pc := 59) dX7_leastShared_59 (i := 2) rfl rfl ?_
          refine Rn.pick (lv' := [(0, .ref ss), (1, .int (iv x1)), (3, .int (iv v8_3)), (4, .int (iv v8_4)), (5, .int (iv y9))]) [1, 2, 4, 5, 0] rfl ?_
          exact B60 _ ht8 v8_2 ⟨by omega, by omega⟩
        · refine r_iload (pc := 54) dX7_leastShared_54 rfl ?_
          refine r_goto (pc := 56) (tgt := 60) dX7_leastShared_56 (by decide) ?_
          refine Rn.pick (lv' := [(0, .ref ss), (1, .int (iv x1)), (3, .int (iv v8_3)), (4, .int (iv v8_4)), (5, .int (iv y9))]) [1, 2, 4, 5, 0] rfl ?_
          exact B60 _ ht8 v8_4 ⟨by omega, by omega⟩
  refine Rn.pick (lv' := [(0, .ref ss), (1, .int (iv x1)), (2, .int (iv (-1))), (3, .int (iv 16)), (4, .int (iv 0))]) [3, 4, 2, 1, 0] rfl ?_
  exact B8 (Int.toNat (16 - 0)) _ ht (-1) 16 0 ⟨by omega, by omega, by omega, by omega, by omega, by omega⟩ (by omega)
set_option maxHeartbeats 4000000 in
set_option maxRecDepth 100000 in
theorem t_X7_meltInto {D : va_G} {cI cJ cZ cT : ClassId} {lo b L : Nat} {xs : Nat → Int32} {hp : MH} {n d : Nat} {Γ : TG} {ss : Nat} {x1 x2 : Int} (hd0 : 0 ≤ d) (hs : TySets Γ cI cJ cZ ss) (ht : Tw Γ hp) (hx1 : 0 ≤ x1 ∧ x1 ≤ 15) (hx2 : (-1) ≤ x2 ∧ x2 ≤ 15) : Mt (gG D cI cJ cZ cT lo b L xs) mX7_meltInto d 0 0 [.ref ss, .int (iv x1), .int (iv x2)] hp n (pV Γ n) := by
  obtain ⟨hs_O, hs_strangers, hs_classes, hs_levels, hs_melted, hs_hopeless⟩ := id hs
  refine Mt.of rfl (Nat.le_of_ble_eq_true rfl) ?_
  refine Rn.pick (lv' := [(0, .ref ss), (1, .int (iv x1)), (2, .int (iv x2))]) [0, 1, 2] rfl ?_
  refine r_iload_n (pc := 0) dX7_meltInto_0 (i := 2) rfl rfl ?_
  refine t_if_ge (pc := 1) (tgt := 5) dX7_meltInto_1 (by decide) (by omega) (fun c1 => ?_) (fun c1 => ?_)
  · refine r_aload_n (pc := 5) dX7_meltInto_5 (i := 0) rfl rfl ?_
    refine t_getE (pc := 6) (.ref (ss + 4)) ht (rd_of hs_O) fX7_21 dX7_meltInto_6 rfl ?_
    refine r_iload_n (pc := 9) dX7_meltInto_9 (i := 1) rfl rfl ?_
    refine t_ialdR (pc := 10) (t0 := 0) ht (rd_of hs_melted) dX7_meltInto_10 rfl (by decide) (by omega) (fun y1 by1 => ?_)
    refine r_iconst (pc := 11) (v := iv 1) dX7_meltInto_11 (by decide) ?_
    refine r_iload_n (pc := 12) dX7_meltInto_12 (i := 2) rfl rfl ?_
    obtain ⟨z2, hz2, bz2⟩ := shl_1 0 15 x2 (by omega) (by omega) (by decide)
    refine r_ishl (pc := 13) (v := iv z2) dX7_meltInto_13 hz2 ?_
    refine r_iconst (pc := 14) (v := iv (-1)) dX7_meltInto_14 (by decide) ?_
    refine r_ixor (pc := 15) (v := iv (-z2 - 1)) dX7_meltInto_15 (iv_not _) ?_
    obtain ⟨z3, hz3, bz3⟩ := and_l y1 (-z2 - 1) (by omega) (by omega)
    refine r_iand (pc := 16) (v := iv z3) dX7_meltInto_16 hz3 ?_
    refine r_istore_n (pc := 17) (lv' := [(3, .int (iv z3)), (0, .ref ss), (1, .int (iv x1)), (2, .int (iv x2))]) dX7_meltInto_17 (i := 3) rfl (by decide) rfl ?_
    refine r_aload_n (pc := 18) dX7_meltInto_18 (i := 0) rfl rfl ?_
    refine t_getE (pc := 19) (.ref (ss + 4)) ht (rd_of hs_O) fX7_21 dX7_meltInto_19 rfl ?_
    refine r_iload_n (pc := 22) dX7_meltInto_22 (i := 2) rfl rfl ?_
    refine r_aload_n (pc := 23) dX7_meltInto_23 (i := 0) rfl rfl ?_
    refine t_getE (pc := 24) (.ref (ss + 4)) ht (rd_of hs_O) fX7_21 dX7_meltInto_24 rfl ?_
    refine r_iload_n (pc := 27) dX7_meltInto_27 (i := 2) rfl rfl ?_
    refine t_ialdR (pc := 28) (t0 := 0) ht (rd_of hs_melted) dX7_meltInto_28 rfl (by decide) (by omega) (fun y4 by4 => ?_)
    refine r_iload_n (pc := 29) dX7_meltInto_29 (i := 3) rfl rfl ?_
    obtain ⟨z5, hz5, bz5⟩ := or_2 16 y4 z3 (by omega) (by omega) (by decide)
    refine r_ior (pc := 30) (v := iv z5) dX7_meltInto_30 hz5 ?_
    refine r_iconst (pc := 31) (v := iv 1) dX7_meltInto_31 (by decide) ?_
    refine r_iload_n (pc := 32) dX7_meltInto_32 (i := 1) rfl rfl ?_
    obtain ⟨z6, hz6, bz6⟩ := shl_1 0 15 x1 (by omega) (by omega) (by decide)
    refine r_ishl (pc := 33) (v := iv z6) dX7_meltInto_33 hz6 ?_
    refine r_iconst (pc := 34) (v := iv (-1)) dX7_meltInto_34 (by decide) ?_
    refine r_ixor (pc := 35) (v := iv (-z6 - 1)) dX7_meltInto_35 (iv_not _) ?_
    obtain ⟨z7, hz7, bz7⟩ := and_l z5 (-z6 - 1) (by omega) (by omega)
    refine r_iand (pc := 36) (v := iv z7) dX7_meltInto_36 hz7 ?_
    refine t_iastR (pc := 37) (t0 := 0) ht hs_melted dX7_meltInto_37 rfl (by decide) (by decide) (by omega) (by omega) (fun hp8 ht9 => ?_)
    refine r_iconst (pc := 38) (v := iv 0) dX7_meltInto_38 (by decide) ?_
    refine r_istore (pc := 39) (lv' := [(4, .int (iv 0)), (3, .int (iv z3)), (0, .ref ss), (1, .int (iv x1)), (2, .int (iv x2))]) dX7_meltInto_39 (by decide) rfl ?_
    have B41 : ∀ k : Nat, ∀ hp41 : MH, Tw Γ hp41 → ∀  (v41_4 : Int), 0 ≤ v41_4 ∧ v41_4 ≤ 16 → 16 - v41_4 ≤ (k : Int) → Rn (gG D cI cJ cZ cT lo b L xs) mX7_meltInto d 41 [(0, .ref ss), (1, .int (iv x1)), (2, .int (iv x2)), (3, .int (iv z3)), (4, .int (iv v41_4))] [] hp41 n 0 0 (pV Γ n) := by
      refine lpS _ ?_
      intro k41 ih41 hp41 ht41 v41_4 hf41 hm41
      refine r_iload (pc := 41) dX7_meltInto_41 rfl ?_
      refine r_bipush (pc := 43) (v := iv 16) dX7_meltInto_43 (by decide) ?_
      refine t_icmp_ge (pc := 45) (tgt := 87) dX7_meltInto_45 (by decide) (by omega) (by omega) (fun c45 => ?_) (fun c45 => ?_)
      · exact r_vret (pc := 87) dX7_meltInto_87 rfl ⟨rfl, ht41, rfl⟩
      · refine r_iload_n (pc := 48) dX7_meltInto_48 (i := 3) rfl rfl ?_
        refine r_iload (pc := 49) dX7_meltInto_49 rfl ?_
        obtain ⟨z10, hz10, bz10⟩ := shr_x z3 v41_4 (by omega) (by omega)
        refine r_ishr (pc := 51) (v := iv z10) dX7_meltInto_51 hz10 ?_
        refine r_iconst (pc := 52) (v := iv 1) dX7_meltInto_52 (by decide) ?_
        obtain ⟨z11, hz11, bz11⟩ := and_2 z10 1 (by omega) (by omega)
        refine r_iand (pc := 53) (v := iv z11) dX7_meltInto_53 hz11 ?_
        have B81 : ∀ hp81 : MH, Tw Γ hp81 → True → Rn (gG D cI cJ cZ cT lo b L xs) mX7_meltInto d 81 [(0, .ref ss), (1, .int (iv x1)), (2, .int (iv x2)), (3, .int (iv z3)), (4, .int (iv v41_4))] [] hp81 n 0 0 (pV Γ n) := by
          intro hp81 ht81 hf81
          refine r_iinc (pc := 81) (v := iv (v41_4 + 1)) (lv' := [(4, .int (iv (v41_4 + 1))), (0, .ref ss), (1, .int (iv x1)), (2, .int (iv x2)), (3, .int (iv z3))]) dX7_meltInto_81 rfl (iv_add _ _) (by decide) rfl ?_
          refine r_goto (pc := 84) (tgt := 41) dX7_meltInto_84 (by decide) ?_
          refine Rn.pick (lv' := [(0, .ref ss), (1, .int (iv x1)), (2, .int (iv x2)), (3, .int (iv z3)), (4, .int (iv (v41_4 + 1)))]) [1, 2, 3, 4, 0] rfl ?_
          exact ih41 (Int.toNat (16 - (v41_4 + 1))) (by omega) _ ht81 (v41_4 + 1) ⟨by omega, by omega⟩ (by omega)
        refine t_if_eq (pc := 54) (tgt := 81) dX7_meltInto_54 (by decide) (by omega) (fun c54 => ?_) (fun c54 => ?_)
        · refine Rn.pick (lv' := [(0, .ref ss), (1, .int (iv x1)), (2, .int (iv x2)), (3, .int (iv z3)), (4, .int (iv v41_4))]) [0, 1, 2, 3, 4] rfl ?_
          exact B81 _ ht41 trivial
        · refine r_aload_n (pc := 57) dX7_meltInto_57 (i := 0) rfl rfl ?_
          refine t_getE (pc := 58) (.ref (ss + 4)) ht41 (rd_of hs_O) fX7_21 dX7_meltInto_58 rfl ?_
          refine r_iload (pc := 61) dX7_meltInto_61 rfl ?_
          refine r_aload_n (pc := 63) dX7_meltInto_63 (i := 0) rfl rfl ?_
          refine t_getE (pc := 64) (.ref (ss + 4)) ht41 (rd_of hs_O) fX7_21 dX7_meltInto_64 rfl ?_
          refine r_iload (pc := 67) dX7_meltInto_67 rfl ?_
          refine t_ialdR (pc := 69) (t0 := 0) ht41 (rd_of hs_melted) dX7_meltInto_69 rfl (by decide) (by omega) (fun y12 by12 => ?_)
          refine r_iconst (pc := 70) (v := iv 1) dX7_meltInto_70 (by decide) ?_
          refine r_iload_n (pc := 71) dX7_meltInto_71 (i := 2) rfl rfl ?_
          obtain ⟨z13, hz13, bz13⟩ := shl_1 0 15 x2 (by omega) (by omega) (by decide)
          refine r_ishl (pc := 72) (v := iv z13) dX7_meltInto_72 hz13 ?_
          obtain ⟨z14, hz14, bz14⟩ := or_2 16 y12 z13 (by omega) (by omega) (by decide)
          refine r_ior (pc := 73) (v := iv z14) dX7_meltInto_73 hz14 ?_
          refine r_iconst (pc := 74) (v := iv 1) dX7_meltInto_74 (by decide) ?_
          refine r_iload_n (pc := 75) dX7_meltInto_75 (i := 1) rfl rfl ?_
          obtain ⟨z15, hz15, bz15⟩ := shl_1 0 15 x1 (by omega) (by omega) (by decide)
          refine r_ishl (pc := 76) (v := iv z15) dX7_meltInto_76 hz15 ?_
          refine r_iconst (pc := 77) (v := iv (-1)) dX7_meltInto_77 (by decide) ?_
          refine r_ixor (pc := 78) (v := iv (-z15 - 1)) dX7_meltInto_78 (iv_not _) ?_
          obtain ⟨z16, hz16, bz16⟩ := and_l z14 (-z15 - 1) (by omega) (by omega)
          refine r_iand (pc := 79) (v := iv z16) dX7_meltInto_79 hz16 ?_
          refine t_iastR (pc := 80) (t0 := 0) ht41 hs_melted dX7_meltInto_80 rfl (by decide) (by decide) (by omega) (by omega) (fun hp17 ht18 => ?_)
          refine Rn.pick (lv' := [(0, .ref ss), (1, .int (iv x1)), (2, .int (iv x2)), (3, .int (iv z3)), (4, .int (iv v41_4))]) [0, 1, 2, 3, 4] rfl ?_
          exact B81 _ ht18 trivial
    refine Rn.pick (lv' := [(0, .ref ss), (1, .int (iv x1)), (2, .int (iv x2)), (3, .int (iv z3)), (4, .int (iv 0))]) [2, 3, 4, 1, 0] rfl ?_
    exact B41 (Int.toNat (16 - 0)) _ ht9 0 ⟨by omega, by omega⟩ (by omega)
  · exact r_vret (pc := 4) dX7_meltInto_4 rfl ⟨rfl, ht, rfl⟩
set_option maxHeartbeats 4000000 in
set_option maxRecDepth 100000 in
theorem t_X7_lowWidth {D : va_G} {cI cJ cZ cT : ClassId} {lo b L : Nat} {xs : Nat → Int32} {hp : MH} {n d : Nat} {Γ : TG} {ss : Nat} {ga : Nat} {gF : Nat} {gT : Nat} {gW : Nat} {gC : Nat} {gTl : Nat} {gHd : Nat} {gBy : Nat} {gOu : Nat} {gIn : Nat} {gJo : Nat} {gn : Nat} {gm : Nat} {gq : Nat} {gdr : Int} {x2 : Int} (hd0 : 2 ≤ d) (hs : TySets Γ cI cJ cZ ss) (hg : TyG Γ cI cJ cZ ga gF gT gW gC gTl gHd gBy gOu gIn gJo gn gm gq gdr) (ht : Tw Γ hp) (hx2 : 0 ≤ x2 ∧ x2 ≤ 65535) : Mt (gG D cI cJ cZ cT lo b L xs) mX7_lowWidth d 0 0 [.ref ss, .ref ga, .int (iv x2)] hp n (pR Γ n 0 63) := by
  obtain ⟨hs_O, hs_strangers, hs_classes, hs_levels, hs_melted, hs_hopeless⟩ := id hs
  obtain ⟨hg_O, hg_from, hg_to, hg_weight, hg_cost, hg_tail, hg_head, hg_by, hg_out, hg_in, hg_joined, hg_b⟩ := id hg
  refine Mt.of rfl (Nat.le_of_ble_eq_true rfl) ?_
  refine Rn.pick (lv' := [(0, .ref ss), (1, .ref ga), (2, .int (iv x2))]) [0, 1, 2] rfl ?_
  refine r_aload_n (pc := 0) dX7_lowWidth_0 (i := 1) rfl rfl ?_
  refine t_getE (pc := 1) (.ref gJo) ht hg_O fX7_41 dX7_lowWidth_1 rfl ?_
  refine r_iconst (pc := 4) (v := iv 0) dX7_lowWidth_4 (by decide) ?_
  refine r_aload_n (pc := 5) dX7_lowWidth_5 (i := 0) rfl rfl ?_
  refine t_getE (pc := 6) (.ref (ss + 4)) ht (rd_of hs_O) fX7_21 dX7_lowWidth_6 rfl ?_
  refine r_iconst (pc := 9) (v := iv 0) dX7_lowWidth_9 (by decide) ?_
  refine r_aload_n (pc := 10) dX7_lowWidth_10 (i := 1) rfl rfl ?_
  refine t_getE (pc := 11) (.int (iv (gn : Int))) ht hg_O fX7_44 dX7_lowWidth_11 rfl ?_
  refine t_copyI (pc := 14) (t0 := 0) ht hg_joined hs_melted aX7_90 dX7_lowWidth_14 rfl (by omega) (by omega) (by omega) (Nat.le_of_ble_eq_true rfl) (fun hp1 ht2 => ?_)
  refine r_iload_n (pc := 17) dX7_lowWidth_17 (i := 2) rfl rfl ?_
  refine r_istore_n (pc := 18) (lv' := [(3, .int (iv x2)), (0, .ref ss), (1, .ref ga), (2, .int (iv x2))]) dX7_lowWidth_18 (i := 3) rfl (by decide) rfl ?_
  refine r_iconst (pc := 19) (v := iv 0) dX7_lowWidth_19 (by decide) ?_
  refine r_istore (pc := 20) (lv' := [(4, .int (iv 0)), (3, .int (iv x2)), (0, .ref ss), (1, .ref ga), (2, .int (iv x2))]) dX7_lowWidth_20 (by decide) rfl ?_
  refine r_iconst (pc := 22) (v := iv 0) dX7_lowWidth_22 (by decide) ?_
  refine r_istore (pc := 23) (lv' := [(5, .int (iv 0)), (4, .int (iv 0)), (3, .int (iv x2)), (0, .ref ss), (1, .ref ga), (2, .int (iv x2))]) dX7_lowWidth_23 (by decide) rfl ?_
  have B25 : ∀ k : Nat, ∀ hp25 : MH, Tw Γ hp25 → ∀  (v25_3 : Int) (v25_4 : Int) (v25_5 : Int), 0 ≤ v25_3 ∧ v25_3 ≤ 65535 ∧ v25_3 ≤ x2 ∧ 0 ≤ v25_4 ∧ v25_4 ≤ 63 ∧ 0 ≤ v25_5 ∧ v25_5 ≤ 16 → 16 - v25_5 ≤ (k : Int) → Rn (gG D cI cJ cZ cT lo b L xs) mX7_lowWidth d 25 [(0, .ref ss), (3, .int (iv v25_3)), (4, .int (iv v25_4)), (5, .int (iv v25_5))] [] hp25 n 0 0 (pR Γ n 0 63) := by
    refine lpS _ ?_
    intro k25 ih25 hp25 ht25 v25_3 v25_4 v25_5 hf25 hm25
    refine r_iload (pc := 25) dX7_lowWidth_25 rfl ?_
    refine r_bipush (pc := 27) (v := iv 16) dX7_lowWidth_27 (by decide) ?_
    have B94 : ∀ hp94 : MH, Tw Γ hp94 → True → Rn (gG D cI cJ cZ cT lo b L xs) mX7_lowWidth d 94 [(4, .int (iv v25_4))] [] hp94 n 0 0 (pR Γ n 0 63) := by
      intro hp94 ht94 hf94
      refine r_iload (pc := 94) dX7_lowWidth_94 rfl ?_
      exact r_iret (pc := 96) dX7_lowWidth_96 rfl ⟨rfl, ht94, _, rfl, by omega, by omega⟩
    refine t_icmp_ge (pc := 29) (tgt := 94) dX7_lowWidth_29 (by decide) (by omega) (by omega) (fun c29 => ?_) (fun c29 => ?_)
    · refine Rn.pick (lv' := [(4, .int (iv v25_4))]) [2] rfl ?_
      exact B94 _ ht25 trivial
    · refine r_iload_n (pc := 32) dX7_lowWidth_32 (i := 3) rfl rfl ?_
      refine t_callSR (pc := 33) (as := [.int (iv v25_3)]) (st := []) kX7_52 dX7_lowWidth_33 (t_J6_bitCount_0f7a4 (d := d - 1) (x0 := v25_3) (by omega)   ht25 (by omega) ) rfl (by omega) (Nat.le_of_ble_eq_true rfl) rfl (fun hp3 y5 ht4 by5 => ?_)
      refine r_iload (pc := 36) dX7_lowWidth_36 rfl ?_
      refine r_iconst (pc := 38) (v := iv 1) dX7_lowWidth_38 (by decide) ?_
      refine r_iadd (pc := 39) (v := iv (v25_4 + 1)) dX7_lowWidth_39 (iv_add _ _) ?_
      refine t_icmp_le (pc := 40) (tgt := 94) dX7_lowWidth_40 (by decide) (by omega) (by omega) (fun c40 => ?_) (fun c40 => ?_)
      · refine Rn.pick (lv' := [(4, .int (iv v25_4))]) [2] rfl ?_
        exact B94 _ ht4 trivial
      · refine r_aload_n (pc := 43) dX7_lowWidth_43 (i := 0) rfl rfl ?_
        refine r_iload_n (pc := 44) dX7_lowWidth_44 (i := 3) rfl rfl ?_
        refine t_callVR (pc := 45) (as := [.int (iv v25_3)]) (st := []) ht4 (rd_of hs_O) kX7_103 rfl dX7_lowWidth_45 (t_X7_leastDegree (d := d - 1) (x1 := v25_3) (by omega) hs  ht4 (by omega) ) rfl (by omega) (Nat.le_of_ble_eq_true rfl) rfl (fun hp6 y8 ht7 by8 => ?_)
        refine r_istore (pc := 48) (lv' := [(6, .int (iv y8)), (0, .ref ss), (3, .int (iv v25_3)), (4, .int (iv v25_4)), (5, .int (iv v25_5))]) dX7_lowWidth_48 (by decide) rfl ?_
        refine r_iload (pc := 50) dX7_lowWidth_50 rfl ?_
        refine r_aload_n (pc := 52) dX7_lowWidth_52 (i := 0) rfl rfl ?_
        refine t_getE (pc := 53) (.ref (ss + 4)) ht7 (rd_of hs_O) fX7_21 dX7_lowWidth_53 rfl ?_
        refine r_iload (pc := 56) dX7_lowWidth_56 rfl ?_
        refine t_ialdR (pc := 58) (t0 := 0) ht7 (rd_of hs_melted) dX7_lowWidth_58 rfl (by decide) (by omega) (fun y9 by9 => ?_)
        refine t_callSR (pc := 59) (as := [.int (iv y9)]) (st := [.int (iv v25_4)]) kX7_52 dX7_lowWidth_59 (t_J6_bitCount_0f7a4 (d := d - 1) (x0 := y9) (by omega)   ht7 (by omega) ) rfl (by omega) (Nat.le_of_ble_eq_true rfl) rfl (fun hp10 y12 ht11 by12 => ?_)
        obtain ⟨z13, hz13, bz13⟩ := max_b v25_4 y12 (by omega) (by omega)
        refine r_mmax (pc := 62) (v := iv z13) qX7_58 dX7_lowWidth_62 (Nat.le_of_ble_eq_true rfl) hz13 ?_
        refine r_istore (pc := 65) (lv' := [(4, .int (iv z13)), (6, .int (iv y8)), (0, .ref ss), (3, .int (iv v25_3)), (5, .int (iv v25_5))]) dX7_lowWidth_65 (by decide) rfl ?_
        refine r_iload_n (pc := 67) dX7_lowWidth_67 (i := 3) rfl rfl ?_
        refine r_iconst (pc := 68) (v := iv 1) dX7_lowWidth_68 (by decide) ?_
        refine r_iload (pc := 69) dX7_lowWidth_69 rfl ?_
        obtain ⟨z14, hz14, bz14⟩ := shl_1 0 15 y8 (by omega) (by omega) (by decide)
        refine r_ishl (pc := 71) (v := iv z14) dX7_lowWidth_71 hz14 ?_
        refine r_iconst (pc := 72) (v := iv (-1)) dX7_lowWidth_72 (by decide) ?_
        refine r_ixor (pc := 73) (v := iv (-z14 - 1)) dX7_lowWidth_73 (iv_not _) ?_
        obtain ⟨z15, hz15, bz15⟩ := and_l v25_3 (-z14 - 1) (by omega) (by omega)
        refine r_iand (pc := 74) (v := iv z15) dX7_lowWidth_74 hz15 ?_
        refine r_istore_n (pc := 75) (lv' := [(3, .int (iv z15)), (4, .int (iv z13)), (6, .int (iv y8)), (0, .ref ss), (5, .int (iv v25_5))]) dX7_lowWidth_75 (i := 3) rfl (by decide) rfl ?_
        refine r_aload_n (pc := 76) dX7_lowWidth_76 (i := 0) rfl rfl ?_
        refine r_iload (pc := 77) dX7_lowWidth_77 rfl ?_
        refine r_aload_n (pc := 79) dX7_lowWidth_79 (i := 0) rfl rfl ?_
        refine r_iload (pc := 80) dX7_lowWidth_80 rfl ?_
        refine t_callVR (pc := 82) (as := [.int (iv y8)]) (st := [.int (iv y8), .ref ss]) ht11 (rd_of hs_O) kX7_106 rfl dX7_lowWidth_82 (t_X7_leastShared (d := d - 1) (x1 := y8) (by omega) hs  ht11 (by omega) ) rfl (by omega) (Nat.le_of_ble_eq_true rfl) rfl (fun hp16 y18 ht17 by18 => ?_)
        refine t_callVV (pc := 85) (as := [.int (iv y8), .int (iv y18)]) (st := []) ht17 (rd_of hs_O) kX7_109 rfl dX7_lowWidth_85 (t_X7_meltInto (d := d - 1) (x1 := y8) (x2 := y18) (by omega) hs  ht17 (by omega) (by omega) ) rfl (by omega) (Nat.le_of_ble_eq_true rfl) rfl (fun hp19 ht20 => ?_)
        refine r_iinc (pc := 88) (v := iv (v25_5 + 1)) (lv' := [(5, .int (iv (v25_5 + 1))), (3, .int (iv z15)), (4, .int (iv z13)), (6, .int (iv y8)), (0, .ref ss)]) dX7_lowWidth_88 rfl (iv_add _ _) (by decide) rfl ?_
        refine r_goto (pc := 91) (tgt := 25) dX7_lowWidth_91 (by decide) ?_
        refine Rn.pick (lv' := [(0, .ref ss), (3, .int (iv z15)), (4, .int (iv z13)), (5, .int (iv (v25_5 + 1)))]) [4, 1, 2, 0] rfl ?_
        exact ih25 (Int.toNat (16 - (v25_5 + 1))) (by omega) _ ht20 z15 z13 (v25_5 + 1) ⟨by omega, by omega, by omega, by omega, by omega, by omega, by omega⟩ (by omega)
  refine Rn.pick (lv' := [(0, .ref ss), (3, .int (iv x2)), (4, .int (iv 0)), (5, .int (iv 0))]) [3, 2, 1, 0] rfl ?_
  exact B25 (Int.toNat (16 - 0)) _ ht2 x2 0 0 ⟨by omega, by omega, by omega, by omega, by omega, by omega, by omega⟩ (by omega)
set_option maxHeartbeats 4000000 in
set_option maxRecDepth 100000 in
theorem t_X7_isHopeless {D : va_G} {cI cJ cZ cT : ClassId} {lo b L : Nat} {xs : Nat → Int32} {hp : MH} {n d : Nat} {Γ : TG} {ss : Nat} {x1 : Int} (hd0 : 0 ≤ d) (hs : TySets Γ cI cJ cZ ss) (ht : Tw Γ hp) (hx1 : 0 ≤ x1 ∧ x1 ≤ 65535) : Mt (gG D cI cJ cZ cT lo b L xs) mX7_isHopeless d 0 0 [.ref ss, .int (iv x1)] hp n (pR Γ n 0 1) := by
  obtain ⟨hs_O, hs_strangers, hs_classes, hs_levels, hs_melted, hs_hopeless⟩ := id hs
  refine Mt.of rfl (Nat.le_of_ble_eq_true rfl) ?_
  refine Rn.pick (lv' := [(0, .ref ss), (1, .int (iv x1))]) [0, 1] rfl ?_
  refine r_aload_n (pc := 0) dX7_isHopeless_0 (i := 0) rfl rfl ?_
  refine t_getE (pc := 1) (.ref (ss + 5)) ht (rd_of hs_O) fX7_24 dX7_isHopeless_1 rfl ?_
  refine r_iload_n (pc := 4) dX7_isHopeless_4 (i := 1) rfl rfl ?_
  refine r_iconst (pc := 5) (v := iv 5) dX7_isHopeless_5 (by decide) ?_
  obtain ⟨z1, hz1, bz1⟩ := any_i (((iv x1).toUInt32 >>> ((iv 5).toUInt32 &&& Int32.toUInt32 31)).toInt32)
  refine r_iushr (pc := 6) (v := iv z1) dX7_isHopeless_6 hz1 ?_
  refine r_sipush (pc := 7) (v := iv 2047) dX7_isHopeless_7 (by decide) ?_
  obtain ⟨z2, hz2, bz2⟩ := and_r z1 2047 (by omega) (by omega)
  refine r_iand (pc := 10) (v := iv z2) dX7_isHopeless_10 hz2 ?_
  refine t_iald (pc := 11) (t0 := 0) ht (rd_of hs_hopeless) dX7_isHopeless_11 rfl (by decide) (by omega) (fun y3 by3 _ => ?_)
  refine r_iload_n (pc := 12) dX7_isHopeless_12 (i := 1) rfl rfl ?_
  refine r_bipush (pc := 13) (v := iv 31) dX7_isHopeless_13 (by decide) ?_
  obtain ⟨z4, hz4, bz4⟩ := and_2 x1 31 (by omega) (by omega)
  refine r_iand (pc := 15) (v := iv z4) dX7_isHopeless_15 hz4 ?_
  obtain ⟨z5, hz5, bz5⟩ := any_i (iv y3 >>> (iv z4 &&& 31))
  refine r_ishr (pc := 16) (v := iv z5) dX7_isHopeless_16 hz5 ?_
  refine r_iconst (pc := 17) (v := iv 1) dX7_isHopeless_17 (by decide) ?_
  obtain ⟨z6, hz6, bz6⟩ := and_r z5 1 (by omega) (by omega)
  refine r_iand (pc := 18) (v := iv z6) dX7_isHopeless_18 hz6 ?_
  have B27 : ∀ hp27 : MH, Tw Γ hp27 → ∀  (u27_0 : Int), 0 ≤ u27_0 ∧ u27_0 ≤ 1 → Rn (gG D cI cJ cZ cT lo b L xs) mX7_isHopeless d 27 [] [.int (iv u27_0)] hp27 n 0 0 (pR Γ n 0 1) := by
    intro hp27 ht27 u27_0 hf27
    exact r_zret (pc := 27) dX7_isHopeless_27 rfl (iv_nar (by omega)) ⟨rfl, ht27, _, rfl, by omega, by omega⟩
  refine t_if_eq (pc := 19) (tgt := 26) dX7_isHopeless_19 (by decide) (by omega) (fun c19 => ?_) (fun c19 => ?_)
  · refine r_iconst (pc := 26) (v := iv 0) dX7_isHopeless_26 (by decide) ?_
    refine Rn.pick (lv' := []) [] rfl ?_
    exact B27 _ ht 0 ⟨by omega, by omega⟩
  · refine r_iconst (pc := 22) (v := iv 1) dX7_isHopeless_22 (by decide) ?_
    refine r_goto (pc := 23) (tgt := 27) dX7_isHopeless_23 (by decide) ?_
    refine Rn.pick (lv' := []) [] rfl ?_
    exact B27 _ ht 1 ⟨by omega, by omega⟩
set_option maxHeartbeats 4000000 in
set_option maxRecDepth 100000 in
theorem t_X7_isHarmless {D : va_G} {cI cJ cZ cT : ClassId} {lo b L : Nat} {xs : Nat → Int32} {hp : MH} {n d : Nat} {Γ : TG} {ss : Nat} {x1 x2 : Int} (hd0 : 1 ≤ d) (hs : TySets Γ cI cJ cZ ss) (ht : Tw Γ hp) (hx1 : 0 ≤ x1 ∧ x1 ≤ 15) (hx2 : 0 ≤ x2 ∧ x2 ≤ 15) : Mt (gG D cI cJ cZ cT lo b L xs) mX7_isHarmless d 0 0 [.ref ss, .int (iv x1), .int (iv x2)] hp n (pR Γ n 0 1) := by
  obtain ⟨hs_O, hs_strangers, hs_classes, hs_levels, hs_melted, hs_hopeless⟩ := id hs
  refine Mt.of rfl (Nat.le_of_ble_eq_true rfl) ?_
  refine Rn.pick (lv' := [(0, .ref ss), (1, .int (iv x1)), (2, .int (iv x2))]) [0, 1, 2] rfl ?_
  refine r_iload_n (pc := 0) dX7_isHarmless_0 (i := 2) rfl rfl ?_
  refine r_bipush (pc := 1) (v := iv 16) dX7_isHarmless_1 (by decide) ?_
  refine r_imul (pc := 3) (v := iv (x2 * 16)) dX7_isHarmless_3 (iv_mul _ _) ?_
  refine r_istore_n (pc := 4) (lv' := [(3, .int (iv (x2 * 16))), (0, .ref ss), (1, .int (iv x1)), (2, .int (iv x2))]) dX7_isHarmless_4 (i := 3) rfl (by decide) rfl ?_
  refine r_aload_n (pc := 5) dX7_isHarmless_5 (i := 0) rfl rfl ?_
  refine t_getE (pc := 6) (.ref (ss + 3)) ht (rd_of hs_O) fX7_18 dX7_isHarmless_6 rfl ?_
  refine r_iload_n (pc := 9) dX7_isHarmless_9 (i := 3) rfl rfl ?_
  refine r_iload_n (pc := 10) dX7_isHarmless_10 (i := 1) rfl rfl ?_
  refine r_iadd (pc := 11) (v := iv ((x2 * 16) + x1)) dX7_isHarmless_11 (iv_add _ _) ?_
  refine t_ialdR (pc := 12) (t0 := 0) ht (rd_of hs_levels) dX7_isHarmless_12 rfl (by decide) (by omega) (fun y1 by1 => ?_)
  refine r_istore (pc := 13) (lv' := [(4, .int (iv y1)), (3, .int (iv (x2 * 16))), (0, .ref ss), (1, .int (iv x1)), (2, .int (iv x2))]) dX7_isHarmless_13 (by decide) rfl ?_
  refine r_iconst (pc := 15) (v := iv 0) dX7_isHarmless_15 (by decide) ?_
  refine r_istore (pc := 16) (lv' := [(5, .int (iv 0)), (4, .int (iv y1)), (3, .int (iv (x2 * 16))), (0, .ref ss), (1, .int (iv x1)), (2, .int (iv x2))]) dX7_isHarmless_16 (by decide) rfl ?_
  refine r_iconst (pc := 18) (v := iv 0) dX7_isHarmless_18 (by decide) ?_
  refine r_istore (pc := 19) (lv' := [(6, .int (iv 0)), (5, .int (iv 0)), (4, .int (iv y1)), (3, .int (iv (x2 * 16))), (0, .ref ss), (1, .int (iv x1)), (2, .int (iv x2))]) dX7_isHarmless_19 (by decide) rfl ?_
  refine r_iconst (pc := 21) (v := iv 0) dX7_isHarmless_21 (by decide) ?_
  refine r_istore (pc := 22) (lv' := [(7, .int (iv 0)), (6, .int (iv 0)), (5, .int (iv 0)), (4, .int (iv y1)), (3, .int (iv (x2 * 16))), (0, .ref ss), (1, .int (iv x1)), (2, .int (iv x2))]) dX7_isHarmless_22 (by decide) rfl ?_
  have B24 : ∀ k : Nat, ∀ hp24 : MH, Tw Γ hp24 → ∀  (v24_5 : Int) (v24_6 : Int) (v24_7 : Int), (-2147483648) ≤ v24_5 ∧ v24_5 ≤ 2147483647 ∧ 0 ≤ v24_6 ∧ v24_6 ≤ 62 ∧ 0 ≤ v24_7 ∧ v24_7 ≤ 16 → 16 - v24_7 ≤ (k : Int) → Rn (gG D cI cJ cZ cT lo b L xs) mX7_isHarmless d 24 [(0, .ref ss), (3, .int (iv (x2 * 16))), (4, .int (iv y1)), (5, .int (iv v24_5)), (6, .int (iv v24_6)), (7, .int (iv v24_7))] [] hp24 n 0 0 (pR Γ n 0 1) := by
    refine lpS _ ?_
    intro k24 ih24 hp24 ht24 v24_5 v24_6 v24_7 hf24 hm24
    refine r_iload (pc := 24) dX7_isHarmless_24 rfl ?_
    refine r_bipush (pc := 26) (v := iv 16) dX7_isHarmless_26 (by decide) ?_
    refine t_icmp_ge (pc := 28) (tgt := 84) dX7_isHarmless_28 (by decide) (by omega) (by omega) (fun c28 => ?_) (fun c28 => ?_)
    · refine r_iload (pc := 84) dX7_isHarmless_84 rfl ?_
      refine r_iconst (pc := 86) (v := iv 2) dX7_isHarmless_86 (by decide) ?_
      refine r_iload (pc := 87) dX7_isHarmless_87 rfl ?_
      refine r_imul (pc := 89) (v := iv (2 * v24_6)) dX7_isHarmless_89 (iv_mul _ _) ?_
      have B98 : ∀ hp98 : MH, Tw Γ hp98 → ∀  (u98_0 : Int), 0 ≤ u98_0 ∧ u98_0 ≤ 1 → Rn (gG D cI cJ cZ cT lo b L xs) mX7_isHarmless d 98 [] [.int (iv u98_0)] hp98 n 0 0 (pR Γ n 0 1) := by
        intro hp98 ht98 u98_0 hf98
        exact r_zret (pc := 98) dX7_isHarmless_98 rfl (iv_nar (by omega)) ⟨rfl, ht98, _, rfl, by omega, by omega⟩
      refine t_icmp_ne (pc := 90) (tgt := 97) dX7_isHarmless_90 (by decide) (by omega) (by omega) (fun c90 => ?_) (fun c90 => ?_)
      · refine r_iconst (pc := 97) (v := iv 0) dX7_isHarmless_97 (by decide) ?_
        refine Rn.pick (lv' := []) [] rfl ?_
        exact B98 _ ht24 0 ⟨by omega, by omega⟩
      · refine r_iconst (pc := 93) (v := iv 1) dX7_isHarmless_93 (by decide) ?_
        refine r_goto (pc := 94) (tgt := 98) dX7_isHarmless_94 (by decide) ?_
        refine Rn.pick (lv' := []) [] rfl ?_
        exact B98 _ ht24 1 ⟨by omega, by omega⟩
    · refine r_iload (pc := 31) dX7_isHarmless_31 rfl ?_
      refine r_iload (pc := 33) dX7_isHarmless_33 rfl ?_
      obtain ⟨z2, hz2, bz2⟩ := shr_x y1 v24_7 (by omega) (by omega)
      refine r_ishr (pc := 35) (v := iv z2) dX7_isHarmless_35 hz2 ?_
      refine r_iconst (pc := 36) (v := iv 1) dX7_isHarmless_36 (by decide) ?_
      obtain ⟨z3, hz3, bz3⟩ := and_2 z2 1 (by omega) (by omega)
      refine r_iand (pc := 37) (v := iv z3) dX7_isHarmless_37 hz3 ?_
      have B78 : ∀ hp78 : MH, Tw Γ hp78 → ∀  (v78_5 : Int) (v78_6 : Int), (-2147483648) ≤ v78_5 ∧ v78_5 ≤ 2147483647 ∧ 0 ≤ v78_6 ∧ v78_6 ≤ 62 ∧ v24_6 ≤ v78_6 → Rn (gG D cI cJ cZ cT lo b L xs) mX7_isHarmless d 78 [(0, .ref ss), (3, .int (iv (x2 * 16))), (4, .int (iv y1)), (5, .int (iv v78_5)), (6, .int (iv v78_6)), (7, .int (iv v24_7))] [] hp78 n 0 0 (pR Γ n 0 1) := by
        intro hp78 ht78 v78_5 v78_6 hf78
        refine r_iinc (pc := 78) (v := iv (v24_7 + 1)) (lv' := [(7, .int (iv (v24_7 + 1))), (0, .ref ss), (3, .int (iv (x2 * 16))), (4, .int (iv y1)), (5, .int (iv v78_5)), (6, .int (iv v78_6))]) dX7_isHarmless_78 rfl (iv_add _ _) (by decide) rfl ?_
        refine r_goto (pc := 81) (tgt := 24) dX7_isHarmless_81 (by decide) ?_
        refine Rn.pick (lv' := [(0, .ref ss), (3, .int (iv (x2 * 16))), (4, .int (iv y1)), (5, .int (iv v78_5)), (6, .int (iv v78_6)), (7, .int (iv (v24_7 + 1)))]) [1, 2, 3, 4, 5, 0] rfl ?_
        exact ih24 (Int.toNat (16 - (v24_7 + 1))) (by omega) _ ht78 v78_5 v78_6 (v24_7 + 1) ⟨by omega, by omega, by omega, by omega, by omega, by omega⟩ (by omega)
      refine t_if_eq (pc := 38) (tgt := 78) dX7_isHarmless_38 (by decide) (by omega) (fun c38 => ?_) (fun c38 => ?_)
      · refine Rn.pick (lv' := [(0, .ref ss), (3, .int (iv (x2 * 16))), (4, .int (iv y1)), (5, .int (iv v24_5)), (6, .int (iv v24_6)), (7, .int (iv v24_7))]) [0, 1, 2, 3, 4, 5] rfl ?_
        exact B78 _ ht24 v24_5 v24_6 ⟨by omega, by omega, by omega, by omega, by omega⟩
      · refine r_iload (pc := 41) dX7_isHarmless_41 rfl ?_
        refine r_aload_n (pc := 43) dX7_isHarmless_43 (i := 0) rfl rfl ?_
        refine t_getE (pc := 44) (.ref (ss + 3)) ht24 (rd_of hs_O) fX7_18 dX7_isHarmless_44 rfl ?_
        refine r_iload_n (pc := 47) dX7_isHarmless_47 (i := 3) rfl rfl ?_
        refine r_iload (pc := 48) dX7_isHarmless_48 rfl ?_
        refine r_iadd (pc := 50) (v := iv ((x2 * 16) + v24_7)) dX7_isHarmless_50 (iv_add _ _) ?_
        refine t_ialdR (pc := 51) (t0 := 0) ht24 (rd_of hs_levels) dX7_isHarmless_51 rfl (by decide) (by omega) (fun y4 by4 => ?_)
        refine r_iconst (pc := 52) (v := iv (-1)) dX7_isHarmless_52 (by decide) ?_
        refine r_ixor (pc := 53) (v := iv (-y4 - 1)) dX7_isHarmless_53 (iv_not _) ?_
        obtain ⟨z5, hz5, bz5⟩ := and_l y1 (-y4 - 1) (by omega) (by omega)
        refine r_iand (pc := 54) (v := iv z5) dX7_isHarmless_54 hz5 ?_
        refine t_callSR (pc := 55) (as := [.int (iv z5)]) (st := []) kX7_52 dX7_isHarmless_55 (t_J6_bitCount_0f7a4 (d := d - 1) (x0 := z5) (by omega)   ht24 (by omega) ) rfl (by omega) (Nat.le_of_ble_eq_true rfl) rfl (fun hp6 y8 ht7 by8 => ?_)
        refine r_iconst (pc := 58) (v := iv 1) dX7_isHarmless_58 (by decide) ?_
        refine r_isub (pc := 59) (v := iv (y8 - 1)) dX7_isHarmless_59 (iv_sub _ _) ?_
        refine r_istore (pc := 60) (lv' := [(8, .int (iv (y8 - 1))), (0, .ref ss), (3, .int (iv (x2 * 16))), (4, .int (iv y1)), (5, .int (iv v24_5)), (6, .int (iv v24_6)), (7, .int (iv v24_7))]) dX7_isHarmless_60 (by decide) rfl ?_
        refine r_iload (pc := 62) dX7_isHarmless_62 rfl ?_
        refine r_iload (pc := 64) dX7_isHarmless_64 rfl ?_
        obtain ⟨z9, hz9, bz9⟩ := any_i (iv v24_5 + iv (y8 - 1))
        refine r_iadd (pc := 66) (v := iv z9) dX7_isHarmless_66 hz9 ?_
        refine r_istore (pc := 67) (lv' := [(5, .int (iv z9)), (8, .int (iv (y8 - 1))), (0, .ref ss), (3, .int (iv (x2 * 16))), (4, .int (iv y1)), (6, .int (iv v24_6)), (7, .int (iv v24_7))]) dX7_isHarmless_67 (by decide) rfl ?_
        refine r_iload (pc := 69) dX7_isHarmless_69 rfl ?_
        refine r_iload (pc := 71) dX7_isHarmless_71 rfl ?_
        obtain ⟨z10, hz10, bz10⟩ := max_b v24_6 (y8 - 1) (by omega) (by omega)
        refine r_mmax (pc := 73) (v := iv z10) qX7_58 dX7_isHarmless_73 (Nat.le_of_ble_eq_true rfl) hz10 ?_
        refine r_istore (pc := 76) (lv' := [(6, .int (iv z10)), (5, .int (iv z9)), (8, .int (iv (y8 - 1))), (0, .ref ss), (3, .int (iv (x2 * 16))), (4, .int (iv y1)), (7, .int (iv v24_7))]) dX7_isHarmless_76 (by decide) rfl ?_
        refine Rn.pick (lv' := [(0, .ref ss), (3, .int (iv (x2 * 16))), (4, .int (iv y1)), (5, .int (iv z9)), (6, .int (iv z10)), (7, .int (iv v24_7))]) [3, 4, 5, 1, 0, 6] rfl ?_
        exact B78 _ ht7 z9 z10 ⟨by omega, by omega, by omega, by omega, by omega⟩
  refine Rn.pick (lv' := [(0, .ref ss), (3, .int (iv (x2 * 16))), (4, .int (iv y1)), (5, .int (iv 0)), (6, .int (iv 0)), (7, .int (iv 0))]) [5, 4, 3, 2, 1, 0] rfl ?_
  exact B24 (Int.toNat (16 - 0)) _ ht 0 0 0 ⟨by omega, by omega, by omega, by omega, by omega, by omega⟩ (by omega)
set_option maxHeartbeats 4000000 in
set_option maxRecDepth 100000 in
theorem t_X7_choices {D : va_G} {cI cJ cZ cT : ClassId} {lo b L : Nat} {xs : Nat → Int32} {hp : MH} {n d : Nat} {Γ : TG} {ss : Nat} {x1 x2 x3 x4 : Int} (hd0 : 2 ≤ d) (hs : TySets Γ cI cJ cZ ss) (ht : Tw Γ hp) (hx1 : 0 ≤ x1 ∧ x1 ≤ 65535) (hx2 : 0 ≤ x2 ∧ x2 ≤ 15) (hx3 : 0 ≤ x3 ∧ x3 ≤ 65535) (hx4 : 0 ≤ x4 ∧ x4 ≤ 15) : Mt (gG D cI cJ cZ cT lo b L xs) mX7_choices d 0 0 [.ref ss, .int (iv x1), .int (iv x2), .int (iv x3), .int (iv x4)] hp n (pR Γ n 0 65535) := by
  obtain ⟨hs_O, hs_strangers, hs_classes, hs_levels, hs_melted, hs_hopeless⟩ := id hs
  refine Mt.of rfl (Nat.le_of_ble_eq_true rfl) ?_
  refine Rn.pick (lv' := [(0, .ref ss), (1, .int (iv x1)), (2, .int (iv x2)), (3, .int (iv x3)), (4, .int (iv x4))]) [0, 1, 2, 3, 4] rfl ?_
  refine r_iconst (pc := 0) (v := iv 0) dX7_choices_0 (by decide) ?_
  refine r_istore (pc := 1) (lv' := [(5, .int (iv 0)), (0, .ref ss), (1, .int (iv x1)), (2, .int (iv x2)), (3, .int (iv x3)), (4, .int (iv x4))]) dX7_choices_1 (by decide) rfl ?_
  refine r_iconst (pc := 3) (v := iv 0) dX7_choices_3 (by decide) ?_
  refine r_istore (pc := 4) (lv' := [(6, .int (iv 0)), (5, .int (iv 0)), (0, .ref ss), (1, .int (iv x1)), (2, .int (iv x2)), (3, .int (iv x3)), (4, .int (iv x4))]) dX7_choices_4 (by decide) rfl ?_
  refine r_iconst (pc := 6) (v := iv 0) dX7_choices_6 (by decide) ?_
  refine r_istore (pc := 7) (lv' := [(7, .int (iv 0)), (6, .int (iv 0)), (5, .int (iv 0)), (0, .ref ss), (1, .int (iv x1)), (2, .int (iv x2)), (3, .int (iv x3)), (4, .int (iv x4))]) dX7_choices_7 (by decide) rfl ?_
  have B9 : ∀ k : Nat, ∀ hp9 : MH, Tw Γ hp9 → ∀  (v9_5 : Int) (v9_6 : Int) (v9_7 : Int), 0 ≤ v9_5 ∧ v9_5 ≤ 65535 ∧ (-2147483648) ≤ v9_6 ∧ v9_6 ≤ 2147483647 ∧ 0 ≤ v9_7 ∧ v9_7 ≤ 16 → 16 - v9_7 ≤ (k : Int) → Rn (gG D cI cJ cZ cT lo b L xs) mX7_choices d 9 [(0, .ref ss), (1, .int (iv x1)), (2, .int (iv x2)), (3, .int (iv x3)), (4, .int (iv x4)), (5, .int (iv v9_5)), (6, .int (iv v9_6)), (7, .int (iv v9_7))] [] hp9 n 0 0 (pR Γ n 0 65535) := by
    refine lpS _ ?_
    intro k9 ih9 hp9 ht9 v9_5 v9_6 v9_7 hf9 hm9
    refine r_iload (pc := 9) dX7_choices_9 rfl ?_
    refine r_bipush (pc := 11) (v := iv 16) dX7_choices_11 (by decide) ?_
    refine t_icmp_ge (pc := 13) (tgt := 87) dX7_choices_13 (by decide) (by omega) (by omega) (fun c13 => ?_) (fun c13 => ?_)
    · refine r_iconst (pc := 87) (v := iv 2) dX7_choices_87 (by decide) ?_
      refine r_iload_n (pc := 88) dX7_choices_88 (i := 2) rfl rfl ?_
      refine r_imul (pc := 89) (v := iv (2 * x2)) dX7_choices_89 (iv_mul _ _) ?_
      refine r_iload_n (pc := 90) dX7_choices_90 (i := 1) rfl rfl ?_
      refine t_callSR (pc := 91) (as := [.int (iv x1)]) (st := [.int (iv (2 * x2))]) kX7_52 dX7_choices_91 (t_J6_bitCount_0f7a4 (d := d - 1) (x0 := x1) (by omega)   ht9 (by omega) ) rfl (by omega) (Nat.le_of_ble_eq_true rfl) rfl (fun hp1 y3 ht2 by3 => ?_)
      obtain ⟨z4, hz4, bz4⟩ := any_i (iv (2 * x2) * iv y3)
      refine r_imul (pc := 94) (v := iv z4) dX7_choices_94 hz4 ?_
      refine r_iload_n (pc := 95) dX7_choices_95 (i := 2) rfl rfl ?_
      refine r_iload_n (pc := 96) dX7_choices_96 (i := 2) rfl rfl ?_
      refine r_iconst (pc := 97) (v := iv 1) dX7_choices_97 (by decide) ?_
      refine r_iadd (pc := 98) (v := iv (x2 + 1)) dX7_choices_98 (iv_add _ _) ?_
      obtain ⟨z5, hz5, bz5⟩ := any_i (iv x2 * iv (x2 + 1))
      refine r_imul (pc := 99) (v := iv z5) dX7_choices_99 hz5 ?_
      obtain ⟨z6, hz6, bz6⟩ := any_i (iv z4 - iv z5)
      refine r_isub (pc := 100) (v := iv z6) dX7_choices_100 hz6 ?_
      refine r_istore (pc := 101) (lv' := [(7, .int (iv z6)), (0, .ref ss), (1, .int (iv x1)), (2, .int (iv x2)), (3, .int (iv x3)), (4, .int (iv x4)), (5, .int (iv v9_5)), (6, .int (iv v9_6))]) dX7_choices_101 (by decide) rfl ?_
      refine r_iload (pc := 103) dX7_choices_103 rfl ?_
      refine r_iload (pc := 105) dX7_choices_105 rfl ?_
      have B120 : ∀ hp120 : MH, Tw Γ hp120 → ∀  (u120_0 : Int), 0 ≤ u120_0 ∧ u120_0 ≤ 65535 → Rn (gG D cI cJ cZ cT lo b L xs) mX7_choices d 120 [] [.int (iv u120_0)] hp120 n 0 0 (pR Γ n 0 65535) := by
        intro hp120 ht120 u120_0 hf120
        exact r_iret (pc := 120) dX7_choices_120 rfl ⟨rfl, ht120, _, rfl, by omega, by omega⟩
      refine t_icmp_le (pc := 107) (tgt := 114) dX7_choices_107 (by decide) (by omega) (by omega) (fun c107 => ?_) (fun c107 => ?_)
      · refine r_iload (pc := 114) dX7_choices_114 rfl ?_
        refine r_iload_n (pc := 116) dX7_choices_116 (i := 3) rfl rfl ?_
        refine r_iconst (pc := 117) (v := iv (-1)) dX7_choices_117 (by decide) ?_
        refine r_ixor (pc := 118) (v := iv (-x3 - 1)) dX7_choices_118 (iv_not _) ?_
        obtain ⟨z7, hz7, bz7⟩ := and_l v9_5 (-x3 - 1) (by omega) (by omega)
        refine r_iand (pc := 119) (v := iv z7) dX7_choices_119 hz7 ?_
        refine Rn.pick (lv' := []) [] rfl ?_
        exact B120 _ ht2 z7 ⟨by omega, by omega⟩
      · refine r_iconst (pc := 110) (v := iv 0) dX7_choices_110 (by decide) ?_
        refine r_goto (pc := 111) (tgt := 120) dX7_choices_111 (by decide) ?_
        refine Rn.pick (lv' := []) [] rfl ?_
        exact B120 _ ht2 0 ⟨by omega, by omega⟩
    · refine r_iload_n (pc := 16) dX7_choices_16 (i := 1) rfl rfl ?_
      refine r_iload (pc := 17) dX7_choices_17 rfl ?_
      obtain ⟨z8, hz8, bz8⟩ := shr_x x1 v9_7 (by omega) (by omega)
      refine r_ishr (pc := 19) (v := iv z8) dX7_choices_19 hz8 ?_
      refine r_iconst (pc := 20) (v := iv 1) dX7_choices_20 (by decide) ?_
      obtain ⟨z9, hz9, bz9⟩ := and_2 z8 1 (by omega) (by omega)
      refine r_iand (pc := 21) (v := iv z9) dX7_choices_21 hz9 ?_
      have B81 : ∀ hp81 : MH, Tw Γ hp81 → ∀  (v81_5 : Int) (v81_6 : Int), 0 ≤ v81_5 ∧ v81_5 ≤ 65535 ∧ v9_5 ≤ v81_5 ∧ (-2147483648) ≤ v81_6 ∧ v81_6 ≤ 2147483647 → Rn (gG D cI cJ cZ cT lo b L xs) mX7_choices d 81 [(0, .ref ss), (1, .int (iv x1)), (2, .int (iv x2)), (3, .int (iv x3)), (4, .int (iv x4)), (5, .int (iv v81_5)), (6, .int (iv v81_6)), (7, .int (iv v9_7))] [] hp81 n 0 0 (pR Γ n 0 65535) := by
        intro hp81 ht81 v81_5 v81_6 hf81
        refine r_iinc (pc := 81) (v := iv (v9_7 + 1)) (lv' := [(7, .int (iv (v9_7 + 1))), (0, .ref ss), (1, .int (iv x1)), (2, .int (iv x2)), (3, .int (iv x3)), (4, .int (iv x4)), (5, .int (iv v81_5)), (6, .int (iv v81_6))]) dX7_choices_81 rfl (iv_add _ _) (by decide) rfl ?_
        refine r_goto (pc := 84) (tgt := 9) dX7_choices_84 (by decide) ?_
        refine Rn.pick (lv' := [(0, .ref ss), (1, .int (iv x1)), (2, .int (iv x2)), (3, .int (iv x3)), (4, .int (iv x4)), (5, .int (iv v81_5)), (6, .int (iv v81_6)), (7, .int (iv (v9_7 + 1)))]) [1, 2, 3, 4, 5, 6, 7, 0] rfl ?_
        exact ih9 (Int.toNat (16 - (v9_7 + 1))) (by omega) _ ht81 v81_5 v81_6 (v9_7 + 1) ⟨by omega, by omega, by omega, by omega, by omega, by omega⟩ (by omega)
      refine t_if_eq (pc := 22) (tgt := 81) dX7_choices_22 (by decide) (by omega) (fun c22 => ?_) (fun c22 => ?_)
      · refine Rn.pick (lv' := [(0, .ref ss), (1, .int (iv x1)), (2, .int (iv x2)), (3, .int (iv x3)), (4, .int (iv x4)), (5, .int (iv v9_5)), (6, .int (iv v9_6)), (7, .int (iv v9_7))]) [0, 1, 2, 3, 4, 5, 6, 7] rfl ?_
        exact B81 _ ht9 v9_5 v9_6 ⟨by omega, by omega, by omega, by omega, by omega⟩
      · refine r_aload_n (pc := 25) dX7_choices_25 (i := 0) rfl rfl ?_
        refine t_getE (pc := 26) (.ref (ss + 3)) ht9 (rd_of hs_O) fX7_18 dX7_choices_26 rfl ?_
        refine r_iload (pc := 29) dX7_choices_29 rfl ?_
        refine r_bipush (pc := 31) (v := iv 16) dX7_choices_31 (by decide) ?_
        refine r_imul (pc := 33) (v := iv (x4 * 16)) dX7_choices_33 (iv_mul _ _) ?_
        refine r_iload (pc := 34) dX7_choices_34 rfl ?_
        refine r_iadd (pc := 36) (v := iv ((x4 * 16) + v9_7)) dX7_choices_36 (iv_add _ _) ?_
        refine t_ialdR (pc := 37) (t0 := 0) ht9 (rd_of hs_levels) dX7_choices_37 rfl (by decide) (by omega) (fun y10 by10 => ?_)
        refine t_callSR (pc := 38) (as := [.int (iv y10)]) (st := []) kX7_52 dX7_choices_38 (t_J6_bitCount_0f7a4 (d := d - 1) (x0 := y10) (by omega)   ht9 (by omega) ) rfl (by omega) (Nat.le_of_ble_eq_true rfl) rfl (fun hp11 y13 ht12 by13 => ?_)
        refine r_istore (pc := 41) (lv' := [(8, .int (iv y13)), (0, .ref ss), (1, .int (iv x1)), (2, .int (iv x2)), (3, .int (iv x3)), (4, .int (iv x4)), (5, .int (iv v9_5)), (6, .int (iv v9_6)), (7, .int (iv v9_7))]) dX7_choices_41 (by decide) rfl ?_
        refine r_iload (pc := 43) dX7_choices_43 rfl ?_
        refine r_iload (pc := 45) dX7_choices_45 rfl ?_
        obtain ⟨z14, hz14, bz14⟩ := any_i (iv v9_6 + iv y13)
        refine r_iadd (pc := 47) (v := iv z14) dX7_choices_47 hz14 ?_
        refine r_istore (pc := 48) (lv' := [(6, .int (iv z14)), (8, .int (iv y13)), (0, .ref ss), (1, .int (iv x1)), (2, .int (iv x2)), (3, .int (iv x3)), (4, .int (iv x4)), (5, .int (iv v9_5)), (7, .int (iv v9_7))]) dX7_choices_48 (by decide) rfl ?_
        refine r_iload (pc := 50) dX7_choices_50 rfl ?_
        refine r_iload_n (pc := 52) dX7_choices_52 (i := 2) rfl rfl ?_
        refine t_icmp_gt (pc := 53) (tgt := 81) dX7_choices_53 (by decide) (by omega) (by omega) (fun c53 => ?_) (fun c53 => ?_)
        · refine Rn.pick (lv' := [(0, .ref ss), (1, .int (iv x1)), (2, .int (iv x2)), (3, .int (iv x3)), (4, .int (iv x4)), (5, .int (iv v9_5)), (6, .int (iv z14)), (7, .int (iv v9_7))]) [2, 3, 4, 5, 6, 7, 0, 8] rfl ?_
          exact B81 _ ht12 v9_5 z14 ⟨by omega, by omega, by omega, by omega, by omega⟩
        · refine r_aload_n (pc := 56) dX7_choices_56 (i := 0) rfl rfl ?_
          refine r_iload (pc := 57) dX7_choices_57 rfl ?_
          refine r_iload (pc := 59) dX7_choices_59 rfl ?_
          refine t_callVR (pc := 61) (as := [.int (iv v9_7), .int (iv x4)]) (st := []) ht12 (rd_of hs_O) kX7_128 rfl dX7_choices_61 (t_X7_isHarmless (d := d - 1) (x1 := v9_7) (x2 := x4) (by omega) hs  ht12 (by omega) (by omega) ) rfl (by omega) (Nat.le_of_ble_eq_true rfl) rfl (fun hp15 y17 ht16 by17 => ?_)
          refine t_if_eq (pc := 64) (tgt := 72) dX7_choices_64 (by decide) (by omega) (fun c64 => ?_) (fun c64 => ?_)
          · refine r_iload (pc := 72) dX7_choices_72 rfl ?_
            refine r_iconst (pc := 74) (v := iv 1) dX7_choices_74 (by decide) ?_
            refine r_iload (pc := 75) dX7_choices_75 rfl ?_
            obtain ⟨z18, hz18, bz18⟩ := shl_1 0 15 v9_7 (by omega) (by omega) (by decide)
            refine r_ishl (pc := 77) (v := iv z18) dX7_choices_77 hz18 ?_
            obtain ⟨z19, hz19, bz19⟩ := or_2 16 v9_5 z18 (by omega) (by omega) (by decide)
            refine r_ior (pc := 78) (v := iv z19) dX7_choices_78 hz19 ?_
            refine r_istore (pc := 79) (lv' := [(5, .int (iv z19)), (6, .int (iv z14)), (8, .int (iv y13)), (0, .ref ss), (1, .int (iv x1)), (2, .int (iv x2)), (3, .int (iv x3)), (4, .int (iv x4)), (7, .int (iv v9_7))]) dX7_choices_79 (by decide) rfl ?_
            refine Rn.pick (lv' := [(0, .ref ss), (1, .int (iv x1)), (2, .int (iv x2)), (3, .int (iv x3)), (4, .int (iv x4)), (5, .int (iv z19)), (6, .int (iv z14)), (7, .int (iv v9_7))]) [3, 4, 5, 6, 7, 0, 1, 8] rfl ?_
            exact B81 _ ht16 z19 z14 ⟨by omega, by omega, by omega, by omega, by omega⟩
          · refine r_iconst (pc := 67) (v := iv 1) dX7_choices_67 (by decide) ?_
            refine r_iload (pc := 68) dX7_choices_68 rfl ?_
            obtain ⟨z20, hz20, bz20⟩ := shl_1 0 15 v9_7 (by omega) (by omega) (by decide)
            refine r_ishl (pc := 70) (v := iv z20) dX7_choices_70 hz20 ?_
            exact r_iret (pc := 71) dX7_choices_71 rfl ⟨rfl, ht16, _, rfl, by omega, by omega⟩
  refine Rn.pick (lv' := [(0, .ref ss), (1, .int (iv x1)), (2, .int (iv x2)), (3, .int (iv x3)), (4, .int (iv x4)), (5, .int (iv 0)), (6, .int (iv 0)), (7, .int (iv 0))]) [3, 4, 5, 6, 7, 2, 1, 0] rfl ?_
  exact B9 (Int.toNat (16 - 0)) _ ht 0 0 0 ⟨by omega, by omega, by omega, by omega, by omega, by omega⟩ (by omega)
set_option maxHeartbeats 4000000 in
set_option maxRecDepth 100000 in
theorem t_X7_takeOut {D : va_G} {cI cJ cZ cT : ClassId} {lo b L : Nat} {xs : Nat → Int32} {hp : MH} {n d : Nat} {Γ : TG} {ss : Nat} {x1 x2 x3 : Int} (hd0 : 0 ≤ d) (hs : TySets Γ cI cJ cZ ss) (ht : Tw Γ hp) (hx1 : 0 ≤ x1 ∧ x1 ≤ 15) (hx2 : 0 ≤ x2 ∧ x2 ≤ 65535) (hx3 : 0 ≤ x3 ∧ x3 ≤ 15) : Mt (gG D cI cJ cZ cT lo b L xs) mX7_takeOut d 0 0 [.ref ss, .int (iv x1), .int (iv x2), .int (iv x3)] hp n (pV Γ n) := by
  obtain ⟨hs_O, hs_strangers, hs_classes, hs_levels, hs_melted, hs_hopeless⟩ := id hs
  refine Mt.of rfl (Nat.le_of_ble_eq_true rfl) ?_
  refine Rn.pick (lv' := [(0, .ref ss), (1, .int (iv x1)), (2, .int (iv x2)), (3, .int (iv x3))]) [0, 1, 2, 3] rfl ?_
  refine r_iload_n (pc := 0) dX7_takeOut_0 (i := 3) rfl rfl ?_
  refine r_bipush (pc := 1) (v := iv 16) dX7_takeOut_1 (by decide) ?_
  refine r_imul (pc := 3) (v := iv (x3 * 16)) dX7_takeOut_3 (iv_mul _ _) ?_
  refine r_istore (pc := 4) (lv' := [(4, .int (iv (x3 * 16))), (0, .ref ss), (1, .int (iv x1)), (2, .int (iv x2)), (3, .int (iv x3))]) dX7_takeOut_4 (by decide) rfl ?_
  refine r_iload (pc := 6) dX7_takeOut_6 rfl ?_
  refine r_bipush (pc := 8) (v := iv 16) dX7_takeOut_8 (by decide) ?_
  refine r_iadd (pc := 10) (v := iv ((x3 * 16) + 16)) dX7_takeOut_10 (iv_add _ _) ?_
  refine r_istore (pc := 11) (lv' := [(5, .int (iv ((x3 * 16) + 16))), (4, .int (iv (x3 * 16))), (0, .ref ss), (1, .int (iv x1)), (2, .int (iv x2)), (3, .int (iv x3))]) dX7_takeOut_11 (by decide) rfl ?_
  refine r_aload_n (pc := 13) dX7_takeOut_13 (i := 0) rfl rfl ?_
  refine t_getE (pc := 14) (.ref (ss + 3)) ht (rd_of hs_O) fX7_18 dX7_takeOut_14 rfl ?_
  refine r_iload (pc := 17) dX7_takeOut_17 rfl ?_
  refine r_iload_n (pc := 19) dX7_takeOut_19 (i := 1) rfl rfl ?_
  refine r_iadd (pc := 20) (v := iv ((x3 * 16) + x1)) dX7_takeOut_20 (iv_add _ _) ?_
  refine t_ialdR (pc := 21) (t0 := 0) ht (rd_of hs_levels) dX7_takeOut_21 rfl (by decide) (by omega) (fun y1 by1 => ?_)
  refine r_istore (pc := 22) (lv' := [(6, .int (iv y1)), (5, .int (iv ((x3 * 16) + 16))), (4, .int (iv (x3 * 16))), (0, .ref ss), (1, .int (iv x1)), (2, .int (iv x2)), (3, .int (iv x3))]) dX7_takeOut_22 (by decide) rfl ?_
  refine r_iconst (pc := 24) (v := iv 0) dX7_takeOut_24 (by decide) ?_
  refine r_istore (pc := 25) (lv' := [(7, .int (iv 0)), (6, .int (iv y1)), (5, .int (iv ((x3 * 16) + 16))), (4, .int (iv (x3 * 16))), (0, .ref ss), (1, .int (iv x1)), (2, .int (iv x2)), (3, .int (iv x3))]) dX7_takeOut_25 (by decide) rfl ?_
  have B27 : ∀ k : Nat, ∀ hp27 : MH, Tw Γ hp27 → ∀  (v27_7 : Int), 0 ≤ v27_7 ∧ v27_7 ≤ 16 → 16 - v27_7 ≤ (k : Int) → Rn (gG D cI cJ cZ cT lo b L xs) mX7_takeOut d 27 [(0, .ref ss), (1, .int (iv x1)), (2, .int (iv x2)), (4, .int (iv (x3 * 16))), (5, .int (iv ((x3 * 16) + 16))), (6, .int (iv y1)), (7, .int (iv v27_7))] [] hp27 n 0 0 (pV Γ n) := by
    refine lpS _ ?_
    intro k27 ih27 hp27 ht27 v27_7 hf27 hm27
    refine r_iload (pc := 27) dX7_takeOut_27 rfl ?_
    refine r_bipush (pc := 29) (v := iv 16) dX7_takeOut_29 (by decide) ?_
    refine t_icmp_ge (pc := 31) (tgt := 120) dX7_takeOut_31 (by decide) (by omega) (by omega) (fun c31 => ?_) (fun c31 => ?_)
    · exact r_vret (pc := 120) dX7_takeOut_120 rfl ⟨rfl, ht27, rfl⟩
    · refine r_iload_n (pc := 34) dX7_takeOut_34 (i := 2) rfl rfl ?_
      refine r_iload (pc := 35) dX7_takeOut_35 rfl ?_
      obtain ⟨z2, hz2, bz2⟩ := shr_x x2 v27_7 (by omega) (by omega)
      refine r_ishr (pc := 37) (v := iv z2) dX7_takeOut_37 hz2 ?_
      refine r_iconst (pc := 38) (v := iv 1) dX7_takeOut_38 (by decide) ?_
      obtain ⟨z3, hz3, bz3⟩ := and_2 z2 1 (by omega) (by omega)
      refine r_iand (pc := 39) (v := iv z3) dX7_takeOut_39 hz3 ?_
      have B114 : ∀ hp114 : MH, Tw Γ hp114 → True → Rn (gG D cI cJ cZ cT lo b L xs) mX7_takeOut d 114 [(0, .ref ss), (1, .int (iv x1)), (2, .int (iv x2)), (4, .int (iv (x3 * 16))), (5, .int (iv ((x3 * 16) + 16))), (6, .int (iv y1)), (7, .int (iv v27_7))] [] hp114 n 0 0 (pV Γ n) := by
        intro hp114 ht114 hf114
        refine r_iinc (pc := 114) (v := iv (v27_7 + 1)) (lv' := [(7, .int (iv (v27_7 + 1))), (0, .ref ss), (1, .int (iv x1)), (2, .int (iv x2)), (4, .int (iv (x3 * 16))), (5, .int (iv ((x3 * 16) + 16))), (6, .int (iv y1))]) dX7_takeOut_114 rfl (iv_add _ _) (by decide) rfl ?_
        refine r_goto (pc := 117) (tgt := 27) dX7_takeOut_117 (by decide) ?_
        refine Rn.pick (lv' := [(0, .ref ss), (1, .int (iv x1)), (2, .int (iv x2)), (4, .int (iv (x3 * 16))), (5, .int (iv ((x3 * 16) + 16))), (6, .int (iv y1)), (7, .int (iv (v27_7 + 1)))]) [1, 2, 3, 4, 5, 6, 0] rfl ?_
        exact ih27 (Int.toNat (16 - (v27_7 + 1))) (by omega) _ ht114 (v27_7 + 1) ⟨by omega, by omega⟩ (by omega)
      refine t_if_eq (pc := 40) (tgt := 114) dX7_takeOut_40 (by decide) (by omega) (fun c40 => ?_) (fun c40 => ?_)
      · refine Rn.pick (lv' := [(0, .ref ss), (1, .int (iv x1)), (2, .int (iv x2)), (4, .int (iv (x3 * 16))), (5, .int (iv ((x3 * 16) + 16))), (6, .int (iv y1)), (7, .int (iv v27_7))]) [0, 1, 2, 3, 4, 5, 6] rfl ?_
        exact B114 _ ht27 trivial
      · refine r_iload (pc := 43) dX7_takeOut_43 rfl ?_
        refine r_iload (pc := 45) dX7_takeOut_45 rfl ?_
        obtain ⟨z4, hz4, bz4⟩ := shr_x y1 v27_7 (by omega) (by omega)
        refine r_ishr (pc := 47) (v := iv z4) dX7_takeOut_47 hz4 ?_
        refine r_iconst (pc := 48) (v := iv 1) dX7_takeOut_48 (by decide) ?_
        obtain ⟨z5, hz5, bz5⟩ := and_2 z4 1 (by omega) (by omega)
        refine r_iand (pc := 49) (v := iv z5) dX7_takeOut_49 hz5 ?_
        have B58 : ∀ hp58 : MH, Tw Γ hp58 → ∀  (u58_0 : Int), 0 ≤ u58_0 ∧ u58_0 ≤ 1 → Rn (gG D cI cJ cZ cT lo b L xs) mX7_takeOut d 58 [(0, .ref ss), (1, .int (iv x1)), (2, .int (iv x2)), (4, .int (iv (x3 * 16))), (5, .int (iv ((x3 * 16) + 16))), (6, .int (iv y1)), (7, .int (iv v27_7))] [.int (iv u58_0)] hp58 n 0 0 (pV Γ n) := by
          intro hp58 ht58 u58_0 hf58
          refine r_istore (pc := 58) (lv' := [(8, .int (iv u58_0)), (0, .ref ss), (1, .int (iv x1)), (2, .int (iv x2)), (4, .int (iv (x3 * 16))), (5, .int (iv ((x3 * 16) + 16))), (6, .int (iv y1)), (7, .int (iv v27_7))]) dX7_takeOut_58 (by decide) rfl ?_
          refine r_aload_n (pc := 60) dX7_takeOut_60 (i := 0) rfl rfl ?_
          refine t_getE (pc := 61) (.ref (ss + 3)) ht58 (rd_of hs_O) fX7_18 dX7_takeOut_61 rfl ?_
          refine r_iload (pc := 64) dX7_takeOut_64 rfl ?_
          refine r_iload (pc := 66) dX7_takeOut_66 rfl ?_
          refine r_iadd (pc := 68) (v := iv (((x3 * 16) + 16) + v27_7)) dX7_takeOut_68 (iv_add _ _) ?_
          refine r_iload (pc := 69) dX7_takeOut_69 rfl ?_
          have B113 : ∀ hp113 : MH, Tw Γ hp113 → ∀  (u113_2 : Int), 0 ≤ u113_2 ∧ u113_2 ≤ 65535 → Rn (gG D cI cJ cZ cT lo b L xs) mX7_takeOut d 113 [(0, .ref ss), (1, .int (iv x1)), (2, .int (iv x2)), (4, .int (iv (x3 * 16))), (5, .int (iv ((x3 * 16) + 16))), (6, .int (iv y1)), (7, .int (iv v27_7))] [.int (iv u113_2), .int (iv (((x3 * 16) + 16) + v27_7)), .ref (ss + 3)] hp113 n 0 0 (pV Γ n) := by
            intro hp113 ht113 u113_2 hf113
            refine t_iastR (pc := 113) (t0 := 0) ht113 hs_levels dX7_takeOut_113 rfl (by decide) (by decide) (by omega) (by omega) (fun hp6 ht7 => ?_)
            refine Rn.pick (lv' := [(0, .ref ss), (1, .int (iv x1)), (2, .int (iv x2)), (4, .int (iv (x3 * 16))), (5, .int (iv ((x3 * 16) + 16))), (6, .int (iv y1)), (7, .int (iv v27_7))]) [0, 1, 2, 3, 4, 5, 6] rfl ?_
            exact B114 _ ht7 trivial
          refine t_if_eq (pc := 71) (tgt := 103) dX7_takeOut_71 (by decide) (by omega) (fun c71 => ?_) (fun c71 => ?_)
          · refine r_aload_n (pc := 103) dX7_takeOut_103 (i := 0) rfl rfl ?_
            refine t_getE (pc := 104) (.ref (ss + 3)) ht58 (rd_of hs_O) fX7_18 dX7_takeOut_104 rfl ?_
            refine r_iload (pc := 107) dX7_takeOut_107 rfl ?_
            refine r_iload (pc := 109) dX7_takeOut_109 rfl ?_
            refine r_iadd (pc := 111) (v := iv ((x3 * 16) + v27_7)) dX7_takeOut_111 (iv_add _ _) ?_
            refine t_ialdR (pc := 112) (t0 := 0) ht58 (rd_of hs_levels) dX7_takeOut_112 rfl (by decide) (by omega) (fun y8 by8 => ?_)
            refine Rn.pick (lv' := [(0, .ref ss), (1, .int (iv x1)), (2, .int (iv x2)), (4, .int (iv (x3 * 16))), (5, .int (iv ((x3 * 16) + 16))), (6, .int (iv y1)), (7, .int (iv v27_7))]) [1, 2, 3, 4, 5, 6, 7] rfl ?_
            exact B113 _ ht58 y8 ⟨by omega, by omega⟩
          · refine r_aload_n (pc := 74) dX7_takeOut_74 (i := 0) rfl rfl ?_
            refine t_getE (pc := 75) (.ref (ss + 3)) ht58 (rd_of hs_O) fX7_18 dX7_takeOut_75 rfl ?_
            refine r_iload (pc := 78) dX7_takeOut_78 rfl ?_
            refine r_iload (pc := 80) dX7_takeOut_80 rfl ?_
            refine r_iadd (pc := 82) (v := iv ((x3 * 16) + v27_7)) dX7_takeOut_82 (iv_add _ _) ?_
            refine t_ialdR (pc := 83) (t0 := 0) ht58 (rd_of hs_levels) dX7_takeOut_83 rfl (by decide) (by omega) (fun y9 by9 => ?_)
            refine r_iload (pc := 84) dX7_takeOut_84 rfl ?_
            obtain ⟨z10, hz10, bz10⟩ := or_2 16 y9 y1 (by omega) (by omega) (by decide)
            refine r_ior (pc := 86) (v := iv z10) dX7_takeOut_86 hz10 ?_
            refine r_iconst (pc := 87) (v := iv 1) dX7_takeOut_87 (by decide) ?_
            refine r_iload (pc := 88) dX7_takeOut_88 rfl ?_
            obtain ⟨z11, hz11, bz11⟩ := shl_1 0 15 v27_7 (by omega) (by omega) (by decide)
            refine r_ishl (pc := 90) (v := iv z11) dX7_takeOut_90 hz11 ?_
            refine r_iconst (pc := 91) (v := iv (-1)) dX7_takeOut_91 (by decide) ?_
            refine r_ixor (pc := 92) (v := iv (-z11 - 1)) dX7_takeOut_92 (iv_not _) ?_
            obtain ⟨z12, hz12, bz12⟩ := and_l z10 (-z11 - 1) (by omega) (by omega)
            refine r_iand (pc := 93) (v := iv z12) dX7_takeOut_93 hz12 ?_
            refine r_iconst (pc := 94) (v := iv 1) dX7_takeOut_94 (by decide) ?_
            refine r_iload_n (pc := 95) dX7_takeOut_95 (i := 1) rfl rfl ?_
            obtain ⟨z13, hz13, bz13⟩ := shl_1 0 15 x1 (by omega) (by omega) (by decide)
            refine r_ishl (pc := 96) (v := iv z13) dX7_takeOut_96 hz13 ?_
            refine r_iconst (pc := 97) (v := iv (-1)) dX7_takeOut_97 (by decide) ?_
            refine r_ixor (pc := 98) (v := iv (-z13 - 1)) dX7_takeOut_98 (iv_not _) ?_
            obtain ⟨z14, hz14, bz14⟩ := and_l z12 (-z13 - 1) (by omega) (by omega)
            refine r_iand (pc := 99) (v := iv z14) dX7_takeOut_99 hz14 ?_
            refine r_goto (pc := 100) (tgt := 113) dX7_takeOut_100 (by decide) ?_
            refine Rn.pick (lv' := [(0, .ref ss), (1, .int (iv x1)), (2, .int (iv x2)), (4, .int (iv (x3 * 16))), (5, .int (iv ((x3 * 16) + 16))), (6, .int (iv y1)), (7, .int (iv v27_7))]) [1, 2, 3, 4, 5, 6, 7] rfl ?_
            exact B113 _ ht58 z14 ⟨by omega, by omega⟩
        refine t_if_eq (pc := 50) (tgt := 57) dX7_takeOut_50 (by decide) (by omega) (fun c50 => ?_) (fun c50 => ?_)
        · refine r_iconst (pc := 57) (v := iv 0) dX7_takeOut_57 (by decide) ?_
          refine Rn.pick (lv' := [(0, .ref ss), (1, .int (iv x1)), (2, .int (iv x2)), (4, .int (iv (x3 * 16))), (5, .int (iv ((x3 * 16) + 16))), (6, .int (iv y1)), (7, .int (iv v27_7))]) [0, 1, 2, 3, 4, 5, 6] rfl ?_
          exact B58 _ ht27 0 ⟨by omega, by omega⟩
        · refine r_iconst (pc := 53) (v := iv 1) dX7_takeOut_53 (by decide) ?_
          refine r_goto (pc := 54) (tgt := 58) dX7_takeOut_54 (by decide) ?_
          refine Rn.pick (lv' := [(0, .ref ss), (1, .int (iv x1)), (2, .int (iv x2)), (4, .int (iv (x3 * 16))), (5, .int (iv ((x3 * 16) + 16))), (6, .int (iv y1)), (7, .int (iv v27_7))]) [0, 1, 2, 3, 4, 5, 6] rfl ?_
          exact B58 _ ht27 1 ⟨by omega, by omega⟩
  refine Rn.pick (lv' := [(0, .ref ss), (1, .int (iv x1)), (2, .int (iv x2)), (4, .int (iv (x3 * 16))), (5, .int (iv ((x3 * 16) + 16))), (6, .int (iv y1)), (7, .int (iv 0))]) [4, 5, 6, 3, 2, 1, 0] rfl ?_
  exact B27 (Int.toNat (16 - 0)) _ ht 0 ⟨by omega, by omega⟩ (by omega)
set_option maxHeartbeats 4000000 in
set_option maxRecDepth 100000 in
theorem t_X7_mostApart {D : va_G} {cI cJ cZ cT : ClassId} {lo b L : Nat} {xs : Nat → Int32} (k : Nat) : ∀ (hp : MH) (n d : Nat) (Γ : TG) (rA rL : Nat) (x1 x2 : Int) (hd0 : k + 1 ≤ d) (hrA : rd Γ rA (tI cI rL (rg 0 65535))) (hrL : rL ≤ 16) (ht : Tw Γ hp) (hx1 : 0 ≤ x1 ∧ x1 ≤ 65535) (hx2 : 0 ≤ x2 ∧ x2 ≤ 17) (hk9 : 17 - x2 ≤ (k : Int)), Mt (gG D cI cJ cZ cT lo b L xs) mX7_mostApart d 0 0 [.ref rA, .int (iv x1), .int (iv x2)] hp n (pI Γ n (fun r => 0 ≤ r ∧ r ≤ 18 - x2)) := by
  revert k
  refine lpS _ ?_
  intro k ih hp n d Γ rA rL x1 x2 hd0 hrA hrL ht hx1 hx2 hk9
  refine Mt.of rfl (Nat.le_of_ble_eq_true rfl) ?_
  refine Rn.pick (lv' := [(0, .ref rA), (1, .int (iv x1)), (2, .int (iv x2))]) [0, 1, 2] rfl ?_
  refine r_iload_n (pc := 0) dX7_mostApart_0 (i := 2) rfl rfl ?_
  refine r_bipush (pc := 1) (v := iv 16) dX7_mostApart_1 (by decide) ?_
  refine t_icmp_le (pc := 3) (tgt := 8) dX7_mostApart_3 (by decide) (by omega) (by omega) (fun c3 => ?_) (fun c3 => ?_)
  · refine r_iconst (pc := 8) (v := iv (-1)) dX7_mostApart_8 (by decide) ?_
    refine r_istore_n (pc := 9) (lv' := [(3, .int (iv (-1))), (0, .ref rA), (1, .int (iv x1)), (2, .int (iv x2))]) dX7_mostApart_9 (i := 3) rfl (by decide) rfl ?_
    refine r_iconst (pc := 10) (v := iv (-1)) dX7_mostApart_10 (by decide) ?_
    refine r_istore (pc := 11) (lv' := [(4, .int (iv (-1))), (3, .int (iv (-1))), (0, .ref rA), (1, .int (iv x1)), (2, .int (iv x2))]) dX7_mostApart_11 (by decide) rfl ?_
    refine r_iconst (pc := 13) (v := iv 0) dX7_mostApart_13 (by decide) ?_
    refine r_istore (pc := 14) (lv' := [(5, .int (iv 0)), (4, .int (iv (-1))), (3, .int (iv (-1))), (0, .ref rA), (1, .int (iv x1)), (2, .int (iv x2))]) dX7_mostApart_14 (by decide) rfl ?_
    have B16 : ∀ k : Nat, ∀ hp16 : MH, Tw Γ hp16 → ∀  (v16_3 : Int) (v16_4 : Int) (v16_5 : Int), (-1) ≤ v16_3 ∧ v16_3 ≤ 15 ∧ (-1) ≤ v16_4 ∧ v16_4 ≤ 63 ∧ 0 ≤ v16_5 ∧ v16_5 ≤ 16 ∧ v16_3 < (rL : Int) → 16 - v16_5 ≤ (k : Int) → Rn (gG D cI cJ cZ cT lo b L xs) mX7_mostApart d 16 [(0, .ref rA), (1, .int (iv x1)), (2, .int (iv x2)), (3, .int (iv v16_3)), (4, .int (iv v16_4)), (5, .int (iv v16_5))] [] hp16 n 0 0 (pI Γ n (fun r => 0 ≤ r ∧ r ≤ 18 - x2)) := by
      refine lpS _ ?_
      intro k16 ih16 hp16 ht16 v16_3 v16_4 v16_5 hf16 hm16
      refine r_iload (pc := 16) dX7_mostApart_16 rfl ?_
      refine r_aload_n (pc := 18) dX7_mostApart_18 (i := 0) rfl rfl ?_
      refine t_lenI (pc := 19) (t0 := 0) ht16 hrA dX7_mostApart_19 rfl ?_
      refine t_icmp_ge (pc := 20) (tgt := 101) dX7_mostApart_20 (by decide) (by omega) (by omega) (fun c20 => ?_) (fun c20 => ?_)
      · refine r_iload_n (pc := 101) dX7_mostApart_101 (i := 3) rfl rfl ?_
        refine t_if_ge (pc := 102) (tgt := 107) dX7_mostApart_102 (by decide) (by omega) (fun c102 => ?_) (fun c102 => ?_)
        · refine r_iconst (pc := 107) (v := iv 1) dX7_mostApart_107 (by decide) ?_
          refine r_aload_n (pc := 108) dX7_mostApart_108 (i := 0) rfl rfl ?_
          refine r_iload_n (pc := 109) dX7_mostApart_109 (i := 1) rfl rfl ?_
          refine r_aload_n (pc := 110) dX7_mostApart_110 (i := 0) rfl rfl ?_
          refine r_iload_n (pc := 111) dX7_mostApart_111 (i := 3) rfl rfl ?_
          refine t_ialdR (pc := 112) (t0 := 0) ht16 hrA dX7_mostApart_112 rfl (by omega) (by omega) (fun y1 by1 => ?_)
          refine r_iconst (pc := 113) (v := iv 1) dX7_mostApart_113 (by decide) ?_
          refine r_iload_n (pc := 114) dX7_mostApart_114 (i := 3) rfl rfl ?_
          obtain ⟨z2, hz2, bz2⟩ := shl_1 0 15 v16_3 (by omega) (by omega) (by decide)
          refine r_ishl (pc := 115) (v := iv z2) dX7_mostApart_115 hz2 ?_
          obtain ⟨z3, hz3, bz3⟩ := or_2 16 y1 z2 (by omega) (by omega) (by decide)
          refine r_ior (pc := 116) (v := iv z3) dX7_mostApart_116 hz3 ?_
          refine r_iconst (pc := 117) (v := iv (-1)) dX7_mostApart_117 (by decide) ?_
          refine r_ixor (pc := 118) (v := iv (-z3 - 1)) dX7_mostApart_118 (iv_not _) ?_
          obtain ⟨z4, hz4, bz4⟩ := and_l x1 (-z3 - 1) (by omega) (by omega)
          refine r_iand (pc := 119) (v := iv z4) dX7_mostApart_119 hz4 ?_
          refine r_iload_n (pc := 120) dX7_mostApart_120 (i := 2) rfl rfl ?_
          refine r_iconst (pc := 121) (v := iv 1) dX7_mostApart_121 (by decide) ?_
          refine r_iadd (pc := 122) (v := iv (x2 + 1)) dX7_mostApart_122 (iv_add _ _) ?_
          refine t_callSI (pc := 123) (as := [.ref rA, .int (iv z4), .int (iv (x2 + 1))]) (st := [.int (iv 1)]) kX7_48 dX7_mostApart_123 (ih (Int.toNat (17 - (x2 + 1))) (by omega) _ _ (d - 1) Γ _ _ _ _ (by omega)  hrA (by omega) ht16 (by omega) (by omega)  (by omega)) rfl (by omega) (Nat.le_of_ble_eq_true rfl) rfl (fun hp5 y7 ht6 by7 => ?_)
          obtain ⟨by71, by72⟩ := by7
          refine r_iadd (pc := 126) (v := iv (1 + y7)) dX7_mostApart_126 (iv_add _ _) ?_
          refine r_istore (pc := 127) (lv' := [(5, .int (iv (1 + y7))), (0, .ref rA), (1, .int (iv x1)), (2, .int (iv x2)), (3, .int (iv v16_3)), (4, .int (iv v16_4))]) dX7_mostApart_127 (by decide) rfl ?_
          refine r_aload_n (pc := 129) dX7_mostApart_129 (i := 0) rfl rfl ?_
          refine r_iload_n (pc := 130) dX7_mostApart_130 (i := 1) rfl rfl ?_
          refine r_iconst (pc := 131) (v := iv 1) dX7_mostApart_131 (by decide) ?_
          refine r_iload_n (pc := 132) dX7_mostApart_132 (i := 3) rfl rfl ?_
          obtain ⟨z8, hz8, bz8⟩ := shl_1 0 15 v16_3 (by omega) (by omega) (by decide)
          refine r_ishl (pc := 133) (v := iv z8) dX7_mostApart_133 hz8 ?_
          refine r_iconst (pc := 134) (v := iv (-1)) dX7_mostApart_134 (by decide) ?_
          refine r_ixor (pc := 135) (v := iv (-z8 - 1)) dX7_mostApart_135 (iv_not _) ?_
          obtain ⟨z9, hz9, bz9⟩ := and_l x1 (-z8 - 1) (by omega) (by omega)
          refine r_iand (pc := 136) (v := iv z9) dX7_mostApart_136 hz9 ?_
          refine r_iload_n (pc := 137) dX7_mostApart_137 (i := 2) rfl rfl ?_
          refine r_iconst (pc := 138) (v := iv 1) dX7_mostApart_138 (by decide) ?_
          refine r_iadd (pc := 139) (v := iv (x2 + 1)) dX7_mostApart_139 (iv_add _ _) ?_
          refine t_callSI (pc := 140) (as := [.ref rA, .int (iv z9), .int (iv (x2 + 1))]) (st := []) kX7_48 dX7_mostApart_140 (ih (Int.toNat (17 - (x2 + 1))) (by omega) _ _ (d - 1) Γ _ _ _ _ (by omega)  hrA (by omega) ht6 (by omega) (by omega)  (by omega)) rfl (by omega) (Nat.le_of_ble_eq_true rfl) rfl (fun hp10 y12 ht11 by12 => ?_)
          obtain ⟨by121, by122⟩ := by12
          refine r_istore (pc := 143) (lv' := [(6, .int (iv y12)), (5, .int (iv (1 + y7))), (0, .ref rA), (1, .int (iv x1)), (2, .int (iv x2)), (3, .int (iv v16_3)), (4, .int (iv v16_4))]) dX7_mostApart_143 (by decide) rfl ?_
          refine r_iload (pc := 145) dX7_mostApart_145 rfl ?_
          refine r_iload (pc := 147) dX7_mostApart_147 rfl ?_
          obtain ⟨z13, hz13, bz13⟩ := max_b (1 + y7) y12 (by omega) (by omega)
          refine r_mmax (pc := 149) (v := iv z13) qX7_58 dX7_mostApart_149 (Nat.le_of_ble_eq_true rfl) hz13 ?_
          exact r_iret (pc := 152) dX7_mostApart_152 rfl ⟨rfl, ht11, _, rfl, by omega, by omega⟩
        · refine r_iconst (pc := 105) (v := iv 0) dX7_mostApart_105 (by decide) ?_
          exact r_iret (pc := 106) dX7_mostApart_106 rfl ⟨rfl, ht16, _, rfl, by omega, by omega⟩
      · refine r_iload_n (pc := 23) dX7_mostApart_23 (i := 1) rfl rfl ?_
        refine r_iload (pc := 24) dX7_mostApart_24 rfl ?_
        obtain ⟨z14, hz14, bz14⟩ := shr_x x1 v16_5 (by omega) (by omega)
        refine r_ishr (pc := 26) (v := iv z14) dX7_mostApart_26 hz14 ?_
        refine r_iconst (pc := 27) (v := iv 1) dX7_mostApart_27 (by decide) ?_
        obtain ⟨z15, hz15, bz15⟩ := and_2 z14 1 (by omega) (by omega)
        refine r_iand (pc := 28) (v := iv z15) dX7_mostApart_28 hz15 ?_
        have B95 : ∀ hp95 : MH, Tw Γ hp95 → ∀  (v95_3 : Int) (v95_4 : Int), (-1) ≤ v95_3 ∧ v95_3 ≤ 15 ∧ (-1) ≤ v95_4 ∧ v95_4 ≤ 63 ∧ v16_4 ≤ v95_4 ∧ v95_3 < (rL : Int) → Rn (gG D cI cJ cZ cT lo b L xs) mX7_mostApart d 95 [(0, .ref rA), (1, .int (iv x1)), (2, .int (iv x2)), (3, .int (iv v95_3)), (4, .int (iv v95_4)), (5, .int (iv v16_5))] [] hp95 n 0 0 (pI Γ n (fun r => 0 ≤ r ∧ r ≤ 18 - x2)) := by
          intro hp95 ht95 v95_3 v95_4 hf95
          refine r_iinc (pc := 95) (v := iv (v16_5 + 1)) (lv' := [(5, .int (iv (v16_5 + 1))), (0, .ref rA), (1, .int (iv x1)), (2, .int (iv x2)), (3, .int (iv v95_3)), (4, .int (iv v95_4))]) dX7_mostApart_95 rfl (iv_add _ _) (by decide) rfl ?_
          refine r_goto (pc := 98) (tgt := 16) dX7_mostApart_98 (by decide) ?_
          refine Rn.pick (lv' := [(0, .ref rA), (1, .int (iv x1)), (2, .int (iv x2)), (3, .int (iv v95_3)), (4, .int (iv v95_4)), (5, .int (iv (v16_5 + 1)))]) [1, 2, 3, 4, 5, 0] rfl ?_
          exact ih16 (Int.toNat (16 - (v16_5 + 1))) (by omega) _ ht95 v95_3 v95_4 (v16_5 + 1) ⟨by omega, by omega, by omega, by omega, by omega, by omega, by omega⟩ (by omega)
        refine t_if_eq (pc := 29) (tgt := 95) dX7_mostApart_29 (by decide) (by omega) (fun c29 => ?_) (fun c29 => ?_)
        · refine Rn.pick (lv' := [(0, .ref rA), (1, .int (iv x1)), (2, .int (iv x2)), (3, .int (iv v16_3)), (4, .int (iv v16_4)), (5, .int (iv v16_5))]) [0, 1, 2, 3, 4, 5] rfl ?_
          exact B95 _ ht16 v16_3 v16_4 ⟨by omega, by omega, by omega, by omega, by omega, by omega⟩
        · refine r_aload_n (pc := 32) dX7_mostApart_32 (i := 0) rfl rfl ?_
          refine r_iload (pc := 33) dX7_mostApart_33 rfl ?_
          refine t_ialdR (pc := 35) (t0 := 0) ht16 hrA dX7_mostApart_35 rfl (by omega) (by omega) (fun y16 by16 => ?_)
          refine r_iload_n (pc := 36) dX7_mostApart_36 (i := 1) rfl rfl ?_
          obtain ⟨z17, hz17, bz17⟩ := and_2 y16 x1 (by omega) (by omega)
          refine r_iand (pc := 37) (v := iv z17) dX7_mostApart_37 hz17 ?_
          refine t_callSR (pc := 38) (as := [.int (iv z17)]) (st := []) kX7_52 dX7_mostApart_38 (t_J6_bitCount_0f7a4 (d := d - 1) (x0 := z17) (by omega)   ht16 (by omega) ) rfl (by omega) (Nat.le_of_ble_eq_true rfl) rfl (fun hp18 y20 ht19 by20 => ?_)
          refine r_istore (pc := 41) (lv' := [(6, .int (iv y20)), (0, .ref rA), (1, .int (iv x1)), (2, .int (iv x2)), (3, .int (iv v16_3)), (4, .int (iv v16_4)), (5, .int (iv v16_5))]) dX7_mostApart_41 (by decide) rfl ?_
          refine r_iload (pc := 43) dX7_mostApart_43 rfl ?_
          refine r_iconst (pc := 45) (v := iv 1) dX7_mostApart_45 (by decide) ?_
          refine t_icmp_gt (pc := 46) (tgt := 72) dX7_mostApart_46 (by decide) (by omega) (by omega) (fun c46 => ?_) (fun c46 => ?_)
          · refine r_iload (pc := 72) dX7_mostApart_72 rfl ?_
            refine r_iload (pc := 74) dX7_mostApart_74 rfl ?_
            have B85 : ∀ hp85 : MH, Tw Γ hp85 → ∀  (u85_0 : Int), (-1) ≤ u85_0 ∧ u85_0 ≤ 15 ∧ u85_0 < (rL : Int) → Rn (gG D cI cJ cZ cT lo b L xs) mX7_mostApart d 85 [(0, .ref rA), (1, .int (iv x1)), (2, .int (iv x2)), (4, .int (iv v16_4)), (5, .int (iv v16_5)), (6, .int (iv y20))] [.int (iv u85_0)] hp85 n 0 0 (pI Γ n (fun r => 0 ≤ r ∧ r ≤ 18 - x2)) := by
              intro hp85 ht85 u85_0 hf85
              refine r_istore_n (pc := 85) (lv' := [(3, .int (iv u85_0)), (0, .ref rA), (1, .int (iv x1)), (2, .int (iv x2)), (4, .int (iv v16_4)), (5, .int (iv v16_5)), (6, .int (iv y20))]) dX7_mostApart_85 (i := 3) rfl (by decide) rfl ?_
              refine r_iload (pc := 86) dX7_mostApart_86 rfl ?_
              refine r_iload (pc := 88) dX7_mostApart_88 rfl ?_
              obtain ⟨z21, hz21, bz21⟩ := max_b v16_4 y20 (by omega) (by omega)
              refine r_mmax (pc := 90) (v := iv z21) qX7_58 dX7_mostApart_90 (Nat.le_of_ble_eq_true rfl) hz21 ?_
              refine r_istore (pc := 93) (lv' := [(4, .int (iv z21)), (3, .int (iv u85_0)), (0, .ref rA), (1, .int (iv x1)), (2, .int (iv x2)), (5, .int (iv v16_5)), (6, .int (iv y20))]) dX7_mostApart_93 (by decide) rfl ?_
              refine Rn.pick (lv' := [(0, .ref rA), (1, .int (iv x1)), (2, .int (iv x2)), (3, .int (iv u85_0)), (4, .int (iv z21)), (5, .int (iv v16_5))]) [2, 3, 4, 1, 0, 5] rfl ?_
              exact B95 _ ht85 u85_0 z21 ⟨by omega, by omega, by omega, by omega, by omega, by omega⟩
            refine t_icmp_le (pc := 76) (tgt := 84) dX7_mostApart_76 (by decide) (by omega) (by omega) (fun c76 => ?_) (fun c76 => ?_)
            · refine r_iload_n (pc := 84) dX7_mostApart_84 (i := 3) rfl rfl ?_
              refine Rn.pick (lv' := [(0, .ref rA), (1, .int (iv x1)), (2, .int (iv x2)), (4, .int (iv v16_4)), (5, .int (iv v16_5)), (6, .int (iv y20))]) [1, 2, 3, 5, 6, 0] rfl ?_
              exact B85 _ ht19 v16_3 ⟨by omega, by omega, by omega⟩
            · refine r_iload (pc := 79) dX7_mostApart_79 rfl ?_
              refine r_goto (pc := 81) (tgt := 85) dX7_mostApart_81 (by decide) ?_
              refine Rn.pick (lv' := [(0, .ref rA), (1, .int (iv x1)), (2, .int (iv x2)), (4, .int (iv v16_4)), (5, .int (iv v16_5)), (6, .int (iv y20))]) [1, 2, 3, 5, 6, 0] rfl ?_
              exact B85 _ ht19 v16_5 ⟨by omega, by omega, by omega⟩
          · refine r_iconst (pc := 49) (v := iv 1) dX7_mostApart_49 (by decide) ?_
            refine r_aload_n (pc := 50) dX7_mostApart_50 (i := 0) rfl rfl ?_
            refine r_iload_n (pc := 51) dX7_mostApart_51 (i := 1) rfl rfl ?_
            refine r_aload_n (pc := 52) dX7_mostApart_52 (i := 0) rfl rfl ?_
            refine r_iload (pc := 53) dX7_mostApart_53 rfl ?_
            refine t_ialdR (pc := 55) (t0 := 0) ht19 hrA dX7_mostApart_55 rfl (by omega) (by omega) (fun y22 by22 => ?_)
            refine r_iconst (pc := 56) (v := iv 1) dX7_mostApart_56 (by decide) ?_
            refine r_iload (pc := 57) dX7_mostApart_57 rfl ?_
            obtain ⟨z23, hz23, bz23⟩ := shl_1 0 15 v16_5 (by omega) (by omega) (by decide)
            refine r_ishl (pc := 59) (v := iv z23) dX7_mostApart_59 hz23 ?_
            obtain ⟨z24, hz24, bz24⟩ := or_2 16 y22 z23 (by omega) (by omega) (by decide)
            refine r_ior (pc := 60) (v := iv z24) dX7_mostApart_60 hz24 ?_
            refine r_iconst (pc := 61) (v := iv (-1)) dX7_mostApart_61 (by decide) ?_
            refine r_ixor (pc := 62) (v := iv (-z24 - 1)) dX7_mostApart_62 (iv_not _) ?_
            obtain ⟨z25, hz25, bz25⟩ := and_l x1 (-z24 - 1) (by omega) (by omega)
            refine r_iand (pc := 63) (v := iv z25) dX7_mostApart_63 hz25 ?_
            refine r_iload_n (pc := 64) dX7_mostApart_64 (i := 2) rfl rfl ?_
            refine r_iconst (pc := 65) (v := iv 1) dX7_mostApart_65 (by decide) ?_
            refine r_iadd (pc := 66) (v := iv (x2 + 1)) dX7_mostApart_66 (iv_add _ _) ?_
            refine t_callSI (pc := 67) (as := [.ref rA, .int (iv z25), .int (iv (x2 + 1))]) (st := [.int (iv 1)]) kX7_48 dX7_mostApart_67 (ih (Int.toNat (17 - (x2 + 1))) (by omega) _ _ (d - 1) Γ _ _ _ _ (by omega)  hrA (by omega) ht19 (by omega) (by omega)  (by omega)) rfl (by omega) (Nat.le_of_ble_eq_true rfl) rfl (fun hp26 y28 ht27 by28 => ?_)
            obtain ⟨by281, by282⟩ := by28
            refine r_iadd (pc := 70) (v := iv (1 + y28)) dX7_mostApart_70 (iv_add _ _) ?_
            exact r_iret (pc := 71) dX7_mostApart_71 rfl ⟨rfl, ht27, _, rfl, by omega, by omega⟩
    refine Rn.pick (lv' := [(0, .ref rA), (1, .int (iv x1)), (2, .int (iv x2)), (3, .int (iv (-1))), (4, .int (iv (-1))), (5, .int (iv 0))]) [3, 4, 5, 2, 1, 0] rfl ?_
    exact B16 (Int.toNat (16 - 0)) _ ht (-1) (-1) 0 ⟨by omega, by omega, by omega, by omega, by omega, by omega, by omega⟩ (by omega)
  · refine r_iconst (pc := 6) (v := iv 0) dX7_mostApart_6 (by decide) ?_
    exact r_iret (pc := 7) dX7_mostApart_7 rfl ⟨rfl, ht, _, rfl, by omega, by omega⟩
set_option maxHeartbeats 4000000 in
set_option maxRecDepth 100000 in
theorem t_X7_leastOfGreatest {D : va_G} {cI cJ cZ cT : ClassId} {lo b L : Nat} {xs : Nat → Int32} {hp : MH} {n d : Nat} {Γ : TG} {rA rL : Nat} {x1 : Int} (hd0 : 19 ≤ d) (hrA : rd Γ rA (tI cI rL (rg 0 65535))) (hrL : rL ≤ 16) (ht : Tw Γ hp) (hx1 : 0 ≤ x1 ∧ x1 ≤ 65535) : Mt (gG D cI cJ cZ cT lo b L xs) mX7_leastOfGreatest d 0 0 [.ref rA, .int (iv x1)] hp n (pR Γ n 0 65535) := by
  refine Mt.of rfl (Nat.le_of_ble_eq_true rfl) ?_
  refine Rn.pick (lv' := [(0, .ref rA), (1, .int (iv x1))]) [0, 1] rfl ?_
  refine r_aload_n (pc := 0) dX7_leastOfGreatest_0 (i := 0) rfl rfl ?_
  refine r_iload_n (pc := 1) dX7_leastOfGreatest_1 (i := 1) rfl rfl ?_
  refine r_iconst (pc := 2) (v := iv 0) dX7_leastOfGreatest_2 (by decide) ?_
  refine t_callSI (pc := 3) (as := [.ref rA, .int (iv x1), .int (iv 0)]) (st := []) kX7_48 dX7_leastOfGreatest_3 (t_X7_mostApart (Int.toNat (17 - 0)) _ _ (d - 1) Γ _ _ _ _ (by omega)  hrA (by omega) ht (by omega) (by omega)  (by omega)) rfl (by omega) (Nat.le_of_ble_eq_true rfl) rfl (fun hp1 y3 ht2 by3 => ?_)
  obtain ⟨by31, by32⟩ := by3
  refine r_istore_n (pc := 6) (lv' := [(2, .int (iv y3)), (0, .ref rA), (1, .int (iv x1))]) dX7_leastOfGreatest_6 (i := 2) rfl (by decide) rfl ?_
  refine r_iconst (pc := 7) (v := iv 0) dX7_leastOfGreatest_7 (by decide) ?_
  refine r_istore_n (pc := 8) (lv' := [(3, .int (iv 0)), (2, .int (iv y3)), (0, .ref rA), (1, .int (iv x1))]) dX7_leastOfGreatest_8 (i := 3) rfl (by decide) rfl ?_
  refine r_iload_n (pc := 9) dX7_leastOfGreatest_9 (i := 1) rfl rfl ?_
  refine r_istore (pc := 10) (lv' := [(4, .int (iv x1)), (3, .int (iv 0)), (2, .int (iv y3)), (0, .ref rA), (1, .int (iv x1))]) dX7_leastOfGreatest_10 (by decide) rfl ?_
  refine r_aload_n (pc := 12) dX7_leastOfGreatest_12 (i := 0) rfl rfl ?_
  refine t_lenI (pc := 13) (t0 := 0) ht2 hrA dX7_leastOfGreatest_13 rfl ?_
  refine r_iconst (pc := 14) (v := iv 1) dX7_leastOfGreatest_14 (by decide) ?_
  refine r_isub (pc := 15) (v := iv ((rL : Int) - 1)) dX7_leastOfGreatest_15 (iv_sub _ _) ?_
  refine r_istore (pc := 16) (lv' := [(5, .int (iv ((rL : Int) - 1))), (4, .int (iv x1)), (3, .int (iv 0)), (2, .int (iv y3)), (0, .ref rA), (1, .int (iv x1))]) dX7_leastOfGreatest_16 (by decide) rfl ?_
  have B18 : ∀ k : Nat, ∀ hp18 : MH, Tw Γ hp18 → ∀  (v18_3 : Int) (v18_4 : Int) (v18_5 : Int), 0 ≤ v18_3 ∧ v18_3 ≤ 65535 ∧ 0 ≤ v18_4 ∧ v18_4 ≤ 65535 ∧ v18_4 ≤ x1 ∧ (-1) ≤ v18_5 ∧ v18_5 ≤ 15 ∧ v18_5 ≤ (rL : Int) - 1 → v18_5 - (-1) ≤ (k : Int) → Rn (gG D cI cJ cZ cT lo b L xs) mX7_leastOfGreatest d 18 [(0, .ref rA), (2, .int (iv y3)), (3, .int (iv v18_3)), (4, .int (iv v18_4)), (5, .int (iv v18_5))] [] hp18 n 0 0 (pR Γ n 0 65535) := by
    refine lpS _ ?_
    intro k18 ih18 hp18 ht18 v18_3 v18_4 v18_5 hf18 hm18
    refine r_iload (pc := 18) dX7_leastOfGreatest_18 rfl ?_
    refine t_if_lt (pc := 20) (tgt := 95) dX7_leastOfGreatest_20 (by decide) (by omega) (fun c20 => ?_) (fun c20 => ?_)
    · refine r_iload_n (pc := 95) dX7_leastOfGreatest_95 (i := 3) rfl rfl ?_
      exact r_iret (pc := 96) dX7_leastOfGreatest_96 rfl ⟨rfl, ht18, _, rfl, by omega, by omega⟩
    · refine r_iconst (pc := 23) (v := iv 1) dX7_leastOfGreatest_23 (by decide) ?_
      refine r_iload (pc := 24) dX7_leastOfGreatest_24 rfl ?_
      obtain ⟨z4, hz4, bz4⟩ := shl_1 0 15 v18_5 (by omega) (by omega) (by decide)
      refine r_ishl (pc := 26) (v := iv z4) dX7_leastOfGreatest_26 hz4 ?_
      refine r_istore (pc := 27) (lv' := [(6, .int (iv z4)), (0, .ref rA), (2, .int (iv y3)), (3, .int (iv v18_3)), (4, .int (iv v18_4)), (5, .int (iv v18_5))]) dX7_leastOfGreatest_27 (by decide) rfl ?_
      refine r_iload (pc := 29) dX7_leastOfGreatest_29 rfl ?_
      refine r_iload (pc := 31) dX7_leastOfGreatest_31 rfl ?_
      obtain ⟨z5, hz5, bz5⟩ := and_2 v18_4 z4 (by omega) (by omega)
      refine r_iand (pc := 33) (v := iv z5) dX7_leastOfGreatest_33 hz5 ?_
      have B89 : ∀ hp89 : MH, Tw Γ hp89 → ∀  (v89_3 : Int) (v89_4 : Int), 0 ≤ v89_3 ∧ v89_3 ≤ 65535 ∧ v18_3 ≤ v89_3 ∧ 0 ≤ v89_4 ∧ v89_4 ≤ 65535 ∧ v89_4 ≤ v18_4 → Rn (gG D cI cJ cZ cT lo b L xs) mX7_leastOfGreatest d 89 [(0, .ref rA), (2, .int (iv y3)), (3, .int (iv v89_3)), (4, .int (iv v89_4)), (5, .int (iv v18_5))] [] hp89 n 0 0 (pR Γ n 0 65535) := by
        intro hp89 ht89 v89_3 v89_4 hf89
        refine r_iinc (pc := 89) (v := iv (v18_5 - 1)) (lv' := [(5, .int (iv (v18_5 - 1))), (0, .ref rA), (2, .int (iv y3)), (3, .int (iv v89_3)), (4, .int (iv v89_4))]) dX7_leastOfGreatest_89 rfl ((iv_add _ _).trans (congrArg iv (show v18_5 + (-1) = v18_5 - 1 by omega))) (by decide) rfl ?_
        refine r_goto (pc := 92) (tgt := 18) dX7_leastOfGreatest_92 (by decide) ?_
        refine Rn.pick (lv' := [(0, .ref rA), (2, .int (iv y3)), (3, .int (iv v89_3)), (4, .int (iv v89_4)), (5, .int (iv (v18_5 - 1)))]) [1, 2, 3, 4, 0] rfl ?_
        exact ih18 (Int.toNat ((v18_5 - 1) - (-1))) (by omega) _ ht89 v89_3 v89_4 (v18_5 - 1) ⟨by omega, by omega, by omega, by omega, by omega, by omega, by omega, by omega⟩ (by omega)
      refine t_if_eq (pc := 34) (tgt := 89) dX7_leastOfGreatest_34 (by decide) (by omega) (fun c34 => ?_) (fun c34 => ?_)
      · refine Rn.pick (lv' := [(0, .ref rA), (2, .int (iv y3)), (3, .int (iv v18_3)), (4, .int (iv v18_4)), (5, .int (iv v18_5))]) [1, 2, 3, 4, 5] rfl ?_
        exact B89 _ ht18 v18_3 v18_4 ⟨by omega, by omega, by omega, by omega, by omega, by omega⟩
      · refine r_iload_n (pc := 37) dX7_leastOfGreatest_37 (i := 3) rfl rfl ?_
        refine t_callSR (pc := 38) (as := [.int (iv v18_3)]) (st := []) kX7_52 dX7_leastOfGreatest_38 (t_J6_bitCount_0f7a4 (d := d - 1) (x0 := v18_3) (by omega)   ht18 (by omega) ) rfl (by omega) (Nat.le_of_ble_eq_true rfl) rfl (fun hp6 y8 ht7 by8 => ?_)
        refine r_aload_n (pc := 41) dX7_leastOfGreatest_41 (i := 0) rfl rfl ?_
        refine r_iload (pc := 42) dX7_leastOfGreatest_42 rfl ?_
        refine r_iload (pc := 44) dX7_leastOfGreatest_44 rfl ?_
        refine r_iconst (pc := 46) (v := iv (-1)) dX7_leastOfGreatest_46 (by decide) ?_
        refine r_ixor (pc := 47) (v := iv (-z4 - 1)) dX7_leastOfGreatest_47 (iv_not _) ?_
        obtain ⟨z9, hz9, bz9⟩ := and_l v18_4 (-z4 - 1) (by omega) (by omega)
        refine r_iand (pc := 48) (v := iv z9) dX7_leastOfGreatest_48 hz9 ?_
        refine r_iconst (pc := 49) (v := iv 0) dX7_leastOfGreatest_49 (by decide) ?_
        refine t_callSI (pc := 50) (as := [.ref rA, .int (iv z9), .int (iv 0)]) (st := [.int (iv y8)]) kX7_48 dX7_leastOfGreatest_50 (t_X7_mostApart (Int.toNat (17 - 0)) _ _ (d - 1) Γ _ _ _ _ (by omega)  hrA (by omega) ht7 (by omega) (by omega)  (by omega)) rfl (by omega) (Nat.le_of_ble_eq_true rfl) rfl (fun hp10 y12 ht11 by12 => ?_)
        obtain ⟨by121, by122⟩ := by12
        refine r_iadd (pc := 53) (v := iv (y8 + y12)) dX7_leastOfGreatest_53 (iv_add _ _) ?_
        refine r_iload_n (pc := 54) dX7_leastOfGreatest_54 (i := 2) rfl rfl ?_
        refine t_icmp_lt (pc := 55) (tgt := 70) dX7_leastOfGreatest_55 (by decide) (by omega) (by omega) (fun c55 => ?_) (fun c55 => ?_)
        · refine r_iload_n (pc := 70) dX7_leastOfGreatest_70 (i := 3) rfl rfl ?_
          refine r_iload (pc := 71) dX7_leastOfGreatest_71 rfl ?_
          obtain ⟨z13, hz13, bz13⟩ := or_2 16 v18_3 z4 (by omega) (by omega) (by decide)
          refine r_ior (pc := 73) (v := iv z13) dX7_leastOfGreatest_73 hz13 ?_
          refine r_istore_n (pc := 74) (lv' := [(3, .int (iv z13)), (6, .int (iv z4)), (0, .ref rA), (2, .int (iv y3)), (4, .int (iv v18_4)), (5, .int (iv v18_5))]) dX7_leastOfGreatest_74 (i := 3) rfl (by decide) rfl ?_
          refine r_iload (pc := 75) dX7_leastOfGreatest_75 rfl ?_
          refine r_aload_n (pc := 77) dX7_leastOfGreatest_77 (i := 0) rfl rfl ?_
          refine r_iload (pc := 78) dX7_leastOfGreatest_78 rfl ?_
          refine t_ialdR (pc := 80) (t0 := 0) ht11 hrA dX7_leastOfGreatest_80 rfl (by omega) (by omega) (fun y14 by14 => ?_)
          refine r_iload (pc := 81) dX7_leastOfGreatest_81 rfl ?_
          obtain ⟨z15, hz15, bz15⟩ := or_2 16 y14 z4 (by omega) (by omega) (by decide)
          refine r_ior (pc := 83) (v := iv z15) dX7_leastOfGreatest_83 hz15 ?_
          refine r_iconst (pc := 84) (v := iv (-1)) dX7_leastOfGreatest_84 (by decide) ?_
          refine r_ixor (pc := 85) (v := iv (-z15 - 1)) dX7_leastOfGreatest_85 (iv_not _) ?_
          obtain ⟨z16, hz16, bz16⟩ := and_l v18_4 (-z15 - 1) (by omega) (by omega)
          refine r_iand (pc := 86) (v := iv z16) dX7_leastOfGreatest_86 hz16 ?_
          refine r_istore (pc := 87) (lv' := [(4, .int (iv z16)), (3, .int (iv z13)), (6, .int (iv z4)), (0, .ref rA), (2, .int (iv y3)), (5, .int (iv v18_5))]) dX7_leastOfGreatest_87 (by decide) rfl ?_
          refine Rn.pick (lv' := [(0, .ref rA), (2, .int (iv y3)), (3, .int (iv z13)), (4, .int (iv z16)), (5, .int (iv v18_5))]) [3, 4, 1, 0, 5] rfl ?_
          exact B89 _ ht11 z13 z16 ⟨by omega, by omega, by omega, by omega, by omega, by omega⟩
        · refine r_iload (pc := 58) dX7_leastOfGreatest_58 rfl ?_
          refine r_iload (pc := 60) dX7_leastOfGreatest_60 rfl ?_
          refine r_iconst (pc := 62) (v := iv (-1)) dX7_leastOfGreatest_62 (by decide) ?_
          refine r_ixor (pc := 63) (v := iv (-z4 - 1)) dX7_leastOfGreatest_63 (iv_not _) ?_
          obtain ⟨z17, hz17, bz17⟩ := and_l v18_4 (-z4 - 1) (by omega) (by omega)
          refine r_iand (pc := 64) (v := iv z17) dX7_leastOfGreatest_64 hz17 ?_
          refine r_istore (pc := 65) (lv' := [(4, .int (iv z17)), (6, .int (iv z4)), (0, .ref rA), (2, .int (iv y3)), (3, .int (iv v18_3)), (5, .int (iv v18_5))]) dX7_leastOfGreatest_65 (by decide) rfl ?_
          refine r_goto (pc := 67) (tgt := 89) dX7_leastOfGreatest_67 (by decide) ?_
          refine Rn.pick (lv' := [(0, .ref rA), (2, .int (iv y3)), (3, .int (iv v18_3)), (4, .int (iv z17)), (5, .int (iv v18_5))]) [2, 3, 4, 0, 5] rfl ?_
          exact B89 _ ht11 v18_3 z17 ⟨by omega, by omega, by omega, by omega, by omega, by omega⟩
  refine Rn.pick (lv' := [(0, .ref rA), (2, .int (iv y3)), (3, .int (iv 0)), (4, .int (iv x1)), (5, .int (iv ((rL : Int) - 1)))]) [4, 3, 2, 1, 0] rfl ?_
  exact B18 (Int.toNat (((rL : Int) - 1) - (-1))) _ ht2 0 x1 ((rL : Int) - 1) ⟨by omega, by omega, by omega, by omega, by omega, by omega, by omega, by omega⟩ (by omega)
set_option maxHeartbeats 4000000 in
set_option maxRecDepth 100000 in
theorem t_X7_greatestJoined {D : va_G} {cI cJ cZ cT : ClassId} {lo b L : Nat} {xs : Nat → Int32} {hp : MH} {n d : Nat} {Γ : TG} {ss : Nat} {ga : Nat} {gF : Nat} {gT : Nat} {gW : Nat} {gC : Nat} {gTl : Nat} {gHd : Nat} {gBy : Nat} {gOu : Nat} {gIn : Nat} {gJo : Nat} {gn : Nat} {gm : Nat} {gq : Nat} {gdr : Int} (hd0 : 20 ≤ d) (hs : TySets Γ cI cJ cZ ss) (hg : TyG Γ cI cJ cZ ga gF gT gW gC gTl gHd gBy gOu gIn gJo gn gm gq gdr) (ht : Tw Γ hp)  : Mt (gG D cI cJ cZ cT lo b L xs) mX7_greatestJoined d 0 0 [.ref ss, .ref ga] hp n (pR Γ n 0 65535) := by
  obtain ⟨hs_O, hs_strangers, hs_classes, hs_levels, hs_melted, hs_hopeless⟩ := id hs
  obtain ⟨hg_O, hg_from, hg_to, hg_weight, hg_cost, hg_tail, hg_head, hg_by, hg_out, hg_in, hg_joined, hg_b⟩ := id hg
  refine Mt.of rfl (Nat.le_of_ble_eq_true rfl) ?_
  refine Rn.pick (lv' := [(0, .ref ss), (1, .ref ga)]) [0, 1] rfl ?_
  refine r_aload_n (pc := 0) dX7_greatestJoined_0 (i := 0) rfl rfl ?_
  refine r_aload_n (pc := 1) dX7_greatestJoined_1 (i := 1) rfl rfl ?_
  refine t_callVV (pc := 2) (as := [.ref ga]) (st := []) ht (rd_of hs_O) kX7_27 rfl dX7_greatestJoined_2 (t_X7_fillStrangers (d := d - 1)  (by omega) hs hg  ht  ) rfl (by omega) (Nat.le_of_ble_eq_true rfl) rfl (fun hp1 ht2 => ?_)
  refine r_aload_n (pc := 5) dX7_greatestJoined_5 (i := 0) rfl rfl ?_
  refine t_getE (pc := 6) (.ref (ss + 1)) ht2 (rd_of hs_O) fX7_9 dX7_greatestJoined_6 rfl ?_
  refine r_aload_n (pc := 9) dX7_greatestJoined_9 (i := 1) rfl rfl ?_
  refine t_callVR (pc := 10) (as := []) (st := [.ref (ss + 1)]) ht2 hg_O kX7_31 rfl dX7_greatestJoined_10 (t_X3_allNodes (d := d - 1)  (by omega) hg  ht2  ) rfl (by omega) (Nat.le_of_ble_eq_true rfl) rfl (fun hp4 y6 ht5 by6 => ?_)
  refine t_callSR (pc := 13) (as := [.ref (ss + 1), .int (iv y6)]) (st := []) kX7_37 dX7_greatestJoined_13 (t_X7_leastOfGreatest (d := d - 1) (rA := (ss + 1)) (rL := 16) (x1 := y6) (by omega)  (rd_of hs_strangers) (by decide) ht5 (by omega) ) rfl (by omega) (Nat.le_of_ble_eq_true rfl) rfl (fun hp7 y9 ht8 by9 => ?_)
  exact r_iret (pc := 16) dX7_greatestJoined_16 rfl ⟨rfl, ht8, _, rfl, by omega, by omega⟩
set_option maxHeartbeats 4000000 in
set_option maxRecDepth 100000 in
theorem t_X7_greatestApart {D : va_G} {cI cJ cZ cT : ClassId} {lo b L : Nat} {xs : Nat → Int32} {hp : MH} {n d : Nat} {Γ : TG} {ss : Nat} {ga : Nat} {gF : Nat} {gT : Nat} {gW : Nat} {gC : Nat} {gTl : Nat} {gHd : Nat} {gBy : Nat} {gOu : Nat} {gIn : Nat} {gJo : Nat} {gn : Nat} {gm : Nat} {gq : Nat} {gdr : Int} (hd0 : 20 ≤ d) (hs : TySets Γ cI cJ cZ ss) (hg : TyG Γ cI cJ cZ ga gF gT gW gC gTl gHd gBy gOu gIn gJo gn gm gq gdr) (ht : Tw Γ hp)  : Mt (gG D cI cJ cZ cT lo b L xs) mX7_greatestApart d 0 0 [.ref ss, .ref ga] hp n (pR Γ n 0 65535) := by
  obtain ⟨hs_O, hs_strangers, hs_classes, hs_levels, hs_melted, hs_hopeless⟩ := id hs
  obtain ⟨hg_O, hg_from, hg_to, hg_weight, hg_cost, hg_tail, hg_head, hg_by, hg_out, hg_in, hg_joined, hg_b⟩ := id hg
  refine Mt.of rfl (Nat.le_of_ble_eq_true rfl) ?_
  refine Rn.pick (lv' := [(0, .ref ss), (1, .ref ga)]) [0, 1] rfl ?_
  refine r_aload_n (pc := 0) dX7_greatestApart_0 (i := 1) rfl rfl ?_
  refine t_getE (pc := 1) (.ref gJo) ht hg_O fX7_41 dX7_greatestApart_1 rfl ?_
  refine r_aload_n (pc := 4) dX7_greatestApart_4 (i := 1) rfl rfl ?_
  refine t_callVR (pc := 5) (as := []) (st := [.ref gJo]) ht hg_O kX7_31 rfl dX7_greatestApart_5 (t_X3_allNodes (d := d - 1)  (by omega) hg  ht  ) rfl (by omega) (Nat.le_of_ble_eq_true rfl) rfl (fun hp1 y3 ht2 by3 => ?_)
  refine t_callSR (pc := 8) (as := [.ref gJo, .int (iv y3)]) (st := []) kX7_37 dX7_greatestApart_8 (t_X7_leastOfGreatest (d := d - 1) (rA := gJo) (rL := gn) (x1 := y3) (by omega)  hg_joined (by omega) ht2 (by omega) ) rfl (by omega) (Nat.le_of_ble_eq_true rfl) rfl (fun hp4 y6 ht5 by6 => ?_)
  exact r_iret (pc := 11) dX7_greatestApart_11 rfl ⟨rfl, ht5, _, rfl, by omega, by omega⟩
set_option maxHeartbeats 4000000 in
set_option maxRecDepth 100000 in
theorem t_X7_canColour {D : va_G} {cI cJ cZ cT : ClassId} {lo b L : Nat} {xs : Nat → Int32} (k : Nat) : ∀ (hp : MH) (n d : Nat) (Γ : TG) (ss : Nat) (rA rL : Nat) (x2 x3 x4 x5 : Int) (hd0 : k + 2 ≤ d) (hs : TySets Γ cI cJ cZ ss) (hrA : rd Γ rA (tI cI rL (rg 0 65535))) (hrL : rL ≤ 16) (ht : Tw Γ hp) (hx2 : 0 ≤ x2 ∧ x2 ≤ 65535) (hx3 : 0 ≤ x3 ∧ x3 ≤ 16) (hx4 : 0 ≤ x4 ∧ x4 ≤ 16) (hx5 : 0 ≤ x5 ∧ x5 ≤ 16) (hk9 : 16 - x5 ≤ (k : Int)), Mt (gG D cI cJ cZ cT lo b L xs) mX7_canColour d 0 0 [.ref ss, .ref rA, .int (iv x2), .int (iv x3), .int (iv x4), .int (iv x5)] hp n (pR Γ n 0 1) := by
  revert k
  refine lpS _ ?_
  intro k ih hp n d Γ ss rA rL x2 x3 x4 x5 hd0 hs hrA hrL ht hx2 hx3 hx4 hx5 hk9
  obtain ⟨hs_O, hs_strangers, hs_classes, hs_levels, hs_melted, hs_hopeless⟩ := id hs
  refine Mt.of rfl (Nat.le_of_ble_eq_true rfl) ?_
  refine Rn.pick (lv' := [(0, .ref ss), (1, .ref rA), (2, .int (iv x2)), (3, .int (iv x3)), (4, .int (iv x4)), (5, .int (iv x5))]) [0, 1, 2, 3, 4, 5] rfl ?_
  refine r_iload_n (pc := 0) dX7_canColour_0 (i := 2) rfl rfl ?_
  refine t_if_ne (pc := 1) (tgt := 6) dX7_canColour_1 (by decide) (by omega) (fun c1 => ?_) (fun c1 => ?_)
  · refine r_aload_n (pc := 6) dX7_canColour_6 (i := 0) rfl rfl ?_
    refine r_aload_n (pc := 7) dX7_canColour_7 (i := 1) rfl rfl ?_
    refine r_iload_n (pc := 8) dX7_canColour_8 (i := 2) rfl rfl ?_
    refine r_iload_n (pc := 9) dX7_canColour_9 (i := 3) rfl rfl ?_
    refine t_callVI (pc := 10) (as := [.ref rA, .int (iv x2), .int (iv x3)]) (st := []) ht (rd_of hs_O) kX7_78 rfl dX7_canColour_10 (t_X7_mostBound (d := d - 1) (rA := rA) (rL := rL) (x2 := x2) (x3 := x3) (by omega) hs hrA (by omega) ht (by omega) (by omega) ) rfl (by omega) (Nat.le_of_ble_eq_true rfl) rfl (fun hp1 y3 ht2 by3 => ?_)
    obtain ⟨by31, by32, by33⟩ := by3
    refine r_istore (pc := 13) (lv' := [(6, .int (iv y3)), (0, .ref ss), (1, .ref rA), (2, .int (iv x2)), (3, .int (iv x3)), (4, .int (iv x4)), (5, .int (iv x5))]) dX7_canColour_13 (by decide) rfl ?_
    refine r_iload (pc := 15) dX7_canColour_15 rfl ?_
    refine r_bipush (pc := 17) (v := iv 16) dX7_canColour_17 (by decide) ?_
    have B27 : ∀ hp27 : MH, Tw Γ hp27 → True → Rn (gG D cI cJ cZ cT lo b L xs) mX7_canColour d 27 [] [] hp27 n 0 0 (pR Γ n 0 1) := by
      intro hp27 ht27 hf27
      refine r_iconst (pc := 27) (v := iv 0) dX7_canColour_27 (by decide) ?_
      exact r_zret (pc := 28) dX7_canColour_28 rfl (iv_nar (by omega)) ⟨rfl, ht27, _, rfl, by omega, by omega⟩
    refine t_icmp_ge (pc := 19) (tgt := 27) dX7_canColour_19 (by decide) (by omega) (by omega) (fun c19 => ?_) (fun c19 => ?_)
    · refine Rn.pick (lv' := []) [] rfl ?_
      exact B27 _ ht2 trivial
    · refine r_iload (pc := 22) dX7_canColour_22 rfl ?_
      refine t_if_ge (pc := 24) (tgt := 29) dX7_canColour_24 (by decide) (by omega) (fun c24 => ?_) (fun c24 => ?_)
      · refine r_iconst (pc := 29) (v := iv 0) dX7_canColour_29 (by decide) ?_
        refine r_istore (pc := 30) (lv' := [(7, .int (iv 0)), (6, .int (iv y3)), (0, .ref ss), (1, .ref rA), (2, .int (iv x2)), (3, .int (iv x3)), (4, .int (iv x4)), (5, .int (iv x5))]) dX7_canColour_30 (by decide) rfl ?_
        have B32 : ∀ k : Nat, ∀ hp32 : MH, Tw Γ hp32 → ∀  (v32_7 : Int), 0 ≤ v32_7 ∧ v32_7 ≤ 16 → 16 - v32_7 ≤ (k : Int) → Rn (gG D cI cJ cZ cT lo b L xs) mX7_canColour d 32 [(0, .ref ss), (1, .ref rA), (2, .int (iv x2)), (3, .int (iv x3)), (4, .int (iv x4)), (5, .int (iv x5)), (6, .int (iv y3)), (7, .int (iv v32_7))] [] hp32 n 0 0 (pR Γ n 0 1) := by
          refine lpS _ ?_
          intro k32 ih32 hp32 ht32 v32_7 hf32 hm32
          refine r_iload (pc := 32) dX7_canColour_32 rfl ?_
          refine r_iload_n (pc := 34) dX7_canColour_34 (i := 3) rfl rfl ?_
          have B135 : ∀ hp135 : MH, Tw Γ hp135 → True → Rn (gG D cI cJ cZ cT lo b L xs) mX7_canColour d 135 [] [] hp135 n 0 0 (pR Γ n 0 1) := by
            intro hp135 ht135 hf135
            refine r_iconst (pc := 135) (v := iv 0) dX7_canColour_135 (by decide) ?_
            exact r_zret (pc := 136) dX7_canColour_136 rfl (iv_nar (by omega)) ⟨rfl, ht135, _, rfl, by omega, by omega⟩
          refine t_icmp_gt (pc := 35) (tgt := 135) dX7_canColour_35 (by decide) (by omega) (by omega) (fun c35 => ?_) (fun c35 => ?_)
          · refine Rn.pick (lv' := []) [] rfl ?_
            exact B135 _ ht32 trivial
          · refine r_iload (pc := 38) dX7_canColour_38 rfl ?_
            refine r_iload (pc := 40) dX7_canColour_40 rfl ?_
            refine t_icmp_ge (pc := 42) (tgt := 135) dX7_canColour_42 (by decide) (by omega) (by omega) (fun c42 => ?_) (fun c42 => ?_)
            · refine Rn.pick (lv' := []) [] rfl ?_
              exact B135 _ ht32 trivial
            · refine r_iload (pc := 45) dX7_canColour_45 rfl ?_
              refine r_bipush (pc := 47) (v := iv 16) dX7_canColour_47 (by decide) ?_
              refine t_icmp_ge (pc := 49) (tgt := 135) dX7_canColour_49 (by decide) (by omega) (by omega) (fun c49 => ?_) (fun c49 => ?_)
              · exfalso
                omega
              · refine r_aload_n (pc := 52) dX7_canColour_52 (i := 0) rfl rfl ?_
                refine t_getE (pc := 53) (.ref (ss + 2)) ht32 (rd_of hs_O) fX7_15 dX7_canColour_53 rfl ?_
                refine r_iload (pc := 56) dX7_canColour_56 rfl ?_
                refine t_ialdR (pc := 58) (t0 := 0) ht32 (rd_of hs_classes) dX7_canColour_58 rfl (by decide) (by omega) (fun y4 by4 => ?_)
                refine r_aload_n (pc := 59) dX7_canColour_59 (i := 1) rfl rfl ?_
                refine r_iload (pc := 60) dX7_canColour_60 rfl ?_
                refine t_ialdR (pc := 62) (t0 := 0) ht32 hrA dX7_canColour_62 rfl (by omega) (by omega) (fun y5 by5 => ?_)
                obtain ⟨z6, hz6, bz6⟩ := and_2 y4 y5 (by omega) (by omega)
                refine r_iand (pc := 63) (v := iv z6) dX7_canColour_63 hz6 ?_
                have B129 : ∀ hp129 : MH, Tw Γ hp129 → True → Rn (gG D cI cJ cZ cT lo b L xs) mX7_canColour d 129 [(0, .ref ss), (1, .ref rA), (2, .int (iv x2)), (3, .int (iv x3)), (4, .int (iv x4)), (5, .int (iv x5)), (6, .int (iv y3)), (7, .int (iv v32_7))] [] hp129 n 0 0 (pR Γ n 0 1) := by
                  intro hp129 ht129 hf129
                  refine r_iinc (pc := 129) (v := iv (v32_7 + 1)) (lv' := [(7, .int (iv (v32_7 + 1))), (0, .ref ss), (1, .ref rA), (2, .int (iv x2)), (3, .int (iv x3)), (4, .int (iv x4)), (5, .int (iv x5)), (6, .int (iv y3))]) dX7_canColour_129 rfl (iv_add _ _) (by decide) rfl ?_
                  refine r_goto (pc := 132) (tgt := 32) dX7_canColour_132 (by decide) ?_
                  refine Rn.pick (lv' := [(0, .ref ss), (1, .ref rA), (2, .int (iv x2)), (3, .int (iv x3)), (4, .int (iv x4)), (5, .int (iv x5)), (6, .int (iv y3)), (7, .int (iv (v32_7 + 1)))]) [1, 2, 3, 4, 5, 6, 7, 0] rfl ?_
                  exact ih32 (Int.toNat (16 - (v32_7 + 1))) (by omega) _ ht129 (v32_7 + 1) ⟨by omega, by omega⟩ (by omega)
                refine t_if_ne (pc := 64) (tgt := 129) dX7_canColour_64 (by decide) (by omega) (fun c64 => ?_) (fun c64 => ?_)
                · refine Rn.pick (lv' := [(0, .ref ss), (1, .ref rA), (2, .int (iv x2)), (3, .int (iv x3)), (4, .int (iv x4)), (5, .int (iv x5)), (6, .int (iv y3)), (7, .int (iv v32_7))]) [0, 1, 2, 3, 4, 5, 6, 7] rfl ?_
                  exact B129 _ ht32 trivial
                · refine r_aload_n (pc := 67) dX7_canColour_67 (i := 0) rfl rfl ?_
                  refine t_getE (pc := 68) (.ref (ss + 2)) ht32 (rd_of hs_O) fX7_15 dX7_canColour_68 rfl ?_
                  refine r_iload (pc := 71) dX7_canColour_71 rfl ?_
                  refine r_dup2_11 (pc := 73) dX7_canColour_73 rfl rfl ?_
                  refine t_ialdR (pc := 74) (t0 := 0) ht32 (rd_of hs_classes) dX7_canColour_74 rfl (by decide) (by omega) (fun y7 by7 => ?_)
                  refine r_iconst (pc := 75) (v := iv 1) dX7_canColour_75 (by decide) ?_
                  refine r_iload (pc := 76) dX7_canColour_76 rfl ?_
                  obtain ⟨z8, hz8, bz8⟩ := shl_1 0 15 y3 (by omega) (by omega) (by decide)
                  refine r_ishl (pc := 78) (v := iv z8) dX7_canColour_78 hz8 ?_
                  obtain ⟨z9, hz9, bz9⟩ := or_2 16 y7 z8 (by omega) (by omega) (by decide)
                  refine r_ior (pc := 79) (v := iv z9) dX7_canColour_79 hz9 ?_
                  refine t_iastR (pc := 80) (t0 := 0) ht32 hs_classes dX7_canColour_80 rfl (by decide) (by decide) (by omega) (by omega) (fun hp10 ht11 => ?_)
                  refine r_aload_n (pc := 81) dX7_canColour_81 (i := 0) rfl rfl ?_
                  refine r_aload_n (pc := 82) dX7_canColour_82 (i := 1) rfl rfl ?_
                  refine r_iload_n (pc := 83) dX7_canColour_83 (i := 2) rfl rfl ?_
                  refine r_iconst (pc := 84) (v := iv 1) dX7_canColour_84 (by decide) ?_
                  refine r_iload (pc := 85) dX7_canColour_85 rfl ?_
                  obtain ⟨z12, hz12, bz12⟩ := shl_1 0 15 y3 (by omega) (by omega) (by decide)
                  refine r_ishl (pc := 87) (v := iv z12) dX7_canColour_87 hz12 ?_
                  refine r_iconst (pc := 88) (v := iv (-1)) dX7_canColour_88 (by decide) ?_
                  refine r_ixor (pc := 89) (v := iv (-z12 - 1)) dX7_canColour_89 (iv_not _) ?_
                  obtain ⟨z13, hz13, bz13⟩ := and_l x2 (-z12 - 1) (by omega) (by omega)
                  refine r_iand (pc := 90) (v := iv z13) dX7_canColour_90 hz13 ?_
                  refine r_iload_n (pc := 91) dX7_canColour_91 (i := 3) rfl rfl ?_
                  refine r_iload (pc := 92) dX7_canColour_92 rfl ?_
                  refine r_iconst (pc := 94) (v := iv 1) dX7_canColour_94 (by decide) ?_
                  refine r_iadd (pc := 95) (v := iv (v32_7 + 1)) dX7_canColour_95 (iv_add _ _) ?_
                  obtain ⟨z14, hz14, bz14⟩ := max_b x3 (v32_7 + 1) (by omega) (by omega)
                  refine r_mmax (pc := 96) (v := iv z14) qX7_58 dX7_canColour_96 (Nat.le_of_ble_eq_true rfl) hz14 ?_
                  refine r_iload (pc := 99) dX7_canColour_99 rfl ?_
                  refine r_iload (pc := 101) dX7_canColour_101 rfl ?_
                  refine r_iconst (pc := 103) (v := iv 1) dX7_canColour_103 (by decide) ?_
                  refine r_iadd (pc := 104) (v := iv (x5 + 1)) dX7_canColour_104 (iv_add _ _) ?_
                  refine t_callVR (pc := 105) (as := [.ref rA, .int (iv z13), .int (iv z14), .int (iv x4), .int (iv (x5 + 1))]) (st := []) ht11 (rd_of hs_O) kX7_74 rfl dX7_canColour_105 (ih (Int.toNat (16 - (x5 + 1))) (by omega) _ _ (d - 1) Γ _ _ _ _ _ _ _ (by omega) hs hrA (by omega) ht11 (by omega) (by omega) (by omega) (by omega)  (by omega)) rfl (by omega) (Nat.le_of_ble_eq_true rfl) rfl (fun hp15 y17 ht16 by17 => ?_)
                  refine t_if_eq (pc := 108) (tgt := 113) dX7_canColour_108 (by decide) (by omega) (fun c108 => ?_) (fun c108 => ?_)
                  · refine r_aload_n (pc := 113) dX7_canColour_113 (i := 0) rfl rfl ?_
                    refine t_getE (pc := 114) (.ref (ss + 2)) ht16 (rd_of hs_O) fX7_15 dX7_canColour_114 rfl ?_
                    refine r_iload (pc := 117) dX7_canColour_117 rfl ?_
                    refine r_dup2_11 (pc := 119) dX7_canColour_119 rfl rfl ?_
                    refine t_ialdR (pc := 120) (t0 := 0) ht16 (rd_of hs_classes) dX7_canColour_120 rfl (by decide) (by omega) (fun y18 by18 => ?_)
                    refine r_iconst (pc := 121) (v := iv 1) dX7_canColour_121 (by decide) ?_
                    refine r_iload (pc := 122) dX7_canColour_122 rfl ?_
                    obtain ⟨z19, hz19, bz19⟩ := shl_1 0 15 y3 (by omega) (by omega) (by decide)
                    refine r_ishl (pc := 124) (v := iv z19) dX7_canColour_124 hz19 ?_
                    refine r_iconst (pc := 125) (v := iv (-1)) dX7_canColour_125 (by decide) ?_
                    refine r_ixor (pc := 126) (v := iv (-z19 - 1)) dX7_canColour_126 (iv_not _) ?_
                    obtain ⟨z20, hz20, bz20⟩ := and_l y18 (-z19 - 1) (by omega) (by omega)
                    refine r_iand (pc := 127) (v := iv z20) dX7_canColour_127 hz20 ?_
                    refine t_iastR (pc := 128) (t0 := 0) ht16 hs_classes dX7_canColour_128 rfl (by decide) (by decide) (by omega) (by omega) (fun hp21 ht22 => ?_)
                    refine Rn.pick (lv' := [(0, .ref ss), (1, .ref rA), (2, .int (iv x2)), (3, .int (iv x3)), (4, .int (iv x4)), (5, .int (iv x5)), (6, .int (iv y3)), (7, .int (iv v32_7))]) [0, 1, 2, 3, 4, 5, 6, 7] rfl ?_
                    exact B129 _ ht22 trivial
                  · refine r_iconst (pc := 111) (v := iv 1) dX7_canColour_111 (by decide) ?_
                    exact r_zret (pc := 112) dX7_canColour_112 rfl (iv_nar (by omega)) ⟨rfl, ht16, _, rfl, by omega, by omega⟩
        refine Rn.pick (lv' := [(0, .ref ss), (1, .ref rA), (2, .int (iv x2)), (3, .int (iv x3)), (4, .int (iv x4)), (5, .int (iv x5)), (6, .int (iv y3)), (7, .int (iv 0))]) [2, 3, 4, 5, 6, 7, 1, 0] rfl ?_
        exact B32 (Int.toNat (16 - 0)) _ ht2 0 ⟨by omega, by omega⟩ (by omega)
      · refine Rn.pick (lv' := []) [] rfl ?_
        exact B27 _ ht2 trivial
  · refine r_iconst (pc := 4) (v := iv 1) dX7_canColour_4 (by decide) ?_
    exact r_zret (pc := 5) dX7_canColour_5 rfl (iv_nar (by omega)) ⟨rfl, ht, _, rfl, by omega, by omega⟩
set_option maxHeartbeats 4000000 in
set_option maxRecDepth 100000 in
theorem t_X7_colours {D : va_G} {cI cJ cZ cT : ClassId} {lo b L : Nat} {xs : Nat → Int32} {hp : MH} {n d : Nat} {Γ : TG} {ss : Nat} {ga : Nat} {gF : Nat} {gT : Nat} {gW : Nat} {gC : Nat} {gTl : Nat} {gHd : Nat} {gBy : Nat} {gOu : Nat} {gIn : Nat} {gJo : Nat} {gn : Nat} {gm : Nat} {gq : Nat} {gdr : Int} (hd0 : 19 ≤ d) (hs : TySets Γ cI cJ cZ ss) (hg : TyG Γ cI cJ cZ ga gF gT gW gC gTl gHd gBy gOu gIn gJo gn gm gq gdr) (ht : Tw Γ hp)  : Mt (gG D cI cJ cZ cT lo b L xs) mX7_colours d 0 0 [.ref ss, .ref ga] hp n (pR Γ n (-2147483648) 2147483647) := by
  obtain ⟨hs_O, hs_strangers, hs_classes, hs_levels, hs_melted, hs_hopeless⟩ := id hs
  obtain ⟨hg_O, hg_from, hg_to, hg_weight, hg_cost, hg_tail, hg_head, hg_by, hg_out, hg_in, hg_joined, hg_b⟩ := id hg
  refine Mt.of rfl (Nat.le_of_ble_eq_true rfl) ?_
  refine Rn.pick (lv' := [(0, .ref ss), (1, .ref ga)]) [0, 1] rfl ?_
  refine r_aload_n (pc := 0) dX7_colours_0 (i := 0) rfl rfl ?_
  refine r_aload_n (pc := 1) dX7_colours_1 (i := 1) rfl rfl ?_
  refine t_callVV (pc := 2) (as := [.ref ga]) (st := []) ht (rd_of hs_O) kX7_27 rfl dX7_colours_2 (t_X7_fillStrangers (d := d - 1)  (by omega) hs hg  ht  ) rfl (by omega) (Nat.le_of_ble_eq_true rfl) rfl (fun hp1 ht2 => ?_)
  refine r_aload_n (pc := 5) dX7_colours_5 (i := 0) rfl rfl ?_
  refine t_getE (pc := 6) (.ref (ss + 1)) ht2 (rd_of hs_O) fX7_9 dX7_colours_6 rfl ?_
  refine r_aload_n (pc := 9) dX7_colours_9 (i := 1) rfl rfl ?_
  refine t_callVR (pc := 10) (as := []) (st := [.ref (ss + 1)]) ht2 hg_O kX7_31 rfl dX7_colours_10 (t_X3_allNodes (d := d - 1)  (by omega) hg  ht2  ) rfl (by omega) (Nat.le_of_ble_eq_true rfl) rfl (fun hp4 y6 ht5 by6 => ?_)
  refine r_iconst (pc := 13) (v := iv 0) dX7_colours_13 (by decide) ?_
  refine t_callSI (pc := 14) (as := [.ref (ss + 1), .int (iv y6), .int (iv 0)]) (st := []) kX7_48 dX7_colours_14 (t_X7_mostApart (Int.toNat (17 - 0)) _ _ (d - 1) Γ _ _ _ _ (by omega)  (rd_of hs_strangers) (by decide) ht5 (by omega) (by omega)  (by omega)) rfl (by omega) (Nat.le_of_ble_eq_true rfl) rfl (fun hp7 y9 ht8 by9 => ?_)
  obtain ⟨by91, by92⟩ := by9
  refine r_istore_n (pc := 17) (lv' := [(2, .int (iv y9)), (0, .ref ss), (1, .ref ga)]) dX7_colours_17 (i := 2) rfl (by decide) rfl ?_
  refine r_iload_n (pc := 18) dX7_colours_18 (i := 2) rfl rfl ?_
  refine r_istore_n (pc := 19) (lv' := [(3, .int (iv y9)), (2, .int (iv y9)), (0, .ref ss), (1, .ref ga)]) dX7_colours_19 (i := 3) rfl (by decide) rfl ?_
  have B20 : ∀ k : Nat, ∀ hp20 : MH, Tw Γ hp20 → ∀  (v20_3 : Int), 0 ≤ v20_3 ∧ v20_3 ≤ 18 ∧ y9 ≤ v20_3 → 18 - v20_3 ≤ (k : Int) → Rn (gG D cI cJ cZ cT lo b L xs) mX7_colours d 20 [(0, .ref ss), (1, .ref ga), (3, .int (iv v20_3))] [] hp20 n 0 0 (pR Γ n (-2147483648) 2147483647) := by
    refine lpS _ ?_
    intro k20 ih20 hp20 ht20 v20_3 hf20 hm20
    refine r_iload_n (pc := 20) dX7_colours_20 (i := 3) rfl rfl ?_
    refine r_aload_n (pc := 21) dX7_colours_21 (i := 1) rfl rfl ?_
    refine t_getE (pc := 22) (.int (iv (gn : Int))) ht20 hg_O fX7_44 dX7_colours_22 rfl ?_
    refine t_icmp_ge (pc := 25) (tgt := 63) dX7_colours_25 (by decide) (by omega) (by omega) (fun c25 => ?_) (fun c25 => ?_)
    · refine r_aload_n (pc := 63) dX7_colours_63 (i := 1) rfl rfl ?_
      refine t_getE (pc := 64) (.int (iv (gn : Int))) ht20 hg_O fX7_44 dX7_colours_64 rfl ?_
      exact r_iret (pc := 67) dX7_colours_67 rfl ⟨rfl, ht20, _, rfl, by omega, by omega⟩
    · refine r_aload_n (pc := 28) dX7_colours_28 (i := 0) rfl rfl ?_
      refine t_getE (pc := 29) (.ref (ss + 2)) ht20 (rd_of hs_O) fX7_15 dX7_colours_29 rfl ?_
      refine r_iconst (pc := 32) (v := iv 0) dX7_colours_32 (by decide) ?_
      refine t_fillI (pc := 33) ht20 hs_classes kX7_64 dX7_colours_33 (by omega) (by omega) (by omega) (by omega) (Nat.le_of_ble_eq_true rfl) (fun hp10 ht11 => ?_)
      refine r_aload_n (pc := 36) dX7_colours_36 (i := 0) rfl rfl ?_
      refine r_aload_n (pc := 37) dX7_colours_37 (i := 1) rfl rfl ?_
      refine t_getE (pc := 38) (.ref gJo) ht11 hg_O fX7_41 dX7_colours_38 rfl ?_
      refine r_aload_n (pc := 41) dX7_colours_41 (i := 1) rfl rfl ?_
      refine r_iload_n (pc := 42) dX7_colours_42 (i := 3) rfl rfl ?_
      refine t_callSR (pc := 43) (as := [.ref ga, .int (iv v20_3)]) (st := [.ref gJo, .ref ss]) kX7_70 dX7_colours_43 (t_X7_hardNodes (d := d - 1) (x1 := v20_3) (by omega) hg  ht11 (by omega) ) rfl (by omega) (Nat.le_of_ble_eq_true rfl) rfl (fun hp12 y14 ht13 by14 => ?_)
      refine r_iconst (pc := 46) (v := iv 0) dX7_colours_46 (by decide) ?_
      refine r_iload_n (pc := 47) dX7_colours_47 (i := 3) rfl rfl ?_
      refine r_iconst (pc := 48) (v := iv 0) dX7_colours_48 (by decide) ?_
      refine t_callVR (pc := 49) (as := [.ref gJo, .int (iv y14), .int (iv 0), .int (iv v20_3), .int (iv 0)]) (st := []) ht13 (rd_of hs_O) kX7_74 rfl dX7_colours_49 (t_X7_canColour (Int.toNat (16 - 0)) _ _ (d - 1) Γ _ _ _ _ _ _ _ (by omega) hs hg_joined (by omega) ht13 (by omega) (by omega) (by omega) (by omega)  (by omega)) rfl (by omega) (Nat.le_of_ble_eq_true rfl) rfl (fun hp15 y17 ht16 by17 => ?_)
      refine t_if_eq (pc := 52) (tgt := 57) dX7_colours_52 (by decide) (by omega) (fun c52 => ?_) (fun c52 => ?_)
      · refine r_iinc (pc := 57) (v := iv (v20_3 + 1)) (lv' := [(3, .int (iv (v20_3 + 1))), (0, .ref ss), (1, .ref ga)]) dX7_colours_57 rfl (iv_add _ _) (by decide) rfl ?_
        refine r_goto (pc := 60) (tgt := 20) dX7_colours_60 (by decide) ?_
        refine Rn.pick (lv' := [(0, .ref ss), (1, .ref ga), (3, .int (iv (v20_3 + 1)))]) [1, 2, 0] rfl ?_
        exact ih20 (Int.toNat (18 - (v20_3 + 1))) (by omega) _ ht16 (v20_3 + 1) ⟨by omega, by omega, by omega⟩ (by omega)
      · refine r_iload_n (pc := 55) dX7_colours_55 (i := 3) rfl rfl ?_
        exact r_iret (pc := 56) dX7_colours_56 rfl ⟨rfl, ht16, _, rfl, by omega, by omega⟩
  refine Rn.pick (lv' := [(0, .ref ss), (1, .ref ga), (3, .int (iv y9))]) [2, 3, 0] rfl ?_
  exact B20 (Int.toNat (18 - y9)) _ ht8 y9 ⟨by omega, by omega, by omega⟩ (by omega)
set_option maxHeartbeats 4000000 in
set_option maxRecDepth 100000 in
theorem t_X7_canGo {D : va_G} {cI cJ cZ cT : ClassId} {lo b L : Nat} {xs : Nat → Int32} (k : Nat) : ∀ (hp : MH) (n d : Nat) (Γ : TG) (ss : Nat) (x1 x2 x3 x4 : Int) (hd0 : k + 3 ≤ d) (hs : TySets Γ cI cJ cZ ss) (ht : Tw Γ hp) (hx1 : 0 ≤ x1 ∧ x1 ≤ 65535) (hx2 : 0 ≤ x2 ∧ x2 ≤ 15) (hx3 : 0 ≤ x3 ∧ x3 ≤ 65535) (hx4 : 0 ≤ x4 ∧ x4 ≤ 16) (hk9 : 16 - x4 ≤ (k : Int)), Mt (gG D cI cJ cZ cT lo b L xs) mX7_canGo d 0 0 [.ref ss, .int (iv x1), .int (iv x2), .int (iv x3), .int (iv x4)] hp n (pR Γ n 0 1) := by
  revert k
  refine lpS _ ?_
  intro k ih hp n d Γ ss x1 x2 x3 x4 hd0 hs ht hx1 hx2 hx3 hx4 hk9
  obtain ⟨hs_O, hs_strangers, hs_classes, hs_levels, hs_melted, hs_hopeless⟩ := id hs
  refine Mt.of rfl (Nat.le_of_ble_eq_true rfl) ?_
  refine Rn.pick (lv' := [(0, .ref ss), (1, .int (iv x1)), (2, .int (iv x2)), (3, .int (iv x3)), (4, .int (iv x4))]) [0, 1, 2, 3, 4] rfl ?_
  refine r_iload_n (pc := 0) dX7_canGo_0 (i := 1) rfl rfl ?_
  refine t_callSR (pc := 1) (as := [.int (iv x1)]) (st := []) kX7_52 dX7_canGo_1 (t_J6_bitCount_0f7a4 (d := d - 1) (x0 := x1) (by omega)   ht (by omega) ) rfl (by omega) (Nat.le_of_ble_eq_true rfl) rfl (fun hp1 y3 ht2 by3 => ?_)
  refine r_iload_n (pc := 4) dX7_canGo_4 (i := 2) rfl rfl ?_
  refine r_iconst (pc := 5) (v := iv 1) dX7_canGo_5 (by decide) ?_
  refine r_iadd (pc := 6) (v := iv (x2 + 1)) dX7_canGo_6 (iv_add _ _) ?_
  refine t_icmp_gt (pc := 7) (tgt := 12) dX7_canGo_7 (by decide) (by omega) (by omega) (fun c7 => ?_) (fun c7 => ?_)
  · refine r_iload (pc := 12) dX7_canGo_12 rfl ?_
    refine r_bipush (pc := 14) (v := iv 16) dX7_canGo_14 (by decide) ?_
    refine t_icmp_lt (pc := 16) (tgt := 21) dX7_canGo_16 (by decide) (by omega) (by omega) (fun c16 => ?_) (fun c16 => ?_)
    · refine r_aload_n (pc := 21) dX7_canGo_21 (i := 0) rfl rfl ?_
      refine r_iload_n (pc := 22) dX7_canGo_22 (i := 1) rfl rfl ?_
      refine r_iload_n (pc := 23) dX7_canGo_23 (i := 2) rfl rfl ?_
      refine r_iload_n (pc := 24) dX7_canGo_24 (i := 3) rfl rfl ?_
      refine r_iload (pc := 25) dX7_canGo_25 rfl ?_
      refine t_callVR (pc := 27) (as := [.int (iv x1), .int (iv x2), .int (iv x3), .int (iv x4)]) (st := []) ht2 (rd_of hs_O) kX7_116 rfl dX7_canGo_27 (t_X7_choices (d := d - 1) (x1 := x1) (x2 := x2) (x3 := x3) (x4 := x4) (by omega) hs  ht2 (by omega) (by omega) (by omega) (by omega) ) rfl (by omega) (Nat.le_of_ble_eq_true rfl) rfl (fun hp4 y6 ht5 by6 => ?_)
      refine r_istore (pc := 30) (lv' := [(5, .int (iv y6)), (0, .ref ss), (1, .int (iv x1)), (2, .int (iv x2)), (3, .int (iv x3)), (4, .int (iv x4))]) dX7_canGo_30 (by decide) rfl ?_
      refine r_iconst (pc := 32) (v := iv 0) dX7_canGo_32 (by decide) ?_
      refine r_istore (pc := 33) (lv' := [(6, .int (iv 0)), (5, .int (iv y6)), (0, .ref ss), (1, .int (iv x1)), (2, .int (iv x2)), (3, .int (iv x3)), (4, .int (iv x4))]) dX7_canGo_33 (by decide) rfl ?_
      have B35 : ∀ k : Nat, ∀ hp35 : MH, Tw Γ hp35 → ∀  (v35_6 : Int), 0 ≤ v35_6 ∧ v35_6 ≤ 16 → 16 - v35_6 ≤ (k : Int) → Rn (gG D cI cJ cZ cT lo b L xs) mX7_canGo d 35 [(0, .ref ss), (1, .int (iv x1)), (2, .int (iv x2)), (3, .int (iv x3)), (4, .int (iv x4)), (5, .int (iv y6)), (6, .int (iv v35_6))] [] hp35 n 0 0 (pR Γ n 0 1) := by
        refine lpS _ ?_
        intro k35 ih35 hp35 ht35 v35_6 hf35 hm35
        refine r_iload (pc := 35) dX7_canGo_35 rfl ?_
        refine r_bipush (pc := 37) (v := iv 16) dX7_canGo_37 (by decide) ?_
        refine t_icmp_ge (pc := 39) (tgt := 103) dX7_canGo_39 (by decide) (by omega) (by omega) (fun c39 => ?_) (fun c39 => ?_)
        · refine r_aload_n (pc := 103) dX7_canGo_103 (i := 0) rfl rfl ?_
          refine t_getE (pc := 104) (.ref (ss + 5)) ht35 (rd_of hs_O) fX7_24 dX7_canGo_104 rfl ?_
          refine r_iload_n (pc := 107) dX7_canGo_107 (i := 1) rfl rfl ?_
          refine r_iconst (pc := 108) (v := iv 5) dX7_canGo_108 (by decide) ?_
          obtain ⟨z7, hz7, bz7⟩ := any_i (((iv x1).toUInt32 >>> ((iv 5).toUInt32 &&& Int32.toUInt32 31)).toInt32)
          refine r_iushr (pc := 109) (v := iv z7) dX7_canGo_109 hz7 ?_
          refine r_sipush (pc := 110) (v := iv 2047) dX7_canGo_110 (by decide) ?_
          obtain ⟨z8, hz8, bz8⟩ := and_r z7 2047 (by omega) (by omega)
          refine r_iand (pc := 113) (v := iv z8) dX7_canGo_113 hz8 ?_
          refine r_dup2_11 (pc := 114) dX7_canGo_114 rfl rfl ?_
          refine t_iald (pc := 115) (t0 := 0) ht35 (rd_of hs_hopeless) dX7_canGo_115 rfl (by decide) (by omega) (fun y9 by9 _ => ?_)
          refine r_iconst (pc := 116) (v := iv 1) dX7_canGo_116 (by decide) ?_
          refine r_iload_n (pc := 117) dX7_canGo_117 (i := 1) rfl rfl ?_
          refine r_bipush (pc := 118) (v := iv 31) dX7_canGo_118 (by decide) ?_
          obtain ⟨z10, hz10, bz10⟩ := and_2 x1 31 (by omega) (by omega)
          refine r_iand (pc := 120) (v := iv z10) dX7_canGo_120 hz10 ?_
          obtain ⟨z11, hz11, bz11⟩ := any_i (iv 1 <<< (iv z10 &&& 31))
          refine r_ishl (pc := 121) (v := iv z11) dX7_canGo_121 hz11 ?_
          obtain ⟨z12, hz12, bz12⟩ := any_i (iv y9 ||| iv z11)
          refine r_ior (pc := 122) (v := iv z12) dX7_canGo_122 hz12 ?_
          refine t_iast (pc := 123) (t0 := 0) ht35 hs_hopeless dX7_canGo_123 rfl (by decide) (by omega) (by omega) trivial (fun hp13 ht14 => ?_)
          refine r_iconst (pc := 124) (v := iv 0) dX7_canGo_124 (by decide) ?_
          exact r_zret (pc := 125) dX7_canGo_125 rfl (iv_nar (by omega)) ⟨rfl, ht14, _, rfl, by omega, by omega⟩
        · refine r_iload_n (pc := 42) dX7_canGo_42 (i := 1) rfl rfl ?_
          refine r_iconst (pc := 43) (v := iv 1) dX7_canGo_43 (by decide) ?_
          refine r_iload (pc := 44) dX7_canGo_44 rfl ?_
          obtain ⟨z15, hz15, bz15⟩ := shl_1 0 15 v35_6 (by omega) (by omega) (by decide)
          refine r_ishl (pc := 46) (v := iv z15) dX7_canGo_46 hz15 ?_
          refine r_iconst (pc := 47) (v := iv (-1)) dX7_canGo_47 (by decide) ?_
          refine r_ixor (pc := 48) (v := iv (-z15 - 1)) dX7_canGo_48 (iv_not _) ?_
          obtain ⟨z16, hz16, bz16⟩ := and_l x1 (-z15 - 1) (by omega) (by omega)
          refine r_iand (pc := 49) (v := iv z16) dX7_canGo_49 hz16 ?_
          refine r_istore (pc := 50) (lv' := [(7, .int (iv z16)), (0, .ref ss), (1, .int (iv x1)), (2, .int (iv x2)), (3, .int (iv x3)), (4, .int (iv x4)), (5, .int (iv y6)), (6, .int (iv v35_6))]) dX7_canGo_50 (by decide) rfl ?_
          refine r_iload (pc := 52) dX7_canGo_52 rfl ?_
          refine r_iload (pc := 54) dX7_canGo_54 rfl ?_
          obtain ⟨z17, hz17, bz17⟩ := shr_x y6 v35_6 (by omega) (by omega)
          refine r_ishr (pc := 56) (v := iv z17) dX7_canGo_56 hz17 ?_
          refine r_iconst (pc := 57) (v := iv 1) dX7_canGo_57 (by decide) ?_
          obtain ⟨z18, hz18, bz18⟩ := and_2 z17 1 (by omega) (by omega)
          refine r_iand (pc := 58) (v := iv z18) dX7_canGo_58 hz18 ?_
          have B97 : ∀ hp97 : MH, Tw Γ hp97 → True → Rn (gG D cI cJ cZ cT lo b L xs) mX7_canGo d 97 [(0, .ref ss), (1, .int (iv x1)), (2, .int (iv x2)), (3, .int (iv x3)), (4, .int (iv x4)), (5, .int (iv y6)), (6, .int (iv v35_6))] [] hp97 n 0 0 (pR Γ n 0 1) := by
            intro hp97 ht97 hf97
            refine r_iinc (pc := 97) (v := iv (v35_6 + 1)) (lv' := [(6, .int (iv (v35_6 + 1))), (0, .ref ss), (1, .int (iv x1)), (2, .int (iv x2)), (3, .int (iv x3)), (4, .int (iv x4)), (5, .int (iv y6))]) dX7_canGo_97 rfl (iv_add _ _) (by decide) rfl ?_
            refine r_goto (pc := 100) (tgt := 35) dX7_canGo_100 (by decide) ?_
            refine Rn.pick (lv' := [(0, .ref ss), (1, .int (iv x1)), (2, .int (iv x2)), (3, .int (iv x3)), (4, .int (iv x4)), (5, .int (iv y6)), (6, .int (iv (v35_6 + 1)))]) [1, 2, 3, 4, 5, 6, 0] rfl ?_
            exact ih35 (Int.toNat (16 - (v35_6 + 1))) (by omega) _ ht97 (v35_6 + 1) ⟨by omega, by omega⟩ (by omega)
          refine t_if_eq (pc := 59) (tgt := 97) dX7_canGo_59 (by decide) (by omega) (fun c59 => ?_) (fun c59 => ?_)
          · refine Rn.pick (lv' := [(0, .ref ss), (1, .int (iv x1)), (2, .int (iv x2)), (3, .int (iv x3)), (4, .int (iv x4)), (5, .int (iv y6)), (6, .int (iv v35_6))]) [1, 2, 3, 4, 5, 6, 7] rfl ?_
            exact B97 _ ht35 trivial
          · refine r_aload_n (pc := 62) dX7_canGo_62 (i := 0) rfl rfl ?_
            refine r_iload (pc := 63) dX7_canGo_63 rfl ?_
            refine t_callVR (pc := 65) (as := [.int (iv z16)]) (st := []) ht35 (rd_of hs_O) kX7_120 rfl dX7_canGo_65 (t_X7_isHopeless (d := d - 1) (x1 := z16) (by omega) hs  ht35 (by omega) ) rfl (by omega) (Nat.le_of_ble_eq_true rfl) rfl (fun hp19 y21 ht20 by21 => ?_)
            refine t_if_ne (pc := 68) (tgt := 97) dX7_canGo_68 (by decide) (by omega) (fun c68 => ?_) (fun c68 => ?_)
            · refine Rn.pick (lv' := [(0, .ref ss), (1, .int (iv x1)), (2, .int (iv x2)), (3, .int (iv x3)), (4, .int (iv x4)), (5, .int (iv y6)), (6, .int (iv v35_6))]) [1, 2, 3, 4, 5, 6, 7] rfl ?_
              exact B97 _ ht20 trivial
            · refine r_aload_n (pc := 71) dX7_canGo_71 (i := 0) rfl rfl ?_
              refine r_iload (pc := 72) dX7_canGo_72 rfl ?_
              refine r_iload_n (pc := 74) dX7_canGo_74 (i := 1) rfl rfl ?_
              refine r_iload (pc := 75) dX7_canGo_75 rfl ?_
              refine t_callVV (pc := 77) (as := [.int (iv v35_6), .int (iv x1), .int (iv x4)]) (st := []) ht20 (rd_of hs_O) kX7_124 rfl dX7_canGo_77 (t_X7_takeOut (d := d - 1) (x1 := v35_6) (x2 := x1) (x3 := x4) (by omega) hs  ht20 (by omega) (by omega) (by omega) ) rfl (by omega) (Nat.le_of_ble_eq_true rfl) rfl (fun hp22 ht23 => ?_)
              refine r_aload_n (pc := 80) dX7_canGo_80 (i := 0) rfl rfl ?_
              refine r_iload (pc := 81) dX7_canGo_81 rfl ?_
              refine r_iload_n (pc := 83) dX7_canGo_83 (i := 2) rfl rfl ?_
              refine r_iload_n (pc := 84) dX7_canGo_84 (i := 3) rfl rfl ?_
              refine r_iload (pc := 85) dX7_canGo_85 rfl ?_
              refine r_iconst (pc := 87) (v := iv 1) dX7_canGo_87 (by decide) ?_
              refine r_iadd (pc := 88) (v := iv (x4 + 1)) dX7_canGo_88 (iv_add _ _) ?_
              refine t_callVR (pc := 89) (as := [.int (iv z16), .int (iv x2), .int (iv x3), .int (iv (x4 + 1))]) (st := []) ht23 (rd_of hs_O) kX7_99 rfl dX7_canGo_89 (ih (Int.toNat (16 - (x4 + 1))) (by omega) _ _ (d - 1) Γ _ _ _ _ _ (by omega) hs  ht23 (by omega) (by omega) (by omega) (by omega)  (by omega)) rfl (by omega) (Nat.le_of_ble_eq_true rfl) rfl (fun hp25 y27 ht26 by27 => ?_)
              refine t_if_eq (pc := 92) (tgt := 97) dX7_canGo_92 (by decide) (by omega) (fun c92 => ?_) (fun c92 => ?_)
              · refine Rn.pick (lv' := [(0, .ref ss), (1, .int (iv x1)), (2, .int (iv x2)), (3, .int (iv x3)), (4, .int (iv x4)), (5, .int (iv y6)), (6, .int (iv v35_6))]) [1, 2, 3, 4, 5, 6, 7] rfl ?_
                exact B97 _ ht26 trivial
              · refine r_iconst (pc := 95) (v := iv 1) dX7_canGo_95 (by decide) ?_
                exact r_zret (pc := 96) dX7_canGo_96 rfl (iv_nar (by omega)) ⟨rfl, ht26, _, rfl, by omega, by omega⟩
      refine Rn.pick (lv' := [(0, .ref ss), (1, .int (iv x1)), (2, .int (iv x2)), (3, .int (iv x3)), (4, .int (iv x4)), (5, .int (iv y6)), (6, .int (iv 0))]) [2, 3, 4, 5, 6, 1, 0] rfl ?_
      exact B35 (Int.toNat (16 - 0)) _ ht5 0 ⟨by omega, by omega⟩ (by omega)
    · refine r_iconst (pc := 19) (v := iv 0) dX7_canGo_19 (by decide) ?_
      exact r_zret (pc := 20) dX7_canGo_20 rfl (iv_nar (by omega)) ⟨rfl, ht2, _, rfl, by omega, by omega⟩
  · refine r_iconst (pc := 10) (v := iv 1) dX7_canGo_10 (by decide) ?_
    exact r_zret (pc := 11) dX7_canGo_11 rfl (iv_nar (by omega)) ⟨rfl, ht2, _, rfl, by omega, by omega⟩
set_option maxHeartbeats 4000000 in
set_option maxRecDepth 100000 in
theorem t_X7_widthOf {D : va_G} {cI cJ cZ cT : ClassId} {lo b L : Nat} {xs : Nat → Int32} {hp : MH} {n d : Nat} {Γ : TG} {ss : Nat} {ga : Nat} {gF : Nat} {gT : Nat} {gW : Nat} {gC : Nat} {gTl : Nat} {gHd : Nat} {gBy : Nat} {gOu : Nat} {gIn : Nat} {gJo : Nat} {gn : Nat} {gm : Nat} {gq : Nat} {gdr : Int} {x2 x3 : Int} (hd0 : 20 ≤ d) (hs : TySets Γ cI cJ cZ ss) (hg : TyG Γ cI cJ cZ ga gF gT gW gC gTl gHd gBy gOu gIn gJo gn gm gq gdr) (ht : Tw Γ hp) (hx2 : 0 ≤ x2 ∧ x2 ≤ 65535) (hx3 : 0 ≤ x3 ∧ x3 ≤ 15) : Mt (gG D cI cJ cZ cT lo b L xs) mX7_widthOf d 0 0 [.ref ss, .ref ga, .int (iv x2), .int (iv x3)] hp n (pR Γ n 0 15) := by
  obtain ⟨hs_O, hs_strangers, hs_classes, hs_levels, hs_melted, hs_hopeless⟩ := id hs
  obtain ⟨hg_O, hg_from, hg_to, hg_weight, hg_cost, hg_tail, hg_head, hg_by, hg_out, hg_in, hg_joined, hg_b⟩ := id hg
  refine Mt.of rfl (Nat.le_of_ble_eq_true rfl) ?_
  refine Rn.pick (lv' := [(0, .ref ss), (1, .ref ga), (2, .int (iv x2)), (3, .int (iv x3))]) [0, 1, 2, 3] rfl ?_
  refine r_aload_n (pc := 0) dX7_widthOf_0 (i := 1) rfl rfl ?_
  refine t_getE (pc := 1) (.ref gJo) ht hg_O fX7_41 dX7_widthOf_1 rfl ?_
  refine r_iconst (pc := 4) (v := iv 0) dX7_widthOf_4 (by decide) ?_
  refine r_aload_n (pc := 5) dX7_widthOf_5 (i := 0) rfl rfl ?_
  refine t_getE (pc := 6) (.ref (ss + 3)) ht (rd_of hs_O) fX7_18 dX7_widthOf_6 rfl ?_
  refine r_iconst (pc := 9) (v := iv 0) dX7_widthOf_9 (by decide) ?_
  refine r_aload_n (pc := 10) dX7_widthOf_10 (i := 1) rfl rfl ?_
  refine t_getE (pc := 11) (.int (iv (gn : Int))) ht hg_O fX7_44 dX7_widthOf_11 rfl ?_
  refine t_copyI (pc := 14) (t0 := 0) ht hg_joined hs_levels aX7_90 dX7_widthOf_14 rfl (by omega) (by omega) (by omega) (Nat.le_of_ble_eq_true rfl) (fun hp1 ht2 => ?_)
  refine r_iload_n (pc := 17) dX7_widthOf_17 (i := 3) rfl rfl ?_
  refine r_aload_n (pc := 18) dX7_widthOf_18 (i := 0) rfl rfl ?_
  refine r_aload_n (pc := 19) dX7_widthOf_19 (i := 1) rfl rfl ?_
  refine r_iload_n (pc := 20) dX7_widthOf_20 (i := 2) rfl rfl ?_
  refine t_callVR (pc := 21) (as := [.ref ga, .int (iv x2)]) (st := [.int (iv x3)]) ht2 (rd_of hs_O) kX7_96 rfl dX7_widthOf_21 (t_X7_lowWidth (d := d - 1) (x2 := x2) (by omega) hs hg  ht2 (by omega) ) rfl (by omega) (Nat.le_of_ble_eq_true rfl) rfl (fun hp3 y5 ht4 by5 => ?_)
  obtain ⟨z6, hz6, bz6⟩ := max_b x3 y5 (by omega) (by omega)
  refine r_mmax (pc := 24) (v := iv z6) qX7_58 dX7_widthOf_24 (Nat.le_of_ble_eq_true rfl) hz6 ?_
  refine r_istore (pc := 27) (lv' := [(4, .int (iv z6)), (0, .ref ss), (1, .ref ga), (2, .int (iv x2)), (3, .int (iv x3))]) dX7_widthOf_27 (by decide) rfl ?_
  refine r_aload_n (pc := 29) dX7_widthOf_29 (i := 0) rfl rfl ?_
  refine t_getE (pc := 30) (.ref (ss + 1)) ht4 (rd_of hs_O) fX7_9 dX7_widthOf_30 rfl ?_
  refine r_iload_n (pc := 33) dX7_widthOf_33 (i := 2) rfl rfl ?_
  refine t_callSR (pc := 34) (as := [.ref (ss + 1), .int (iv x2)]) (st := []) kX7_37 dX7_widthOf_34 (t_X7_leastOfGreatest (d := d - 1) (rA := (ss + 1)) (rL := 16) (x1 := x2) (by omega)  (rd_of hs_strangers) (by decide) ht4 (by omega) ) rfl (by omega) (Nat.le_of_ble_eq_true rfl) rfl (fun hp7 y9 ht8 by9 => ?_)
  refine r_istore (pc := 37) (lv' := [(5, .int (iv y9)), (4, .int (iv z6)), (0, .ref ss), (1, .ref ga), (2, .int (iv x2)), (3, .int (iv x3))]) dX7_widthOf_37 (by decide) rfl ?_
  refine r_iload (pc := 39) dX7_widthOf_39 rfl ?_
  refine r_istore (pc := 41) (lv' := [(6, .int (iv z6)), (5, .int (iv y9)), (4, .int (iv z6)), (0, .ref ss), (1, .ref ga), (2, .int (iv x2)), (3, .int (iv x3))]) dX7_widthOf_41 (by decide) rfl ?_
  have B43 : ∀ k : Nat, ∀ hp43 : MH, Tw Γ hp43 → ∀  (v43_6 : Int), 0 ≤ v43_6 ∧ v43_6 ≤ 63 ∧ z6 ≤ v43_6 → 63 - v43_6 ≤ (k : Int) → Rn (gG D cI cJ cZ cT lo b L xs) mX7_widthOf d 43 [(0, .ref ss), (2, .int (iv x2)), (5, .int (iv y9)), (6, .int (iv v43_6))] [] hp43 n 0 0 (pR Γ n 0 15) := by
    refine lpS _ ?_
    intro k43 ih43 hp43 ht43 v43_6 hf43 hm43
    refine r_iload (pc := 43) dX7_widthOf_43 rfl ?_
    refine r_bipush (pc := 45) (v := iv 16) dX7_widthOf_45 (by decide) ?_
    refine t_icmp_ge (pc := 47) (tgt := 80) dX7_widthOf_47 (by decide) (by omega) (by omega) (fun c47 => ?_) (fun c47 => ?_)
    · refine r_bipush (pc := 80) (v := iv 15) dX7_widthOf_80 (by decide) ?_
      exact r_iret (pc := 82) dX7_widthOf_82 rfl ⟨rfl, ht43, _, rfl, by omega, by omega⟩
    · refine r_aload_n (pc := 50) dX7_widthOf_50 (i := 0) rfl rfl ?_
      refine t_getE (pc := 51) (.ref (ss + 5)) ht43 (rd_of hs_O) fX7_24 dX7_widthOf_51 rfl ?_
      refine r_iconst (pc := 54) (v := iv 0) dX7_widthOf_54 (by decide) ?_
      refine t_fillA (pc := 55) ht43 hs_hopeless kX7_64 dX7_widthOf_55 (by omega) (by omega) (Nat.le_of_ble_eq_true rfl) (fun hp10 ht11 => ?_)
      refine r_aload_n (pc := 58) dX7_widthOf_58 (i := 0) rfl rfl ?_
      refine r_iload_n (pc := 59) dX7_widthOf_59 (i := 2) rfl rfl ?_
      refine r_iload (pc := 60) dX7_widthOf_60 rfl ?_
      refine r_iload (pc := 62) dX7_widthOf_62 rfl ?_
      refine r_iconst (pc := 64) (v := iv 0) dX7_widthOf_64 (by decide) ?_
      refine t_callVR (pc := 65) (as := [.int (iv x2), .int (iv v43_6), .int (iv y9), .int (iv 0)]) (st := []) ht11 (rd_of hs_O) kX7_99 rfl dX7_widthOf_65 (t_X7_canGo (Int.toNat (16 - 0)) _ _ (d - 1) Γ _ _ _ _ _ (by omega) hs  ht11 (by omega) (by omega) (by omega) (by omega)  (by omega)) rfl (by omega) (Nat.le_of_ble_eq_true rfl) rfl (fun hp12 y14 ht13 by14 => ?_)
      refine t_if_eq (pc := 68) (tgt := 74) dX7_widthOf_68 (by decide) (by omega) (fun c68 => ?_) (fun c68 => ?_)
      · refine r_iinc (pc := 74) (v := iv (v43_6 + 1)) (lv' := [(6, .int (iv (v43_6 + 1))), (0, .ref ss), (2, .int (iv x2)), (5, .int (iv y9))]) dX7_widthOf_74 rfl (iv_add _ _) (by decide) rfl ?_
        refine r_goto (pc := 77) (tgt := 43) dX7_widthOf_77 (by decide) ?_
        refine Rn.pick (lv' := [(0, .ref ss), (2, .int (iv x2)), (5, .int (iv y9)), (6, .int (iv (v43_6 + 1)))]) [1, 2, 3, 0] rfl ?_
        exact ih43 (Int.toNat (63 - (v43_6 + 1))) (by omega) _ ht13 (v43_6 + 1) ⟨by omega, by omega, by omega⟩ (by omega)
      · refine r_iload (pc := 71) dX7_widthOf_71 rfl ?_
        exact r_iret (pc := 73) dX7_widthOf_73 rfl ⟨rfl, ht13, _, rfl, by omega, by omega⟩
  refine Rn.pick (lv' := [(0, .ref ss), (2, .int (iv x2)), (5, .int (iv y9)), (6, .int (iv z6))]) [3, 5, 1, 0] rfl ?_
  exact B43 (Int.toNat (63 - z6)) _ ht8 z6 ⟨by omega, by omega, by omega⟩ (by omega)
set_option maxHeartbeats 4000000 in
set_option maxRecDepth 100000 in
theorem t_X7_width {D : va_G} {cI cJ cZ cT : ClassId} {lo b L : Nat} {xs : Nat → Int32} {hp : MH} {n d : Nat} {Γ : TG} {ss : Nat} {ga : Nat} {gF : Nat} {gT : Nat} {gW : Nat} {gC : Nat} {gTl : Nat} {gHd : Nat} {gBy : Nat} {gOu : Nat} {gIn : Nat} {gJo : Nat} {gn : Nat} {gm : Nat} {gq : Nat} {gdr : Int} (hd0 : 21 ≤ d) (hs : TySets Γ cI cJ cZ ss) (hg : TyG Γ cI cJ cZ ga gF gT gW gC gTl gHd gBy gOu gIn gJo gn gm gq gdr) (ht : Tw Γ hp)  : Mt (gG D cI cJ cZ cT lo b L xs) mX7_width d 0 0 [.ref ss, .ref ga] hp n (pR Γ n 0 15) := by
  obtain ⟨hs_O, hs_strangers, hs_classes, hs_levels, hs_melted, hs_hopeless⟩ := id hs
  obtain ⟨hg_O, hg_from, hg_to, hg_weight, hg_cost, hg_tail, hg_head, hg_by, hg_out, hg_in, hg_joined, hg_b⟩ := id hg
  refine Mt.of rfl (Nat.le_of_ble_eq_true rfl) ?_
  refine Rn.pick (lv' := [(0, .ref ss), (1, .ref ga)]) [0, 1] rfl ?_
  refine r_aload_n (pc := 0) dX7_width_0 (i := 1) rfl rfl ?_
  refine t_callVR (pc := 1) (as := []) (st := []) ht hg_O kX7_31 rfl dX7_width_1 (t_X3_allNodes (d := d - 1)  (by omega) hg  ht  ) rfl (by omega) (Nat.le_of_ble_eq_true rfl) rfl (fun hp1 y3 ht2 by3 => ?_)
  refine r_istore_n (pc := 4) (lv' := [(2, .int (iv y3)), (0, .ref ss), (1, .ref ga)]) dX7_width_4 (i := 2) rfl (by decide) rfl ?_
  refine r_iconst (pc := 5) (v := iv 0) dX7_width_5 (by decide) ?_
  refine r_istore_n (pc := 6) (lv' := [(3, .int (iv 0)), (2, .int (iv y3)), (0, .ref ss), (1, .ref ga)]) dX7_width_6 (i := 3) rfl (by decide) rfl ?_
  refine r_aload_n (pc := 7) dX7_width_7 (i := 0) rfl rfl ?_
  refine r_aload_n (pc := 8) dX7_width_8 (i := 1) rfl rfl ?_
  refine t_callVV (pc := 9) (as := [.ref ga]) (st := []) ht2 (rd_of hs_O) kX7_27 rfl dX7_width_9 (t_X7_fillStrangers (d := d - 1)  (by omega) hs hg  ht2  ) rfl (by omega) (Nat.le_of_ble_eq_true rfl) rfl (fun hp4 ht5 => ?_)
  refine r_iconst (pc := 12) (v := iv 0) dX7_width_12 (by decide) ?_
  refine r_istore (pc := 13) (lv' := [(4, .int (iv 0)), (3, .int (iv 0)), (2, .int (iv y3)), (0, .ref ss), (1, .ref ga)]) dX7_width_13 (by decide) rfl ?_
  have B15 : ∀ k : Nat, ∀ hp15 : MH, Tw Γ hp15 → ∀  (v15_2 : Int) (v15_3 : Int) (v15_4 : Int), 0 ≤ v15_2 ∧ v15_2 ≤ 65535 ∧ v15_2 ≤ y3 ∧ 0 ≤ v15_3 ∧ v15_3 ≤ 15 ∧ 0 ≤ v15_4 ∧ v15_4 ≤ 16 → 16 - v15_4 ≤ (k : Int) → Rn (gG D cI cJ cZ cT lo b L xs) mX7_width d 15 [(0, .ref ss), (1, .ref ga), (2, .int (iv v15_2)), (3, .int (iv v15_3)), (4, .int (iv v15_4))] [] hp15 n 0 0 (pR Γ n 0 15) := by
    refine lpS _ ?_
    intro k15 ih15 hp15 ht15 v15_2 v15_3 v15_4 hf15 hm15
    refine r_iload (pc := 15) dX7_width_15 rfl ?_
    refine r_bipush (pc := 17) (v := iv 16) dX7_width_17 (by decide) ?_
    have B73 : ∀ hp73 : MH, Tw Γ hp73 → True → Rn (gG D cI cJ cZ cT lo b L xs) mX7_width d 73 [(3, .int (iv v15_3))] [] hp73 n 0 0 (pR Γ n 0 15) := by
      intro hp73 ht73 hf73
      refine r_iload_n (pc := 73) dX7_width_73 (i := 3) rfl rfl ?_
      exact r_iret (pc := 74) dX7_width_74 rfl ⟨rfl, ht73, _, rfl, by omega, by omega⟩
    refine t_icmp_ge (pc := 19) (tgt := 73) dX7_width_19 (by decide) (by omega) (by omega) (fun c19 => ?_) (fun c19 => ?_)
    · refine Rn.pick (lv' := [(3, .int (iv v15_3))]) [3] rfl ?_
      exact B73 _ ht15 trivial
    · refine r_iload_n (pc := 22) dX7_width_22 (i := 2) rfl rfl ?_
      refine t_if_eq (pc := 23) (tgt := 73) dX7_width_23 (by decide) (by omega) (fun c23 => ?_) (fun c23 => ?_)
      · refine Rn.pick (lv' := [(3, .int (iv v15_3))]) [3] rfl ?_
        exact B73 _ ht15 trivial
      · refine r_aload_n (pc := 26) dX7_width_26 (i := 1) rfl rfl ?_
        refine t_getE (pc := 27) (.ref gJo) ht15 hg_O fX7_41 dX7_width_27 rfl ?_
        refine r_iload_n (pc := 30) dX7_width_30 (i := 2) rfl rfl ?_
        refine r_iload_n (pc := 31) dX7_width_31 (i := 2) rfl rfl ?_
        refine r_ineg (pc := 32) (v := iv (-v15_2)) dX7_width_32 (iv_neg _) ?_
        obtain ⟨z7, hz7, bz7⟩ := and_l v15_2 (-v15_2) (by omega) (by omega)
        refine r_iand (pc := 33) (v := iv z7) dX7_width_33 hz7 ?_
        refine r_iload_n (pc := 34) dX7_width_34 (i := 2) rfl rfl ?_
        refine t_callSR (pc := 35) (as := [.ref gJo, .int (iv z7), .int (iv v15_2)]) (st := []) kX7_81 dX7_width_35 (t_X8_reach (d := d - 1) (rA := gJo) (rL := gn) (x1 := z7) (x2 := v15_2) (by omega)  hg_joined (by omega) ht15 (by omega) (by omega) ) rfl (by omega) (Nat.le_of_ble_eq_true rfl) rfl (fun hp8 y10 ht9 by10 => ?_)
        refine r_istore (pc := 38) (lv' := [(5, .int (iv y10)), (0, .ref ss), (1, .ref ga), (2, .int (iv v15_2)), (3, .int (iv v15_3)), (4, .int (iv v15_4))]) dX7_width_38 (by decide) rfl ?_
        refine r_iload_n (pc := 40) dX7_width_40 (i := 2) rfl rfl ?_
        refine r_iload (pc := 41) dX7_width_41 rfl ?_
        refine r_iconst (pc := 43) (v := iv (-1)) dX7_width_43 (by decide) ?_
        refine r_ixor (pc := 44) (v := iv (-y10 - 1)) dX7_width_44 (iv_not _) ?_
        obtain ⟨z11, hz11, bz11⟩ := and_l v15_2 (-y10 - 1) (by omega) (by omega)
        refine r_iand (pc := 45) (v := iv z11) dX7_width_45 hz11 ?_
        refine r_istore_n (pc := 46) (lv' := [(2, .int (iv z11)), (5, .int (iv y10)), (0, .ref ss), (1, .ref ga), (3, .int (iv v15_3)), (4, .int (iv v15_4))]) dX7_width_46 (i := 2) rfl (by decide) rfl ?_
        refine r_iload (pc := 47) dX7_width_47 rfl ?_
        refine t_callSR (pc := 49) (as := [.int (iv y10)]) (st := []) kX7_52 dX7_width_49 (t_J6_bitCount_0f7a4 (d := d - 1) (x0 := y10) (by omega)   ht9 (by omega) ) rfl (by omega) (Nat.le_of_ble_eq_true rfl) rfl (fun hp12 y14 ht13 by14 => ?_)
        refine r_iload_n (pc := 52) dX7_width_52 (i := 3) rfl rfl ?_
        refine r_iconst (pc := 53) (v := iv 1) dX7_width_53 (by decide) ?_
        refine r_iadd (pc := 54) (v := iv (v15_3 + 1)) dX7_width_54 (iv_add _ _) ?_
        have B67 : ∀ hp67 : MH, Tw Γ hp67 → ∀  (v67_3 : Int), 0 ≤ v67_3 ∧ v67_3 ≤ 15 → Rn (gG D cI cJ cZ cT lo b L xs) mX7_width d 67 [(0, .ref ss), (1, .ref ga), (2, .int (iv z11)), (3, .int (iv v67_3)), (4, .int (iv v15_4))] [] hp67 n 0 0 (pR Γ n 0 15) := by
          intro hp67 ht67 v67_3 hf67
          refine r_iinc (pc := 67) (v := iv (v15_4 + 1)) (lv' := [(4, .int (iv (v15_4 + 1))), (0, .ref ss), (1, .ref ga), (2, .int (iv z11)), (3, .int (iv v67_3))]) dX7_width_67 rfl (iv_add _ _) (by decide) rfl ?_
          refine r_goto (pc := 70) (tgt := 15) dX7_width_70 (by decide) ?_
          refine Rn.pick (lv' := [(0, .ref ss), (1, .ref ga), (2, .int (iv z11)), (3, .int (iv v67_3)), (4, .int (iv (v15_4 + 1)))]) [1, 2, 3, 4, 0] rfl ?_
          exact ih15 (Int.toNat (16 - (v15_4 + 1))) (by omega) _ ht67 z11 v67_3 (v15_4 + 1) ⟨by omega, by omega, by omega, by omega, by omega, by omega, by omega⟩ (by omega)
        refine t_icmp_le (pc := 55) (tgt := 67) dX7_width_55 (by decide) (by omega) (by omega) (fun c55 => ?_) (fun c55 => ?_)
        · refine Rn.pick (lv' := [(0, .ref ss), (1, .ref ga), (2, .int (iv z11)), (3, .int (iv v15_3)), (4, .int (iv v15_4))]) [2, 3, 0, 4, 5] rfl ?_
          exact B67 _ ht13 v15_3 ⟨by omega, by omega⟩
        · refine r_aload_n (pc := 58) dX7_width_58 (i := 0) rfl rfl ?_
          refine r_aload_n (pc := 59) dX7_width_59 (i := 1) rfl rfl ?_
          refine r_iload (pc := 60) dX7_width_60 rfl ?_
          refine r_iload_n (pc := 62) dX7_width_62 (i := 3) rfl rfl ?_
          refine t_callVR (pc := 63) (as := [.ref ga, .int (iv y10), .int (iv v15_3)]) (st := []) ht13 (rd_of hs_O) kX7_86 rfl dX7_width_63 (t_X7_widthOf (d := d - 1) (x2 := y10) (x3 := v15_3) (by omega) hs hg  ht13 (by omega) (by omega) ) rfl (by omega) (Nat.le_of_ble_eq_true rfl) rfl (fun hp15 y17 ht16 by17 => ?_)
          refine r_istore_n (pc := 66) (lv' := [(3, .int (iv y17)), (2, .int (iv z11)), (5, .int (iv y10)), (0, .ref ss), (1, .ref ga), (4, .int (iv v15_4))]) dX7_width_66 (i := 3) rfl (by decide) rfl ?_
          refine Rn.pick (lv' := [(0, .ref ss), (1, .ref ga), (2, .int (iv z11)), (3, .int (iv y17)), (4, .int (iv v15_4))]) [3, 4, 1, 0, 5] rfl ?_
          exact B67 _ ht16 y17 ⟨by omega, by omega⟩
  refine Rn.pick (lv' := [(0, .ref ss), (1, .ref ga), (2, .int (iv y3)), (3, .int (iv 0)), (4, .int (iv 0))]) [3, 4, 2, 1, 0] rfl ?_
  exact B15 (Int.toNat (16 - 0)) _ ht5 y3 0 0 ⟨by omega, by omega, by omega, by omega, by omega, by omega, by omega⟩ (by omega)
