set_option maxHeartbeats 4000000 in
set_option maxRecDepth 100000 in
theorem t_X2_addLink {D : va_G} {cI cJ cZ cT : ClassId} {lo b L : Nat} {xs : Nat → Int32} {hp : MH} {n d : Nat} {Γ : TG} {fs : Nat} {x1 x2 x3 x4 : Int} (hd0 : 0 ≤ d) (hf : TyFlows Γ cI cJ cZ fs) (ht : Tw Γ hp) (hx1 : 0 ≤ x1 ∧ x1 ≤ 15) (hx2 : 0 ≤ x2 ∧ x2 ≤ 15) (hx3 : (-2147483648) ≤ x3 ∧ x3 ≤ 2147483647) (hx4 : (-2147483648) ≤ x4 ∧ x4 ≤ 2147483647) : Mt (gG D cI cJ cZ cT lo b L xs) mX2_addLink d 0 0 [.ref fs, .int (iv x1), .int (iv x2), .int (iv x3), .int (iv x4)] hp n (pV Γ n) := by
  obtain ⟨hf_O, hf_room, hf_before, hf_queue, hf_linkTail, hf_linkHead, hf_linkRoom, hf_linkCost, hf_distance⟩ := id hf
  refine Mt.of rfl (Nat.le_of_ble_eq_true rfl) ?_
  refine Rn.pick (lv' := [(0, .ref fs), (1, .int (iv x1)), (2, .int (iv x2)), (3, .int (iv x3)), (4, .int (iv x4))]) [0, 1, 2, 3, 4] rfl ?_
  refine r_aload_n (pc := 0) dX2_addLink_0 (i := 0) rfl rfl ?_
  refine t_getI (pc := 1) ht (rd_of hf_O) fX2_89 dX2_addLink_1 rfl (fun y1 by1 => ?_)
  refine r_istore (pc := 4) (lv' := [(5, .int (iv y1)), (0, .ref fs), (1, .int (iv x1)), (2, .int (iv x2)), (3, .int (iv x3)), (4, .int (iv x4))]) dX2_addLink_4 (by decide) rfl ?_
  refine r_iload (pc := 6) dX2_addLink_6 rfl ?_
  have B60 : ∀ hp60 : MH, Tw Γ hp60 → True → Rn (gG D cI cJ cZ cT lo b L xs) mX2_addLink d 60 [] [] hp60 n 0 0 (pV Γ n) := by
    intro hp60 ht60 hf60
    exact r_vret (pc := 60) dX2_addLink_60 rfl ⟨rfl, ht60, rfl⟩
  refine t_if_lt (pc := 8) (tgt := 60) dX2_addLink_8 (by decide) (by omega) (fun c8 => ?_) (fun c8 => ?_)
  · exfalso
    omega
  · refine r_iload (pc := 11) dX2_addLink_11 rfl ?_
    refine r_sipush (pc := 13) (v := iv 240) dX2_addLink_13 (by decide) ?_
    refine t_icmp_ge (pc := 16) (tgt := 60) dX2_addLink_16 (by decide) (by omega) (by omega) (fun c16 => ?_) (fun c16 => ?_)
    · refine Rn.pick (lv' := []) [] rfl ?_
      exact B60 _ ht trivial
    · refine r_aload_n (pc := 19) dX2_addLink_19 (i := 0) rfl rfl ?_
      refine t_getE (pc := 20) (.ref (fs + 4)) ht (rd_of hf_O) fX2_21 dX2_addLink_20 rfl ?_
      refine r_iload (pc := 23) dX2_addLink_23 rfl ?_
      refine r_iload_n (pc := 25) dX2_addLink_25 (i := 1) rfl rfl ?_
      refine t_iastR (pc := 26) (t0 := 0) ht hf_linkTail dX2_addLink_26 rfl (by decide) (by decide) (by omega) (by omega) (fun hp2 ht3 => ?_)
      refine r_aload_n (pc := 27) dX2_addLink_27 (i := 0) rfl rfl ?_
      refine t_getE (pc := 28) (.ref (fs + 5)) ht3 (rd_of hf_O) fX2_24 dX2_addLink_28 rfl ?_
      refine r_iload (pc := 31) dX2_addLink_31 rfl ?_
      refine r_iload_n (pc := 33) dX2_addLink_33 (i := 2) rfl rfl ?_
      refine t_iastR (pc := 34) (t0 := 0) ht3 hf_linkHead dX2_addLink_34 rfl (by decide) (by decide) (by omega) (by omega) (fun hp4 ht5 => ?_)
      refine r_aload_n (pc := 35) dX2_addLink_35 (i := 0) rfl rfl ?_
      refine t_getE (pc := 36) (.ref (fs + 6)) ht5 (rd_of hf_O) fX2_27 dX2_addLink_36 rfl ?_
      refine r_iload (pc := 39) dX2_addLink_39 rfl ?_
      refine r_iload_n (pc := 41) dX2_addLink_41 (i := 3) rfl rfl ?_
      refine t_iast (pc := 42) (t0 := 0) ht5 hf_linkRoom dX2_addLink_42 rfl (by decide) (by omega) (by omega) trivial (fun hp6 ht7 => ?_)
      refine r_aload_n (pc := 43) dX2_addLink_43 (i := 0) rfl rfl ?_
      refine t_getE (pc := 44) (.ref (fs + 7)) ht7 (rd_of hf_O) fX2_30 dX2_addLink_44 rfl ?_
      refine r_iload (pc := 47) dX2_addLink_47 rfl ?_
      refine r_iload (pc := 49) dX2_addLink_49 rfl ?_
      refine t_iast (pc := 51) (t0 := 0) ht7 hf_linkCost dX2_addLink_51 rfl (by decide) (by omega) (by omega) trivial (fun hp8 ht9 => ?_)
      refine r_aload_n (pc := 52) dX2_addLink_52 (i := 0) rfl rfl ?_
      refine r_iload (pc := 53) dX2_addLink_53 rfl ?_
      refine r_iconst (pc := 55) (v := iv 1) dX2_addLink_55 (by decide) ?_
      refine r_iadd (pc := 56) (v := iv (y1 + 1)) dX2_addLink_56 (iv_add _ _) ?_
      refine t_putI (pc := 57) (ty := .int) ht9 hf_O fX2_89 tyX2 tyX2_ok nmX2 (by decide +kernel) (Or.inl rfl) dX2_addLink_57 rfl rfl rfl (by omega) (fun hp10 ht11 => ?_)
      refine Rn.pick (lv' := []) [] rfl ?_
      exact B60 _ ht11 trivial
set_option maxHeartbeats 4000000 in
set_option maxRecDepth 100000 in
theorem t_X2_findCheapest {D : va_G} {cI cJ cZ cT : ClassId} {lo b L : Nat} {xs : Nat → Int32} {hp : MH} {n d : Nat} {Γ : TG} {fs : Nat} {x1 x2 x3 : Int} (hd0 : 1 ≤ d) (hf : TyFlows Γ cI cJ cZ fs) (ht : Tw Γ hp) (hx1 : 0 ≤ x1 ∧ x1 ≤ 16) (hx2 : 0 ≤ x2 ∧ x2 ≤ 15) (hx3 : 0 ≤ x3 ∧ x3 ≤ 15) : Mt (gG D cI cJ cZ cT lo b L xs) mX2_findCheapest d 0 0 [.ref fs, .int (iv x1), .int (iv x2), .int (iv x3)] hp n (pR Γ n 0 1) := by
  obtain ⟨hf_O, hf_room, hf_before, hf_queue, hf_linkTail, hf_linkHead, hf_linkRoom, hf_linkCost, hf_distance⟩ := id hf
  refine Mt.of rfl (Nat.le_of_ble_eq_true rfl) ?_
  refine Rn.pick (lv' := [(0, .ref fs), (1, .int (iv x1)), (2, .int (iv x2)), (3, .int (iv x3))]) [0, 1, 2, 3] rfl ?_
  refine r_aload_n (pc := 0) dX2_findCheapest_0 (i := 0) rfl rfl ?_
  refine t_getE (pc := 1) (.ref (fs + 8)) ht (rd_of hf_O) fX2_33 dX2_findCheapest_1 rfl ?_
  refine r_ldc2 (pc := 4) (v := 1099511627776) dX2_findCheapest_4 kX2_106 ?_
  refine t_fillJ (pc := 7) ht hf_distance kX2_108 dX2_findCheapest_7 (by omega) (by omega) (Nat.le_of_ble_eq_true rfl) (fun hp1 ht2 => ?_)
  refine r_aload_n (pc := 10) dX2_findCheapest_10 (i := 0) rfl rfl ?_
  refine t_getE (pc := 11) (.ref (fs + 8)) ht2 (rd_of hf_O) fX2_33 dX2_findCheapest_11 rfl ?_
  refine r_iload_n (pc := 14) dX2_findCheapest_14 (i := 2) rfl rfl ?_
  refine r_lconst (pc := 15) (v := 0) dX2_findCheapest_15 (by decide) ?_
  refine t_last (pc := 16) (t0 := 1) ht2 hf_distance dX2_findCheapest_16 rfl (by decide) (by omega) trivial (fun hp3 ht4 => ?_)
  refine r_iconst (pc := 17) (v := iv 1) dX2_findCheapest_17 (by decide) ?_
  refine r_istore (pc := 18) (lv' := [(4, .int (iv 1)), (0, .ref fs), (1, .int (iv x1)), (2, .int (iv x2)), (3, .int (iv x3))]) dX2_findCheapest_18 (by decide) rfl ?_
  refine r_iconst (pc := 20) (v := iv 0) dX2_findCheapest_20 (by decide) ?_
  refine r_istore (pc := 21) (lv' := [(5, .int (iv 0)), (4, .int (iv 1)), (0, .ref fs), (1, .int (iv x1)), (2, .int (iv x2)), (3, .int (iv x3))]) dX2_findCheapest_21 (by decide) rfl ?_
  have B23 : ∀ k : Nat, ∀ hp23 : MH, Tw Γ hp23 → ∀  (v23_4 : Int) (v23_5 : Int), 0 ≤ v23_4 ∧ v23_4 ≤ 1 ∧ 0 ≤ v23_5 ∧ v23_5 ≤ 16 → 16 - v23_5 ≤ (k : Int) → Rn (gG D cI cJ cZ cT lo b L xs) mX2_findCheapest d 23 [(0, .ref fs), (1, .int (iv x1)), (3, .int (iv x3)), (4, .int (iv v23_4)), (5, .int (iv v23_5))] [] hp23 n 0 0 (pR Γ n 0 1) := by
    refine lpS _ ?_
    intro k23 ih23 hp23 ht23 v23_4 v23_5 hf23 hm23
    refine r_iload (pc := 23) dX2_findCheapest_23 rfl ?_
    refine r_iload_n (pc := 25) dX2_findCheapest_25 (i := 1) rfl rfl ?_
    have B162 : ∀ hp162 : MH, Tw Γ hp162 → True → Rn (gG D cI cJ cZ cT lo b L xs) mX2_findCheapest d 162 [(0, .ref fs), (3, .int (iv x3))] [] hp162 n 0 0 (pR Γ n 0 1) := by
      intro hp162 ht162 hf162
      refine r_aload_n (pc := 162) dX2_findCheapest_162 (i := 0) rfl rfl ?_
      refine t_getE (pc := 163) (.ref (fs + 8)) ht162 (rd_of hf_O) fX2_33 dX2_findCheapest_163 rfl ?_
      refine r_iload_n (pc := 166) dX2_findCheapest_166 (i := 3) rfl rfl ?_
      refine t_lald (pc := 167) (t0 := 1) ht162 (rd_of hf_distance) dX2_findCheapest_167 rfl (by decide) (by omega) (fun w5 _ => ?_)
      refine r_ldc2 (pc := 168) (v := 1099511627776) dX2_findCheapest_168 kX2_106 ?_
      refine r_lcmp (pc := 171) dX2_findCheapest_171 ?_
      have B180 : ∀ hp180 : MH, Tw Γ hp180 → ∀  (u180_0 : Int), 0 ≤ u180_0 ∧ u180_0 ≤ 1 → Rn (gG D cI cJ cZ cT lo b L xs) mX2_findCheapest d 180 [] [.int (iv u180_0)] hp180 n 0 0 (pR Γ n 0 1) := by
        intro hp180 ht180 u180_0 hf180
        exact r_zret (pc := 180) dX2_findCheapest_180 rfl (iv_nar (by omega)) ⟨rfl, ht180, _, rfl, by omega, by omega⟩
      refine r_if_ge (pc := 172) (tgt := 179) dX2_findCheapest_172 (by decide) (fun c172 => ?_) (fun c172 => ?_)
      · refine r_iconst (pc := 179) (v := iv 0) dX2_findCheapest_179 (by decide) ?_
        refine Rn.pick (lv' := []) [] rfl ?_
        exact B180 _ ht162 0 ⟨by omega, by omega⟩
      · refine r_iconst (pc := 175) (v := iv 1) dX2_findCheapest_175 (by decide) ?_
        refine r_goto (pc := 176) (tgt := 180) dX2_findCheapest_176 (by decide) ?_
        refine Rn.pick (lv' := []) [] rfl ?_
        exact B180 _ ht162 1 ⟨by omega, by omega⟩
    refine t_icmp_ge (pc := 26) (tgt := 162) dX2_findCheapest_26 (by decide) (by omega) (by omega) (fun c26 => ?_) (fun c26 => ?_)
    · refine Rn.pick (lv' := [(0, .ref fs), (3, .int (iv x3))]) [0, 2] rfl ?_
      exact B162 _ ht23 trivial
    · refine r_iload (pc := 29) dX2_findCheapest_29 rfl ?_
      refine t_if_eq (pc := 31) (tgt := 162) dX2_findCheapest_31 (by decide) (by omega) (fun c31 => ?_) (fun c31 => ?_)
      · refine Rn.pick (lv' := [(0, .ref fs), (3, .int (iv x3))]) [0, 2] rfl ?_
        exact B162 _ ht23 trivial
      · refine r_iconst (pc := 34) (v := iv 0) dX2_findCheapest_34 (by decide) ?_
        refine r_istore (pc := 35) (lv' := [(4, .int (iv 0)), (0, .ref fs), (1, .int (iv x1)), (3, .int (iv x3)), (5, .int (iv v23_5))]) dX2_findCheapest_35 (by decide) rfl ?_
        refine r_iconst (pc := 37) (v := iv 0) dX2_findCheapest_37 (by decide) ?_
        refine r_istore (pc := 38) (lv' := [(6, .int (iv 0)), (4, .int (iv 0)), (0, .ref fs), (1, .int (iv x1)), (3, .int (iv x3)), (5, .int (iv v23_5))]) dX2_findCheapest_38 (by decide) rfl ?_
        have B40 : ∀ k : Nat, ∀ hp40 : MH, Tw Γ hp40 → ∀  (v40_4 : Int) (v40_6 : Int), 0 ≤ v40_4 ∧ v40_4 ≤ 1 ∧ 0 ≤ v40_6 ∧ v40_6 ≤ 240 → 240 - v40_6 ≤ (k : Int) → Rn (gG D cI cJ cZ cT lo b L xs) mX2_findCheapest d 40 [(0, .ref fs), (1, .int (iv x1)), (3, .int (iv x3)), (4, .int (iv v40_4)), (5, .int (iv v23_5)), (6, .int (iv v40_6))] [] hp40 n 0 0 (pR Γ n 0 1) := by
          refine lpS _ ?_
          intro k40 ih40 hp40 ht40 v40_4 v40_6 hf40 hm40
          refine r_iload (pc := 40) dX2_findCheapest_40 rfl ?_
          refine r_aload_n (pc := 42) dX2_findCheapest_42 (i := 0) rfl rfl ?_
          refine t_getI (pc := 43) ht40 (rd_of hf_O) fX2_89 dX2_findCheapest_43 rfl (fun y6 by6 => ?_)
          refine t_icmp_ge (pc := 46) (tgt := 156) dX2_findCheapest_46 (by decide) (by omega) (by omega) (fun c46 => ?_) (fun c46 => ?_)
          · refine r_iinc (pc := 156) (v := iv (v23_5 + 1)) (lv' := [(5, .int (iv (v23_5 + 1))), (0, .ref fs), (1, .int (iv x1)), (3, .int (iv x3)), (4, .int (iv v40_4)), (6, .int (iv v40_6))]) dX2_findCheapest_156 rfl (iv_add _ _) (by decide) rfl ?_
            refine r_goto (pc := 159) (tgt := 23) dX2_findCheapest_159 (by decide) ?_
            refine Rn.pick (lv' := [(0, .ref fs), (1, .int (iv x1)), (3, .int (iv x3)), (4, .int (iv v40_4)), (5, .int (iv (v23_5 + 1)))]) [1, 2, 3, 4, 0] rfl ?_
            exact ih23 (Int.toNat (16 - (v23_5 + 1))) (by omega) _ ht40 v40_4 (v23_5 + 1) ⟨by omega, by omega, by omega, by omega⟩ (by omega)
          · refine r_aload_n (pc := 49) dX2_findCheapest_49 (i := 0) rfl rfl ?_
            refine t_getE (pc := 50) (.ref (fs + 8)) ht40 (rd_of hf_O) fX2_33 dX2_findCheapest_50 rfl ?_
            refine r_aload_n (pc := 53) dX2_findCheapest_53 (i := 0) rfl rfl ?_
            refine t_getE (pc := 54) (.ref (fs + 4)) ht40 (rd_of hf_O) fX2_21 dX2_findCheapest_54 rfl ?_
            refine r_iload (pc := 57) dX2_findCheapest_57 rfl ?_
            refine t_ialdR (pc := 59) (t0 := 0) ht40 (rd_of hf_linkTail) dX2_findCheapest_59 rfl (by decide) (by omega) (fun y7 by7 => ?_)
            refine t_lald (pc := 60) (t0 := 1) ht40 (rd_of hf_distance) dX2_findCheapest_60 rfl (by decide) (by omega) (fun w8 _ => ?_)
            refine r_aload_n (pc := 61) dX2_findCheapest_61 (i := 0) rfl rfl ?_
            refine t_getE (pc := 62) (.ref (fs + 7)) ht40 (rd_of hf_O) fX2_30 dX2_findCheapest_62 rfl ?_
            refine r_iload (pc := 65) dX2_findCheapest_65 rfl ?_
            refine t_iald (pc := 67) (t0 := 0) ht40 (rd_of hf_linkCost) dX2_findCheapest_67 rfl (by decide) (by omega) (fun y9 by9 _ => ?_)
            refine r_i2l (pc := 68) (v := (iv y9).toInt64) dX2_findCheapest_68 rfl ?_
            refine r_ladd (pc := 69) (v := w8 + ((iv y9).toInt64)) dX2_findCheapest_69 rfl ?_
            refine r_lstore (pc := 70) (lv' := [(7, .long (w8 + ((iv y9).toInt64))), (0, .ref fs), (1, .int (iv x1)), (3, .int (iv x3)), (4, .int (iv v40_4)), (5, .int (iv v23_5)), (6, .int (iv v40_6))]) dX2_findCheapest_70 (by decide) rfl ?_
            refine r_aload_n (pc := 72) dX2_findCheapest_72 (i := 0) rfl rfl ?_
            refine t_getE (pc := 73) (.ref (fs + 6)) ht40 (rd_of hf_O) fX2_27 dX2_findCheapest_73 rfl ?_
            refine r_iload (pc := 76) dX2_findCheapest_76 rfl ?_
            refine t_iald (pc := 78) (t0 := 0) ht40 (rd_of hf_linkRoom) dX2_findCheapest_78 rfl (by decide) (by omega) (fun y10 by10 _ => ?_)
            have B150 : ∀ hp150 : MH, Tw Γ hp150 → ∀  (v150_4 : Int), 0 ≤ v150_4 ∧ v150_4 ≤ 1 → Rn (gG D cI cJ cZ cT lo b L xs) mX2_findCheapest d 150 [(0, .ref fs), (1, .int (iv x1)), (3, .int (iv x3)), (4, .int (iv v150_4)), (5, .int (iv v23_5)), (6, .int (iv v40_6))] [] hp150 n 0 0 (pR Γ n 0 1) := by
              intro hp150 ht150 v150_4 hf150
              refine r_iinc (pc := 150) (v := iv (v40_6 + 1)) (lv' := [(6, .int (iv (v40_6 + 1))), (0, .ref fs), (1, .int (iv x1)), (3, .int (iv x3)), (4, .int (iv v150_4)), (5, .int (iv v23_5))]) dX2_findCheapest_150 rfl (iv_add _ _) (by decide) rfl ?_
              refine r_goto (pc := 153) (tgt := 40) dX2_findCheapest_153 (by decide) ?_
              refine Rn.pick (lv' := [(0, .ref fs), (1, .int (iv x1)), (3, .int (iv x3)), (4, .int (iv v150_4)), (5, .int (iv v23_5)), (6, .int (iv (v40_6 + 1)))]) [1, 2, 3, 4, 5, 0] rfl ?_
              exact ih40 (Int.toNat (240 - (v40_6 + 1))) (by omega) _ ht150 v150_4 (v40_6 + 1) ⟨by omega, by omega, by omega, by omega⟩ (by omega)
            refine t_if_le (pc := 79) (tgt := 150) dX2_findCheapest_79 (by decide) (by omega) (fun c79 => ?_) (fun c79 => ?_)
            · refine Rn.pick (lv' := [(0, .ref fs), (1, .int (iv x1)), (3, .int (iv x3)), (4, .int (iv v40_4)), (5, .int (iv v23_5)), (6, .int (iv v40_6))]) [1, 2, 3, 4, 5, 6] rfl ?_
              exact B150 _ ht40 v40_4 ⟨by omega, by omega⟩
            · refine r_aload_n (pc := 82) dX2_findCheapest_82 (i := 0) rfl rfl ?_
              refine t_getE (pc := 83) (.ref (fs + 8)) ht40 (rd_of hf_O) fX2_33 dX2_findCheapest_83 rfl ?_
              refine r_aload_n (pc := 86) dX2_findCheapest_86 (i := 0) rfl rfl ?_
              refine t_getE (pc := 87) (.ref (fs + 4)) ht40 (rd_of hf_O) fX2_21 dX2_findCheapest_87 rfl ?_
              refine r_iload (pc := 90) dX2_findCheapest_90 rfl ?_
              refine t_ialdR (pc := 92) (t0 := 0) ht40 (rd_of hf_linkTail) dX2_findCheapest_92 rfl (by decide) (by omega) (fun y11 by11 => ?_)
              refine t_lald (pc := 93) (t0 := 1) ht40 (rd_of hf_distance) dX2_findCheapest_93 rfl (by decide) (by omega) (fun w12 _ => ?_)
              refine r_ldc2 (pc := 94) (v := 1099511627776) dX2_findCheapest_94 kX2_106 ?_
              refine r_lcmp (pc := 97) dX2_findCheapest_97 ?_
              refine r_if_ge (pc := 98) (tgt := 150) dX2_findCheapest_98 (by decide) (fun c98 => ?_) (fun c98 => ?_)
              · refine Rn.pick (lv' := [(0, .ref fs), (1, .int (iv x1)), (3, .int (iv x3)), (4, .int (iv v40_4)), (5, .int (iv v23_5)), (6, .int (iv v40_6))]) [1, 2, 3, 4, 5, 6] rfl ?_
                exact B150 _ ht40 v40_4 ⟨by omega, by omega⟩
              · refine r_lload (pc := 101) dX2_findCheapest_101 rfl ?_
                refine r_aload_n (pc := 103) dX2_findCheapest_103 (i := 0) rfl rfl ?_
                refine t_getE (pc := 104) (.ref (fs + 8)) ht40 (rd_of hf_O) fX2_33 dX2_findCheapest_104 rfl ?_
                refine r_aload_n (pc := 107) dX2_findCheapest_107 (i := 0) rfl rfl ?_
                refine t_getE (pc := 108) (.ref (fs + 5)) ht40 (rd_of hf_O) fX2_24 dX2_findCheapest_108 rfl ?_
                refine r_iload (pc := 111) dX2_findCheapest_111 rfl ?_
                refine t_ialdR (pc := 113) (t0 := 0) ht40 (rd_of hf_linkHead) dX2_findCheapest_113 rfl (by decide) (by omega) (fun y13 by13 => ?_)
                refine t_lald (pc := 114) (t0 := 1) ht40 (rd_of hf_distance) dX2_findCheapest_114 rfl (by decide) (by omega) (fun w14 _ => ?_)
                refine r_lcmp (pc := 115) dX2_findCheapest_115 ?_
                refine r_if_ge (pc := 116) (tgt := 150) dX2_findCheapest_116 (by decide) (fun c116 => ?_) (fun c116 => ?_)
                · refine Rn.pick (lv' := [(0, .ref fs), (1, .int (iv x1)), (3, .int (iv x3)), (4, .int (iv v40_4)), (5, .int (iv v23_5)), (6, .int (iv v40_6))]) [1, 2, 3, 4, 5, 6] rfl ?_
                  exact B150 _ ht40 v40_4 ⟨by omega, by omega⟩
                · refine r_aload_n (pc := 119) dX2_findCheapest_119 (i := 0) rfl rfl ?_
                  refine t_getE (pc := 120) (.ref (fs + 8)) ht40 (rd_of hf_O) fX2_33 dX2_findCheapest_120 rfl ?_
                  refine r_aload_n (pc := 123) dX2_findCheapest_123 (i := 0) rfl rfl ?_
                  refine t_getE (pc := 124) (.ref (fs + 5)) ht40 (rd_of hf_O) fX2_24 dX2_findCheapest_124 rfl ?_
                  refine r_iload (pc := 127) dX2_findCheapest_127 rfl ?_
                  refine t_ialdR (pc := 129) (t0 := 0) ht40 (rd_of hf_linkHead) dX2_findCheapest_129 rfl (by decide) (by omega) (fun y15 by15 => ?_)
                  refine r_lload (pc := 130) dX2_findCheapest_130 rfl ?_
                  refine t_last (pc := 132) (t0 := 1) ht40 hf_distance dX2_findCheapest_132 rfl (by decide) (by omega) trivial (fun hp16 ht17 => ?_)
                  refine r_aload_n (pc := 133) dX2_findCheapest_133 (i := 0) rfl rfl ?_
                  refine t_getE (pc := 134) (.ref (fs + 2)) ht17 (rd_of hf_O) fX2_15 dX2_findCheapest_134 rfl ?_
                  refine r_aload_n (pc := 137) dX2_findCheapest_137 (i := 0) rfl rfl ?_
                  refine t_getE (pc := 138) (.ref (fs + 5)) ht17 (rd_of hf_O) fX2_24 dX2_findCheapest_138 rfl ?_
                  refine r_iload (pc := 141) dX2_findCheapest_141 rfl ?_
                  refine t_ialdR (pc := 143) (t0 := 0) ht17 (rd_of hf_linkHead) dX2_findCheapest_143 rfl (by decide) (by omega) (fun y18 by18 => ?_)
                  refine r_iload (pc := 144) dX2_findCheapest_144 rfl ?_
                  refine t_iastR (pc := 146) (t0 := 0) ht17 hf_before dX2_findCheapest_146 rfl (by decide) (by decide) (by omega) (by omega) (fun hp19 ht20 => ?_)
                  refine r_iconst (pc := 147) (v := iv 1) dX2_findCheapest_147 (by decide) ?_
                  refine r_istore (pc := 148) (lv' := [(4, .int (iv 1)), (7, .long (w8 + ((iv y9).toInt64))), (0, .ref fs), (1, .int (iv x1)), (3, .int (iv x3)), (5, .int (iv v23_5)), (6, .int (iv v40_6))]) dX2_findCheapest_148 (by decide) rfl ?_
                  refine Rn.pick (lv' := [(0, .ref fs), (1, .int (iv x1)), (3, .int (iv x3)), (4, .int (iv 1)), (5, .int (iv v23_5)), (6, .int (iv v40_6))]) [2, 3, 4, 0, 5, 6] rfl ?_
                  exact B150 _ ht20 1 ⟨by omega, by omega⟩
        refine Rn.pick (lv' := [(0, .ref fs), (1, .int (iv x1)), (3, .int (iv x3)), (4, .int (iv 0)), (5, .int (iv v23_5)), (6, .int (iv 0))]) [2, 3, 4, 1, 5, 0] rfl ?_
        exact B40 (Int.toNat (240 - 0)) _ ht23 0 0 ⟨by omega, by omega, by omega, by omega⟩ (by omega)
  refine Rn.pick (lv' := [(0, .ref fs), (1, .int (iv x1)), (3, .int (iv x3)), (4, .int (iv 1)), (5, .int (iv 0))]) [2, 3, 5, 1, 0] rfl ?_
  exact B23 (Int.toNat (16 - 0)) _ ht4 1 0 ⟨by omega, by omega, by omega, by omega⟩ (by omega)
set_option maxHeartbeats 4000000 in
set_option maxRecDepth 100000 in
theorem t_X2_pushLinks {D : va_G} {cI cJ cZ cT : ClassId} {lo b L : Nat} {xs : Nat → Int32} {hp : MH} {n d : Nat} {Γ : TG} {fs : Nat} {x1 x2 : Int} (hd0 : 0 ≤ d) (hf : TyFlows Γ cI cJ cZ fs) (ht : Tw Γ hp) (hx1 : 0 ≤ x1 ∧ x1 ≤ 15) (hx2 : 0 ≤ x2 ∧ x2 ≤ 15) : Mt (gG D cI cJ cZ cT lo b L xs) mX2_pushLinks d 0 0 [.ref fs, .int (iv x1), .int (iv x2)] hp n (pJ Γ n yes64) := by
  obtain ⟨hf_O, hf_room, hf_before, hf_queue, hf_linkTail, hf_linkHead, hf_linkRoom, hf_linkCost, hf_distance⟩ := id hf
  refine Mt.of rfl (Nat.le_of_ble_eq_true rfl) ?_
  refine Rn.pick (lv' := [(0, .ref fs), (1, .int (iv x1)), (2, .int (iv x2))]) [0, 1, 2] rfl ?_
  refine r_ldc (pc := 0) (v := iv 1073741824) dX2_pushLinks_0 kX2_85 ?_
  refine r_istore_n (pc := 2) (lv' := [(3, .int (iv 1073741824)), (0, .ref fs), (1, .int (iv x1)), (2, .int (iv x2))]) dX2_pushLinks_2 (i := 3) rfl (by decide) rfl ?_
  refine r_iload_n (pc := 3) dX2_pushLinks_3 (i := 2) rfl rfl ?_
  refine r_istore (pc := 4) (lv' := [(4, .int (iv x2)), (3, .int (iv 1073741824)), (0, .ref fs), (1, .int (iv x1)), (2, .int (iv x2))]) dX2_pushLinks_4 (by decide) rfl ?_
  refine r_iconst (pc := 6) (v := iv 0) dX2_pushLinks_6 (by decide) ?_
  refine r_istore (pc := 7) (lv' := [(5, .int (iv 0)), (4, .int (iv x2)), (3, .int (iv 1073741824)), (0, .ref fs), (1, .int (iv x1)), (2, .int (iv x2))]) dX2_pushLinks_7 (by decide) rfl ?_
  have B9 : ∀ k : Nat, ∀ hp9 : MH, Tw Γ hp9 → ∀  (v9_3 : Int) (v9_4 : Int) (v9_5 : Int), (-2147483648) ≤ v9_3 ∧ v9_3 ≤ 1073741824 ∧ 0 ≤ v9_4 ∧ v9_4 ≤ 15 ∧ 0 ≤ v9_5 ∧ v9_5 ≤ 16 → 16 - v9_5 ≤ (k : Int) → Rn (gG D cI cJ cZ cT lo b L xs) mX2_pushLinks d 9 [(0, .ref fs), (1, .int (iv x1)), (2, .int (iv x2)), (3, .int (iv v9_3)), (4, .int (iv v9_4)), (5, .int (iv v9_5))] [] hp9 n 0 0 (pJ Γ n yes64) := by
    refine lpS _ ?_
    intro k9 ih9 hp9 ht9 v9_3 v9_4 v9_5 hf9 hm9
    refine r_iload (pc := 9) dX2_pushLinks_9 rfl ?_
    refine r_bipush (pc := 11) (v := iv 16) dX2_pushLinks_11 (by decide) ?_
    have B59 : ∀ hp59 : MH, Tw Γ hp59 → True → Rn (gG D cI cJ cZ cT lo b L xs) mX2_pushLinks d 59 [(0, .ref fs), (1, .int (iv x1)), (2, .int (iv x2)), (3, .int (iv v9_3))] [] hp59 n 0 0 (pJ Γ n yes64) := by
      intro hp59 ht59 hf59
      refine r_iload_n (pc := 59) dX2_pushLinks_59 (i := 2) rfl rfl ?_
      refine r_istore (pc := 60) (lv' := [(4, .int (iv x2)), (0, .ref fs), (1, .int (iv x1)), (2, .int (iv x2)), (3, .int (iv v9_3))]) dX2_pushLinks_60 (by decide) rfl ?_
      refine r_iconst (pc := 62) (v := iv 0) dX2_pushLinks_62 (by decide) ?_
      refine r_istore (pc := 63) (lv' := [(5, .int (iv 0)), (4, .int (iv x2)), (0, .ref fs), (1, .int (iv x1)), (2, .int (iv x2)), (3, .int (iv v9_3))]) dX2_pushLinks_63 (by decide) rfl ?_
      have B65 : ∀ k : Nat, ∀ hp65 : MH, Tw Γ hp65 → ∀  (v65_4 : Int) (v65_5 : Int), 0 ≤ v65_4 ∧ v65_4 ≤ 15 ∧ 0 ≤ v65_5 ∧ v65_5 ≤ 16 → 16 - v65_5 ≤ (k : Int) → Rn (gG D cI cJ cZ cT lo b L xs) mX2_pushLinks d 65 [(0, .ref fs), (1, .int (iv x1)), (3, .int (iv v9_3)), (4, .int (iv v65_4)), (5, .int (iv v65_5))] [] hp65 n 0 0 (pJ Γ n yes64) := by
        refine lpS _ ?_
        intro k65 ih65 hp65 ht65 v65_4 v65_5 hf65 hm65
        refine r_iload (pc := 65) dX2_pushLinks_65 rfl ?_
        refine r_bipush (pc := 67) (v := iv 16) dX2_pushLinks_67 (by decide) ?_
        have B126 : ∀ hp126 : MH, Tw Γ hp126 → True → Rn (gG D cI cJ cZ cT lo b L xs) mX2_pushLinks d 126 [(3, .int (iv v9_3))] [] hp126 n 0 0 (pJ Γ n yes64) := by
          intro hp126 ht126 hf126
          refine r_iload_n (pc := 126) dX2_pushLinks_126 (i := 3) rfl rfl ?_
          refine r_i2l (pc := 127) (v := (iv v9_3).toInt64) dX2_pushLinks_127 rfl ?_
          exact r_lret (pc := 128) dX2_pushLinks_128 rfl ⟨rfl, ht126, _, rfl, trivial⟩
        refine t_icmp_ge (pc := 69) (tgt := 126) dX2_pushLinks_69 (by decide) (by omega) (by omega) (fun c69 => ?_) (fun c69 => ?_)
        · refine Rn.pick (lv' := [(3, .int (iv v9_3))]) [2] rfl ?_
          exact B126 _ ht65 trivial
        · refine r_iload (pc := 72) dX2_pushLinks_72 rfl ?_
          refine r_iload_n (pc := 74) dX2_pushLinks_74 (i := 1) rfl rfl ?_
          refine t_icmp_eq (pc := 75) (tgt := 126) dX2_pushLinks_75 (by decide) (by omega) (by omega) (fun c75 => ?_) (fun c75 => ?_)
          · refine Rn.pick (lv' := [(3, .int (iv v9_3))]) [2] rfl ?_
            exact B126 _ ht65 trivial
          · refine r_aload_n (pc := 78) dX2_pushLinks_78 (i := 0) rfl rfl ?_
            refine t_getE (pc := 79) (.ref (fs + 2)) ht65 (rd_of hf_O) fX2_15 dX2_pushLinks_79 rfl ?_
            refine r_iload (pc := 82) dX2_pushLinks_82 rfl ?_
            refine t_ialdR (pc := 84) (t0 := 0) ht65 (rd_of hf_before) dX2_pushLinks_84 rfl (by decide) (by omega) (fun y1 by1 => ?_)
            refine r_istore (pc := 85) (lv' := [(6, .int (iv y1)), (0, .ref fs), (1, .int (iv x1)), (3, .int (iv v9_3)), (4, .int (iv v65_4)), (5, .int (iv v65_5))]) dX2_pushLinks_85 (by decide) rfl ?_
            refine r_aload_n (pc := 87) dX2_pushLinks_87 (i := 0) rfl rfl ?_
            refine t_getE (pc := 88) (.ref (fs + 6)) ht65 (rd_of hf_O) fX2_27 dX2_pushLinks_88 rfl ?_
            refine r_iload (pc := 91) dX2_pushLinks_91 rfl ?_
            refine r_dup2_11 (pc := 93) dX2_pushLinks_93 rfl rfl ?_
            refine t_iald (pc := 94) (t0 := 0) ht65 (rd_of hf_linkRoom) dX2_pushLinks_94 rfl (by decide) (by omega) (fun y2 by2 _ => ?_)
            refine r_iload_n (pc := 95) dX2_pushLinks_95 (i := 3) rfl rfl ?_
            obtain ⟨z3, hz3, bz3⟩ := any_i (iv y2 - iv v9_3)
            refine r_isub (pc := 96) (v := iv z3) dX2_pushLinks_96 hz3 ?_
            refine t_iast (pc := 97) (t0 := 0) ht65 hf_linkRoom dX2_pushLinks_97 rfl (by decide) (by omega) (by omega) trivial (fun hp4 ht5 => ?_)
            refine r_aload_n (pc := 98) dX2_pushLinks_98 (i := 0) rfl rfl ?_
            refine t_getE (pc := 99) (.ref (fs + 6)) ht5 (rd_of hf_O) fX2_27 dX2_pushLinks_99 rfl ?_
            refine r_iload (pc := 102) dX2_pushLinks_102 rfl ?_
            refine r_iconst (pc := 104) (v := iv 1) dX2_pushLinks_104 (by decide) ?_
            obtain ⟨z6, hz6, bz6⟩ := xor_1 y1 (by omega)
            refine r_ixor (pc := 105) (v := iv z6) dX2_pushLinks_105 hz6 ?_
            refine r_dup2_11 (pc := 106) dX2_pushLinks_106 rfl rfl ?_
            refine t_iald (pc := 107) (t0 := 0) ht5 (rd_of hf_linkRoom) dX2_pushLinks_107 rfl (by decide) (by omega) (fun y7 by7 _ => ?_)
            refine r_iload_n (pc := 108) dX2_pushLinks_108 (i := 3) rfl rfl ?_
            obtain ⟨z8, hz8, bz8⟩ := any_i (iv y7 + iv v9_3)
            refine r_iadd (pc := 109) (v := iv z8) dX2_pushLinks_109 hz8 ?_
            refine t_iast (pc := 110) (t0 := 0) ht5 hf_linkRoom dX2_pushLinks_110 rfl (by decide) (by omega) (by omega) trivial (fun hp9 ht10 => ?_)
            refine r_aload_n (pc := 111) dX2_pushLinks_111 (i := 0) rfl rfl ?_
            refine t_getE (pc := 112) (.ref (fs + 4)) ht10 (rd_of hf_O) fX2_21 dX2_pushLinks_112 rfl ?_
            refine r_iload (pc := 115) dX2_pushLinks_115 rfl ?_
            refine t_ialdR (pc := 117) (t0 := 0) ht10 (rd_of hf_linkTail) dX2_pushLinks_117 rfl (by decide) (by omega) (fun y11 by11 => ?_)
            refine r_istore (pc := 118) (lv' := [(4, .int (iv y11)), (6, .int (iv y1)), (0, .ref fs), (1, .int (iv x1)), (3, .int (iv v9_3)), (5, .int (iv v65_5))]) dX2_pushLinks_118 (by decide) rfl ?_
            refine r_iinc (pc := 120) (v := iv (v65_5 + 1)) (lv' := [(5, .int (iv (v65_5 + 1))), (4, .int (iv y11)), (6, .int (iv y1)), (0, .ref fs), (1, .int (iv x1)), (3, .int (iv v9_3))]) dX2_pushLinks_120 rfl (iv_add _ _) (by decide) rfl ?_
            refine r_goto (pc := 123) (tgt := 65) dX2_pushLinks_123 (by decide) ?_
            refine Rn.pick (lv' := [(0, .ref fs), (1, .int (iv x1)), (3, .int (iv v9_3)), (4, .int (iv y11)), (5, .int (iv (v65_5 + 1)))]) [3, 4, 5, 1, 0] rfl ?_
            exact ih65 (Int.toNat (16 - (v65_5 + 1))) (by omega) _ ht10 y11 (v65_5 + 1) ⟨by omega, by omega, by omega, by omega⟩ (by omega)
      refine Rn.pick (lv' := [(0, .ref fs), (1, .int (iv x1)), (3, .int (iv v9_3)), (4, .int (iv x2)), (5, .int (iv 0))]) [2, 3, 5, 1, 0] rfl ?_
      exact B65 (Int.toNat (16 - 0)) _ ht59 x2 0 ⟨by omega, by omega, by omega, by omega⟩ (by omega)
    refine t_icmp_ge (pc := 13) (tgt := 59) dX2_pushLinks_13 (by decide) (by omega) (by omega) (fun c13 => ?_) (fun c13 => ?_)
    · refine Rn.pick (lv' := [(0, .ref fs), (1, .int (iv x1)), (2, .int (iv x2)), (3, .int (iv v9_3))]) [0, 1, 2, 3] rfl ?_
      exact B59 _ ht9 trivial
    · refine r_iload (pc := 16) dX2_pushLinks_16 rfl ?_
      refine r_iload_n (pc := 18) dX2_pushLinks_18 (i := 1) rfl rfl ?_
      refine t_icmp_eq (pc := 19) (tgt := 59) dX2_pushLinks_19 (by decide) (by omega) (by omega) (fun c19 => ?_) (fun c19 => ?_)
      · refine Rn.pick (lv' := [(0, .ref fs), (1, .int (iv x1)), (2, .int (iv x2)), (3, .int (iv v9_3))]) [0, 1, 2, 3] rfl ?_
        exact B59 _ ht9 trivial
      · refine r_iload_n (pc := 22) dX2_pushLinks_22 (i := 3) rfl rfl ?_
        refine r_aload_n (pc := 23) dX2_pushLinks_23 (i := 0) rfl rfl ?_
        refine t_getE (pc := 24) (.ref (fs + 6)) ht9 (rd_of hf_O) fX2_27 dX2_pushLinks_24 rfl ?_
        refine r_aload_n (pc := 27) dX2_pushLinks_27 (i := 0) rfl rfl ?_
        refine t_getE (pc := 28) (.ref (fs + 2)) ht9 (rd_of hf_O) fX2_15 dX2_pushLinks_28 rfl ?_
        refine r_iload (pc := 31) dX2_pushLinks_31 rfl ?_
        refine t_ialdR (pc := 33) (t0 := 0) ht9 (rd_of hf_before) dX2_pushLinks_33 rfl (by decide) (by omega) (fun y12 by12 => ?_)
        refine t_iald (pc := 34) (t0 := 0) ht9 (rd_of hf_linkRoom) dX2_pushLinks_34 rfl (by decide) (by omega) (fun y13 by13 _ => ?_)
        obtain ⟨z14, hz14, bz14⟩ := min_b v9_3 y13 (by omega) (by omega)
        refine r_mmin (pc := 35) (v := iv z14) qX2_86 dX2_pushLinks_35 (Nat.le_of_ble_eq_true rfl) hz14 ?_
        refine r_istore_n (pc := 38) (lv' := [(3, .int (iv z14)), (0, .ref fs), (1, .int (iv x1)), (2, .int (iv x2)), (4, .int (iv v9_4)), (5, .int (iv v9_5))]) dX2_pushLinks_38 (i := 3) rfl (by decide) rfl ?_
        refine r_aload_n (pc := 39) dX2_pushLinks_39 (i := 0) rfl rfl ?_
        refine t_getE (pc := 40) (.ref (fs + 4)) ht9 (rd_of hf_O) fX2_21 dX2_pushLinks_40 rfl ?_
        refine r_aload_n (pc := 43) dX2_pushLinks_43 (i := 0) rfl rfl ?_
        refine t_getE (pc := 44) (.ref (fs + 2)) ht9 (rd_of hf_O) fX2_15 dX2_pushLinks_44 rfl ?_
        refine r_iload (pc := 47) dX2_pushLinks_47 rfl ?_
        refine t_ialdR (pc := 49) (t0 := 0) ht9 (rd_of hf_before) dX2_pushLinks_49 rfl (by decide) (by omega) (fun y15 by15 => ?_)
        refine t_ialdR (pc := 50) (t0 := 0) ht9 (rd_of hf_linkTail) dX2_pushLinks_50 rfl (by decide) (by omega) (fun y16 by16 => ?_)
        refine r_istore (pc := 51) (lv' := [(4, .int (iv y16)), (3, .int (iv z14)), (0, .ref fs), (1, .int (iv x1)), (2, .int (iv x2)), (5, .int (iv v9_5))]) dX2_pushLinks_51 (by decide) rfl ?_
        refine r_iinc (pc := 53) (v := iv (v9_5 + 1)) (lv' := [(5, .int (iv (v9_5 + 1))), (4, .int (iv y16)), (3, .int (iv z14)), (0, .ref fs), (1, .int (iv x1)), (2, .int (iv x2))]) dX2_pushLinks_53 rfl (iv_add _ _) (by decide) rfl ?_
        refine r_goto (pc := 56) (tgt := 9) dX2_pushLinks_56 (by decide) ?_
        refine Rn.pick (lv' := [(0, .ref fs), (1, .int (iv x1)), (2, .int (iv x2)), (3, .int (iv z14)), (4, .int (iv y16)), (5, .int (iv (v9_5 + 1)))]) [3, 4, 5, 2, 1, 0] rfl ?_
        exact ih9 (Int.toNat (16 - (v9_5 + 1))) (by omega) _ ht9 z14 y16 (v9_5 + 1) ⟨by omega, by omega, by omega, by omega, by omega, by omega⟩ (by omega)
  refine Rn.pick (lv' := [(0, .ref fs), (1, .int (iv x1)), (2, .int (iv x2)), (3, .int (iv 1073741824)), (4, .int (iv x2)), (5, .int (iv 0))]) [3, 4, 5, 2, 1, 0] rfl ?_
  exact B9 (Int.toNat (16 - 0)) _ ht 1073741824 x2 0 ⟨by omega, by omega, by omega, by omega, by omega, by omega⟩ (by omega)
set_option maxHeartbeats 4000000 in
set_option maxRecDepth 100000 in
theorem t_X2_price {D : va_G} {cI cJ cZ cT : ClassId} {lo b L : Nat} {xs : Nat → Int32} {hp : MH} {n d : Nat} {Γ : TG} {fs : Nat} {ga : Nat} {gF : Nat} {gT : Nat} {gW : Nat} {gC : Nat} {gTl : Nat} {gHd : Nat} {gBy : Nat} {gOu : Nat} {gIn : Nat} {gJo : Nat} {gn : Nat} {gm : Nat} {gq : Nat} {gdr : Int} {x2 x3 : Int} (hd0 : 2 ≤ d) (hf : TyFlows Γ cI cJ cZ fs) (hg : TyG Γ cI cJ cZ ga gF gT gW gC gTl gHd gBy gOu gIn gJo gn gm gq gdr) (ht : Tw Γ hp) (hx2 : 0 ≤ x2 ∧ x2 ≤ 15) (hx3 : 0 ≤ x3 ∧ x3 ≤ 15) : Mt (gG D cI cJ cZ cT lo b L xs) mX2_price d 0 0 [.ref fs, .ref ga, .int (iv x2), .int (iv x3)] hp n (pJ Γ n yes64) := by
  obtain ⟨hf_O, hf_room, hf_before, hf_queue, hf_linkTail, hf_linkHead, hf_linkRoom, hf_linkCost, hf_distance⟩ := id hf
  obtain ⟨hg_O, hg_from, hg_to, hg_weight, hg_cost, hg_tail, hg_head, hg_by, hg_out, hg_in, hg_joined, hg_b⟩ := id hg
  refine Mt.of rfl (Nat.le_of_ble_eq_true rfl) ?_
  refine Rn.pick (lv' := [(0, .ref fs), (1, .ref ga), (2, .int (iv x2)), (3, .int (iv x3))]) [0, 1, 2, 3] rfl ?_
  refine r_aload_n (pc := 0) dX2_price_0 (i := 0) rfl rfl ?_
  refine r_iconst (pc := 1) (v := iv 0) dX2_price_1 (by decide) ?_
  refine t_putI (pc := 2) (ty := .int) ht hf_O fX2_89 tyX2 tyX2_ok nmX2 (by decide +kernel) (Or.inl rfl) dX2_price_2 rfl rfl rfl (by omega) (fun hp1 ht2 => ?_)
  refine r_iconst (pc := 5) (v := iv 0) dX2_price_5 (by decide) ?_
  refine r_istore (pc := 6) (lv' := [(4, .int (iv 0)), (0, .ref fs), (1, .ref ga), (2, .int (iv x2)), (3, .int (iv x3))]) dX2_price_6 (by decide) rfl ?_
  have B8 : ∀ k : Nat, ∀ hp8 : MH, Tw Γ hp8 → ∀  (v8_4 : Int), 0 ≤ v8_4 ∧ v8_4 ≤ 120 → 120 - v8_4 ≤ (k : Int) → Rn (gG D cI cJ cZ cT lo b L xs) mX2_price d 8 [(0, .ref fs), (1, .ref ga), (2, .int (iv x2)), (3, .int (iv x3)), (4, .int (iv v8_4))] [] hp8 n 0 0 (pJ Γ n yes64) := by
    refine lpS _ ?_
    intro k8 ih8 hp8 ht8 v8_4 hf8 hm8
    refine r_iload (pc := 8) dX2_price_8 rfl ?_
    refine r_aload_n (pc := 10) dX2_price_10 (i := 1) rfl rfl ?_
    refine t_getE (pc := 11) (.int (iv (gq : Int))) ht8 hg_O fX2_43 dX2_price_11 rfl ?_
    refine t_icmp_ge (pc := 14) (tgt := 126) dX2_price_14 (by decide) (by omega) (by omega) (fun c14 => ?_) (fun c14 => ?_)
    · refine r_lconst (pc := 126) (v := 0) dX2_price_126 (by decide) ?_
      refine r_lstore (pc := 127) (lv' := [(4, .long (0 : Int64)), (0, .ref fs), (1, .ref ga), (2, .int (iv x2)), (3, .int (iv x3))]) dX2_price_127 (by decide) rfl ?_
      refine r_iconst (pc := 129) (v := iv 0) dX2_price_129 (by decide) ?_
      refine r_istore (pc := 130) (lv' := [(6, .int (iv 0)), (4, .long (0 : Int64)), (0, .ref fs), (1, .ref ga), (2, .int (iv x2)), (3, .int (iv x3))]) dX2_price_130 (by decide) rfl ?_
      have B132 : ∀ k : Nat, ∀ hp132 : MH, Tw Γ hp132 → ∀  (v132_6 : Int) (w132_4 : Int64), 0 ≤ v132_6 ∧ v132_6 ≤ 60001 → 60001 - v132_6 ≤ (k : Int) → Rn (gG D cI cJ cZ cT lo b L xs) mX2_price d 132 [(0, .ref fs), (1, .ref ga), (2, .int (iv x2)), (3, .int (iv x3)), (4, .long w132_4), (6, .int (iv v132_6))] [] hp132 n 0 0 (pJ Γ n yes64) := by
        refine lpS _ ?_
        intro k132 ih132 hp132 ht132 v132_6 w132_4 hf132 hm132
        refine r_iload (pc := 132) dX2_price_132 rfl ?_
        refine r_ldc (pc := 134) (v := iv 60001) dX2_price_134 kX2_67 ?_
        have B176 : ∀ hp176 : MH, Tw Γ hp176 → True → Rn (gG D cI cJ cZ cT lo b L xs) mX2_price d 176 [(4, .long w132_4)] [] hp176 n 0 0 (pJ Γ n yes64) := by
          intro hp176 ht176 hf176
          refine r_lload (pc := 176) dX2_price_176 rfl ?_
          exact r_lret (pc := 178) dX2_price_178 rfl ⟨rfl, ht176, _, rfl, trivial⟩
        refine t_icmp_ge (pc := 136) (tgt := 176) dX2_price_136 (by decide) (by omega) (by omega) (fun c136 => ?_) (fun c136 => ?_)
        · refine Rn.pick (lv' := [(4, .long w132_4)]) [4] rfl ?_
          exact B176 _ ht132 trivial
        · refine r_aload_n (pc := 139) dX2_price_139 (i := 0) rfl rfl ?_
          refine r_aload_n (pc := 140) dX2_price_140 (i := 1) rfl rfl ?_
          refine t_getE (pc := 141) (.int (iv (gn : Int))) ht132 hg_O fX2_68 dX2_price_141 rfl ?_
          refine r_iload_n (pc := 144) dX2_price_144 (i := 2) rfl rfl ?_
          refine r_iload_n (pc := 145) dX2_price_145 (i := 3) rfl rfl ?_
          refine t_callVR (pc := 146) (as := [.int (iv (gn : Int)), .int (iv x2), .int (iv x3)]) (st := []) ht132 (rd_of hf_O) kX2_99 rfl dX2_price_146 (t_X2_findCheapest (d := d - 1) (x1 := (gn : Int)) (x2 := x2) (x3 := x3) (by omega) hf  ht132 (by omega) (by omega) (by omega) ) rfl (by omega) (Nat.le_of_ble_eq_true rfl) rfl (fun hp3 y5 ht4 by5 => ?_)
          refine t_if_eq (pc := 149) (tgt := 176) dX2_price_149 (by decide) (by omega) (fun c149 => ?_) (fun c149 => ?_)
          · refine Rn.pick (lv' := [(4, .long w132_4)]) [4] rfl ?_
            exact B176 _ ht4 trivial
          · refine r_lload (pc := 152) dX2_price_152 rfl ?_
            refine r_aload_n (pc := 154) dX2_price_154 (i := 0) rfl rfl ?_
            refine r_iload_n (pc := 155) dX2_price_155 (i := 2) rfl rfl ?_
            refine r_iload_n (pc := 156) dX2_price_156 (i := 3) rfl rfl ?_
            refine t_callVJ (pc := 157) (as := [.int (iv x2), .int (iv x3)]) (st := [.long w132_4]) ht4 (rd_of hf_O) kX2_102 rfl dX2_price_157 (t_X2_pushLinks (d := d - 1) (x1 := x2) (x2 := x3) (by omega) hf  ht4 (by omega) (by omega) ) rfl (by omega) (Nat.le_of_ble_eq_true rfl) rfl (fun hp6 y8 ht7 _ => ?_)
            refine r_aload_n (pc := 160) dX2_price_160 (i := 0) rfl rfl ?_
            refine t_getE (pc := 161) (.ref (fs + 8)) ht7 (rd_of hf_O) fX2_33 dX2_price_161 rfl ?_
            refine r_iload_n (pc := 164) dX2_price_164 (i := 3) rfl rfl ?_
            refine t_lald (pc := 165) (t0 := 1) ht7 (rd_of hf_distance) dX2_price_165 rfl (by decide) (by omega) (fun w9 _ => ?_)
            refine r_lmul (pc := 166) (v := y8 * w9) dX2_price_166 rfl ?_
            refine r_ladd (pc := 167) (v := w132_4 + (y8 * w9)) dX2_price_167 rfl ?_
            refine r_lstore (pc := 168) (lv' := [(4, .long (w132_4 + (y8 * w9))), (0, .ref fs), (1, .ref ga), (2, .int (iv x2)), (3, .int (iv x3)), (6, .int (iv v132_6))]) dX2_price_168 (by decide) rfl ?_
            refine r_iinc (pc := 170) (v := iv (v132_6 + 1)) (lv' := [(6, .int (iv (v132_6 + 1))), (4, .long (w132_4 + (y8 * w9))), (0, .ref fs), (1, .ref ga), (2, .int (iv x2)), (3, .int (iv x3))]) dX2_price_170 rfl (iv_add _ _) (by decide) rfl ?_
            refine r_goto (pc := 173) (tgt := 132) dX2_price_173 (by decide) ?_
            refine Rn.pick (lv' := [(0, .ref fs), (1, .ref ga), (2, .int (iv x2)), (3, .int (iv x3)), (4, .long (w132_4 + (y8 * w9))), (6, .int (iv (v132_6 + 1)))]) [2, 3, 4, 5, 1, 0] rfl ?_
            exact ih132 (Int.toNat (60001 - (v132_6 + 1))) (by omega) _ ht7 (v132_6 + 1) (w132_4 + (y8 * w9)) ⟨by omega, by omega⟩ (by omega)
      refine Rn.pick (lv' := [(0, .ref fs), (1, .ref ga), (2, .int (iv x2)), (3, .int (iv x3)), (4, .long (0 : Int64)), (6, .int (iv 0))]) [2, 3, 4, 5, 1, 0] rfl ?_
      exact B132 (Int.toNat (60001 - 0)) _ ht8 0 (0 : Int64) ⟨by omega, by omega⟩ (by omega)
    · refine r_aload_n (pc := 17) dX2_price_17 (i := 1) rfl rfl ?_
      refine t_getE (pc := 18) (.ref gBy) ht8 hg_O fX2_52 dX2_price_18 rfl ?_
      refine r_iload (pc := 21) dX2_price_21 rfl ?_
      refine t_ialdR (pc := 23) (t0 := 0) ht8 hg_by dX2_price_23 rfl (by omega) (by omega) (fun y10 by10 => ?_)
      refine r_istore (pc := 24) (lv' := [(5, .int (iv y10)), (0, .ref fs), (1, .ref ga), (2, .int (iv x2)), (3, .int (iv x3)), (4, .int (iv v8_4))]) dX2_price_24 (by decide) rfl ?_
      refine r_aload_n (pc := 26) dX2_price_26 (i := 1) rfl rfl ?_
      refine t_getE (pc := 27) (.ref gW) ht8 hg_O fX2_49 dX2_price_27 rfl ?_
      refine r_iload (pc := 30) dX2_price_30 rfl ?_
      refine t_ialdR (pc := 32) (t0 := 0) ht8 hg_weight dX2_price_32 rfl (by omega) (by omega) (fun y11 by11 => ?_)
      have B120 : ∀ hp120 : MH, Tw Γ hp120 → True → Rn (gG D cI cJ cZ cT lo b L xs) mX2_price d 120 [(0, .ref fs), (1, .ref ga), (2, .int (iv x2)), (3, .int (iv x3)), (4, .int (iv v8_4))] [] hp120 n 0 0 (pJ Γ n yes64) := by
        intro hp120 ht120 hf120
        refine r_iinc (pc := 120) (v := iv (v8_4 + 1)) (lv' := [(4, .int (iv (v8_4 + 1))), (0, .ref fs), (1, .ref ga), (2, .int (iv x2)), (3, .int (iv x3))]) dX2_price_120 rfl (iv_add _ _) (by decide) rfl ?_
        refine r_goto (pc := 123) (tgt := 8) dX2_price_123 (by decide) ?_
        refine Rn.pick (lv' := [(0, .ref fs), (1, .ref ga), (2, .int (iv x2)), (3, .int (iv x3)), (4, .int (iv (v8_4 + 1)))]) [1, 2, 3, 4, 0] rfl ?_
        exact ih8 (Int.toNat (120 - (v8_4 + 1))) (by omega) _ ht120 (v8_4 + 1) ⟨by omega, by omega⟩ (by omega)
      refine t_if_le (pc := 33) (tgt := 120) dX2_price_33 (by decide) (by omega) (fun c33 => ?_) (fun c33 => ?_)
      · refine Rn.pick (lv' := [(0, .ref fs), (1, .ref ga), (2, .int (iv x2)), (3, .int (iv x3)), (4, .int (iv v8_4))]) [1, 2, 3, 4, 5] rfl ?_
        exact B120 _ ht8 trivial
      · refine r_aload_n (pc := 36) dX2_price_36 (i := 1) rfl rfl ?_
        refine t_getE (pc := 37) (.ref gTl) ht8 hg_O fX2_61 dX2_price_37 rfl ?_
        refine r_iload (pc := 40) dX2_price_40 rfl ?_
        refine t_ialdR (pc := 42) (t0 := 0) ht8 hg_tail dX2_price_42 rfl (by omega) (by omega) (fun y12 by12 => ?_)
        refine r_aload_n (pc := 43) dX2_price_43 (i := 1) rfl rfl ?_
        refine t_getE (pc := 44) (.ref gHd) ht8 hg_O fX2_64 dX2_price_44 rfl ?_
        refine r_iload (pc := 47) dX2_price_47 rfl ?_
        refine t_ialdR (pc := 49) (t0 := 0) ht8 hg_head dX2_price_49 rfl (by omega) (by omega) (fun y13 by13 => ?_)
        refine t_icmp_eq (pc := 50) (tgt := 120) dX2_price_50 (by decide) (by omega) (by omega) (fun c50 => ?_) (fun c50 => ?_)
        · refine Rn.pick (lv' := [(0, .ref fs), (1, .ref ga), (2, .int (iv x2)), (3, .int (iv x3)), (4, .int (iv v8_4))]) [1, 2, 3, 4, 5] rfl ?_
          exact B120 _ ht8 trivial
        · refine r_aload_n (pc := 53) dX2_price_53 (i := 0) rfl rfl ?_
          refine r_aload_n (pc := 54) dX2_price_54 (i := 1) rfl rfl ?_
          refine t_getE (pc := 55) (.ref gTl) ht8 hg_O fX2_61 dX2_price_55 rfl ?_
          refine r_iload (pc := 58) dX2_price_58 rfl ?_
          refine t_ialdR (pc := 60) (t0 := 0) ht8 hg_tail dX2_price_60 rfl (by omega) (by omega) (fun y14 by14 => ?_)
          refine r_aload_n (pc := 61) dX2_price_61 (i := 1) rfl rfl ?_
          refine t_getE (pc := 62) (.ref gHd) ht8 hg_O fX2_64 dX2_price_62 rfl ?_
          refine r_iload (pc := 65) dX2_price_65 rfl ?_
          refine t_ialdR (pc := 67) (t0 := 0) ht8 hg_head dX2_price_67 rfl (by omega) (by omega) (fun y15 by15 => ?_)
          refine r_aload_n (pc := 68) dX2_price_68 (i := 1) rfl rfl ?_
          refine t_getE (pc := 69) (.ref gW) ht8 hg_O fX2_49 dX2_price_69 rfl ?_
          refine r_iload (pc := 72) dX2_price_72 rfl ?_
          refine t_ialdR (pc := 74) (t0 := 0) ht8 hg_weight dX2_price_74 rfl (by omega) (by omega) (fun y16 by16 => ?_)
          refine r_iconst (pc := 75) (v := iv 0) dX2_price_75 (by decide) ?_
          refine r_aload_n (pc := 76) dX2_price_76 (i := 1) rfl rfl ?_
          refine t_getE (pc := 77) (.ref gC) ht8 hg_O fX2_92 dX2_price_77 rfl ?_
          refine r_iload (pc := 80) dX2_price_80 rfl ?_
          refine t_ialdR (pc := 82) (t0 := 0) ht8 hg_cost dX2_price_82 rfl (by omega) (by omega) (fun y17 by17 => ?_)
          obtain ⟨z18, hz18, bz18⟩ := max_b 0 y17 (by omega) (by omega)
          refine r_mmax (pc := 83) (v := iv z18) qX2_55 dX2_price_83 (Nat.le_of_ble_eq_true rfl) hz18 ?_
          refine t_callVV (pc := 86) (as := [.int (iv y14), .int (iv y15), .int (iv y16), .int (iv z18)]) (st := []) ht8 (rd_of hf_O) kX2_95 rfl dX2_price_86 (t_X2_addLink (d := d - 1) (x1 := y14) (x2 := y15) (x3 := y16) (x4 := z18) (by omega) hf  ht8 (by omega) (by omega) (by omega) (by omega) ) rfl (by omega) (Nat.le_of_ble_eq_true rfl) rfl (fun hp19 ht20 => ?_)
          refine r_aload_n (pc := 89) dX2_price_89 (i := 0) rfl rfl ?_
          refine r_aload_n (pc := 90) dX2_price_90 (i := 1) rfl rfl ?_
          refine t_getE (pc := 91) (.ref gHd) ht20 hg_O fX2_64 dX2_price_91 rfl ?_
          refine r_iload (pc := 94) dX2_price_94 rfl ?_
          refine t_ialdR (pc := 96) (t0 := 0) ht20 hg_head dX2_price_96 rfl (by omega) (by omega) (fun y22 by22 => ?_)
          refine r_aload_n (pc := 97) dX2_price_97 (i := 1) rfl rfl ?_
          refine t_getE (pc := 98) (.ref gTl) ht20 hg_O fX2_61 dX2_price_98 rfl ?_
          refine r_iload (pc := 101) dX2_price_101 rfl ?_
          refine t_ialdR (pc := 103) (t0 := 0) ht20 hg_tail dX2_price_103 rfl (by omega) (by omega) (fun y23 by23 => ?_)
          refine r_iconst (pc := 104) (v := iv 0) dX2_price_104 (by decide) ?_
          refine r_iconst (pc := 105) (v := iv 0) dX2_price_105 (by decide) ?_
          refine r_aload_n (pc := 106) dX2_price_106 (i := 1) rfl rfl ?_
          refine t_getE (pc := 107) (.ref gC) ht20 hg_O fX2_92 dX2_price_107 rfl ?_
          refine r_iload (pc := 110) dX2_price_110 rfl ?_
          refine t_ialdR (pc := 112) (t0 := 0) ht20 hg_cost dX2_price_112 rfl (by omega) (by omega) (fun y24 by24 => ?_)
          obtain ⟨z25, hz25, bz25⟩ := max_b 0 y24 (by omega) (by omega)
          refine r_mmax (pc := 113) (v := iv z25) qX2_55 dX2_price_113 (Nat.le_of_ble_eq_true rfl) hz25 ?_
          refine r_ineg (pc := 116) (v := iv (-z25)) dX2_price_116 (iv_neg _) ?_
          refine t_callVV (pc := 117) (as := [.int (iv y22), .int (iv y23), .int (iv 0), .int (iv (-z25))]) (st := []) ht20 (rd_of hf_O) kX2_95 rfl dX2_price_117 (t_X2_addLink (d := d - 1) (x1 := y22) (x2 := y23) (x3 := 0) (x4 := -z25) (by omega) hf  ht20 (by omega) (by omega) (by omega) (by omega) ) rfl (by omega) (Nat.le_of_ble_eq_true rfl) rfl (fun hp26 ht27 => ?_)
          refine Rn.pick (lv' := [(0, .ref fs), (1, .ref ga), (2, .int (iv x2)), (3, .int (iv x3)), (4, .int (iv v8_4))]) [1, 2, 3, 4, 5] rfl ?_
          exact B120 _ ht27 trivial
  refine Rn.pick (lv' := [(0, .ref fs), (1, .ref ga), (2, .int (iv x2)), (3, .int (iv x3)), (4, .int (iv 0))]) [1, 2, 3, 4, 0] rfl ?_
  exact B8 (Int.toNat (120 - 0)) _ ht2 0 ⟨by omega, by omega⟩ (by omega)
