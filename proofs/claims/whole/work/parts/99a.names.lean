section NM
variable {X : va_G × List (ClassId × FieldType) × (Nat × Nat × Nat × (Nat → Int32))}
theorem dX0_sortNumber_0 : decode cX0_sortNumber 0 = .ok (.iconst 2, 1) := by decide +kernel
theorem dX0_sortNumber_1 : decode cX0_sortNumber 1 = .ok (.ireturn, 1) := by decide +kernel
theorem dX0_total_0 : decode cX0_total 0 = .ok (.lconst 0, 1) := by decide +kernel
theorem dX0_total_1 : decode cX0_total 1 = .ok (.lstore_n 1, 1) := by decide +kernel
theorem dX0_total_2 : decode cX0_total 2 = .ok (.iconst 0, 1) := by decide +kernel
theorem dX0_total_3 : decode cX0_total 3 = .ok (.istore_n 3, 1) := by decide +kernel
theorem dX0_total_4 : decode cX0_total 4 = .ok (.iload_n 3, 1) := by decide +kernel
theorem dX0_total_5 : decode cX0_total 5 = .ok (.aload_n 0, 1) := by decide +kernel
theorem dX0_total_6 : decode cX0_total 6 = .ok (.getfield 15, 3) := by decide +kernel
theorem dX0_total_9 : decode cX0_total 9 = .ok (.if_icmp .ge 18, 3) := by decide +kernel
theorem dX0_total_12 : decode cX0_total 12 = .ok (.lload_n 1, 1) := by decide +kernel
theorem dX0_total_13 : decode cX0_total 13 = .ok (.aload_n 0, 1) := by decide +kernel
theorem dX0_total_14 : decode cX0_total 14 = .ok (.getfield 9, 3) := by decide +kernel
theorem dX0_total_17 : decode cX0_total 17 = .ok (.iload_n 3, 1) := by decide +kernel
theorem dX0_total_18 : decode cX0_total 18 = .ok (.laload, 1) := by decide +kernel
theorem dX0_total_19 : decode cX0_total 19 = .ok (.ladd, 1) := by decide +kernel
theorem dX0_total_20 : decode cX0_total 20 = .ok (.lstore_n 1, 1) := by decide +kernel
theorem dX0_total_21 : decode cX0_total 21 = .ok (.iinc 3 1, 3) := by decide +kernel
theorem dX0_total_24 : decode cX0_total 24 = .ok (.goto (-20), 3) := by decide +kernel
theorem dX0_total_27 : decode cX0_total 27 = .ok (.lload_n 1, 1) := by decide +kernel
theorem dX0_total_28 : decode cX0_total 28 = .ok (.lreturn, 1) := by decide +kernel
theorem fX0_15 : lkF (gS, X) RX0 15 0 0 "GraphEngine$Column" RX0 TX0 2 := ⟨rfl, inX0, by decide, (tb_t (k := 362) (w := Cond.fieldLink RX0 15 "GraphEngine$Column" "nodes" "I") (by decide +kernel)), Or.inr (tb_t (k := 363) (w := Cond.sameField "GraphEngine$Column" "GraphEngine$Thing" "nodes" "I") (by decide +kernel))⟩
theorem dX0_measure_0 : decode cX0_measure 0 = .ok (.iload_n 2, 1) := by decide +kernel
theorem dX0_measure_1 : decode cX0_measure 1 = .ok (.tableswitch 105 0 5 #[39, 39, 80, 88, 105, 96], 39) := by decide +kernel
theorem dX0_measure_40 : decode cX0_measure 40 = .ok (.aload_n 0, 1) := by decide +kernel
theorem dX0_measure_41 : decode cX0_measure 41 = .ok (.aload_n 1, 1) := by decide +kernel
theorem dX0_measure_42 : decode cX0_measure 42 = .ok (.iload_n 2, 1) := by decide +kernel
theorem dX0_measure_43 : decode cX0_measure 43 = .ok (.ifCond .eq 10, 3) := by decide +kernel
theorem dX0_measure_46 : decode cX0_measure 46 = .ok (.aload_n 1, 1) := by decide +kernel
theorem dX0_measure_47 : decode cX0_measure 47 = .ok (.getfield 19, 3) := by decide +kernel
theorem dX0_measure_50 : decode cX0_measure 50 = .ok (.ifCond .ne 7, 3) := by decide +kernel
theorem dX0_measure_53 : decode cX0_measure 53 = .ok (.iconst 1, 1) := by decide +kernel
theorem dX0_measure_54 : decode cX0_measure 54 = .ok (.goto 4, 3) := by decide +kernel
theorem dX0_measure_57 : decode cX0_measure 57 = .ok (.iconst 0, 1) := by decide +kernel
theorem dX0_measure_58 : decode cX0_measure 58 = .ok (.iload_n 2, 1) := by decide +kernel
theorem dX0_measure_59 : decode cX0_measure 59 = .ok (.iconst 1, 1) := by decide +kernel
theorem dX0_measure_60 : decode cX0_measure 60 = .ok (.if_icmp .eq 10, 3) := by decide +kernel
theorem dX0_measure_63 : decode cX0_measure 63 = .ok (.aload_n 1, 1) := by decide +kernel
theorem dX0_measure_64 : decode cX0_measure 64 = .ok (.getfield 19, 3) := by decide +kernel
theorem dX0_measure_67 : decode cX0_measure 67 = .ok (.ifCond .ne 7, 3) := by decide +kernel
theorem dX0_measure_70 : decode cX0_measure 70 = .ok (.iconst 1, 1) := by decide +kernel
theorem dX0_measure_71 : decode cX0_measure 71 = .ok (.goto 4, 3) := by decide +kernel
theorem dX0_measure_74 : decode cX0_measure 74 = .ok (.iconst 0, 1) := by decide +kernel
theorem dX0_measure_75 : decode cX0_measure 75 = .ok (.invokevirtual 25, 3) := by decide +kernel
theorem dX0_measure_78 : decode cX0_measure 78 = .ok (.goto 78, 3) := by decide +kernel
theorem dX0_measure_81 : decode cX0_measure 81 = .ok (.aload_n 0, 1) := by decide +kernel
theorem dX0_measure_82 : decode cX0_measure 82 = .ok (.aload_n 1, 1) := by decide +kernel
theorem dX0_measure_83 : decode cX0_measure 83 = .ok (.invokevirtual 29, 3) := by decide +kernel
theorem dX0_measure_86 : decode cX0_measure 86 = .ok (.goto 70, 3) := by decide +kernel
theorem dX0_measure_89 : decode cX0_measure 89 = .ok (.aload_n 0, 1) := by decide +kernel
theorem dX0_measure_90 : decode cX0_measure 90 = .ok (.aload_n 1, 1) := by decide +kernel
theorem dX0_measure_91 : decode cX0_measure 91 = .ok (.invokevirtual 33, 3) := by decide +kernel
theorem dX0_measure_94 : decode cX0_measure 94 = .ok (.goto 62, 3) := by decide +kernel
theorem dX0_measure_97 : decode cX0_measure 97 = .ok (.aload_n 0, 1) := by decide +kernel
theorem dX0_measure_98 : decode cX0_measure 98 = .ok (.aload_n 1, 1) := by decide +kernel
theorem dX0_measure_99 : decode cX0_measure 99 = .ok (.iload_n 3, 1) := by decide +kernel
theorem dX0_measure_100 : decode cX0_measure 100 = .ok (.invokevirtual 36, 3) := by decide +kernel
theorem dX0_measure_103 : decode cX0_measure 103 = .ok (.goto 53, 3) := by decide +kernel
theorem dX0_measure_106 : decode cX0_measure 106 = .ok (.iconst 0, 1) := by decide +kernel
theorem dX0_measure_107 : decode cX0_measure 107 = .ok (.istore 4, 2) := by decide +kernel
theorem dX0_measure_109 : decode cX0_measure 109 = .ok (.iload 4, 2) := by decide +kernel
theorem dX0_measure_111 : decode cX0_measure 111 = .ok (.aload_n 0, 1) := by decide +kernel
theorem dX0_measure_112 : decode cX0_measure 112 = .ok (.getfield 15, 3) := by decide +kernel
theorem dX0_measure_115 : decode cX0_measure 115 = .ok (.if_icmp .ge 41, 3) := by decide +kernel
theorem dX0_measure_118 : decode cX0_measure 118 = .ok (.aload_n 0, 1) := by decide +kernel
theorem dX0_measure_119 : decode cX0_measure 119 = .ok (.getfield 9, 3) := by decide +kernel
theorem dX0_measure_122 : decode cX0_measure 122 = .ok (.iload 4, 2) := by decide +kernel
theorem dX0_measure_124 : decode cX0_measure 124 = .ok (.iload_n 2, 1) := by decide +kernel
theorem dX0_measure_125 : decode cX0_measure 125 = .ok (.iconst 4, 1) := by decide +kernel
theorem dX0_measure_126 : decode cX0_measure 126 = .ok (.if_icmp .ne 16, 3) := by decide +kernel
theorem dX0_measure_129 : decode cX0_measure 129 = .ok (.aload_n 1, 1) := by decide +kernel
theorem dX0_measure_130 : decode cX0_measure 130 = .ok (.getfield 40, 3) := by decide +kernel
theorem dX0_measure_133 : decode cX0_measure 133 = .ok (.iload 4, 2) := by decide +kernel
theorem dX0_measure_135 : decode cX0_measure 135 = .ok (.invokestatic 44, 3) := by decide +kernel
theorem dX0_measure_138 : decode cX0_measure 138 = .ok (.i2l, 1) := by decide +kernel
theorem dX0_measure_139 : decode cX0_measure 139 = .ok (.goto 10, 3) := by decide +kernel
theorem dX0_measure_142 : decode cX0_measure 142 = .ok (.aload_n 1, 1) := by decide +kernel
theorem dX0_measure_143 : decode cX0_measure 143 = .ok (.iload 4, 2) := by decide +kernel
theorem dX0_measure_145 : decode cX0_measure 145 = .ok (.invokestatic 50, 3) := by decide +kernel
theorem dX0_measure_148 : decode cX0_measure 148 = .ok (.i2l, 1) := by decide +kernel
theorem dX0_measure_149 : decode cX0_measure 149 = .ok (.lastore, 1) := by decide +kernel
theorem dX0_measure_150 : decode cX0_measure 150 = .ok (.iinc 4 1, 3) := by decide +kernel
theorem dX0_measure_153 : decode cX0_measure 153 = .ok (.goto (-44), 3) := by decide +kernel
theorem dX0_measure_156 : decode cX0_measure 156 = .ok (.return_, 1) := by decide +kernel
theorem fX0_19 : lkF (gS, X) RX0 19 3 1 "GraphEngine$Graph" RX3 TX3 14 := ⟨rfl, inX3, by decide, (tb_t (k := 286) (w := Cond.fieldLink RX0 19 "GraphEngine$Graph" "directed" "Z") (by decide +kernel)), Or.inl rfl⟩
theorem kX0_25 : lkK (gS, X) RX0 25 mX0_countEnds 3 ∧ Cond.instanceMethod yX0_countEnds ∈ g_ws (gS, X) ∧ Cond.selects RX0 yX0_countEnds yX0_countEnds ∈ g_ws (gS, X) ∧ yX0_countEnds.cls = RX0 := ⟨⟨tb_good, (tb_t (k := 541) (w := Cond.methodLink RX0 25 yX0_countEnds) (by decide +kernel)), (tb_t (k := 15) (w := Cond.initialized RX0) (by decide +kernel)), (tb_t (k := 544) (w := Cond.code yX0_countEnds cX0_countEnds 5 none) (by decide +kernel)), by decide +kernel, by decide⟩, (tb_t (k := 543) (w := Cond.instanceMethod yX0_countEnds) (by decide +kernel)), (tb_p (k := 18) (q := (yX0_countEnds, 2)) (by decide +kernel)), rfl⟩
theorem kX0_29 : lkK (gS, X) RX0 29 mX0_sumWeights 1 ∧ Cond.instanceMethod yX0_sumWeights ∈ g_ws (gS, X) ∧ Cond.selects RX0 yX0_sumWeights yX0_sumWeights ∈ g_ws (gS, X) ∧ yX0_sumWeights.cls = RX0 := ⟨⟨tb_good, (tb_t (k := 545) (w := Cond.methodLink RX0 29 yX0_sumWeights) (by decide +kernel)), (tb_t (k := 15) (w := Cond.initialized RX0) (by decide +kernel)), (tb_t (k := 548) (w := Cond.code yX0_sumWeights cX0_sumWeights 3 none) (by decide +kernel)), by decide +kernel, by decide⟩, (tb_t (k := 547) (w := Cond.instanceMethod yX0_sumWeights) (by decide +kernel)), (tb_p (k := 19) (q := (yX0_sumWeights, 2)) (by decide +kernel)), rfl⟩
theorem kX0_33 : lkK (gS, X) RX0 33 mX0_peel 1 ∧ Cond.instanceMethod yX0_peel ∈ g_ws (gS, X) ∧ Cond.selects RX0 yX0_peel yX0_peel ∈ g_ws (gS, X) ∧ yX0_peel.cls = RX0 := ⟨⟨tb_good, (tb_t (k := 549) (w := Cond.methodLink RX0 33 yX0_peel) (by decide +kernel)), (tb_t (k := 15) (w := Cond.initialized RX0) (by decide +kernel)), (tb_t (k := 552) (w := Cond.code yX0_peel cX0_peel 8 none) (by decide +kernel)), by decide +kernel, by decide⟩, (tb_t (k := 551) (w := Cond.instanceMethod yX0_peel) (by decide +kernel)), (tb_p (k := 20) (q := (yX0_peel, 2)) (by decide +kernel)), rfl⟩
theorem kX0_36 : lkK (gS, X) RX0 36 mX0_countWalks 2 ∧ Cond.instanceMethod yX0_countWalks ∈ g_ws (gS, X) ∧ Cond.selects RX0 yX0_countWalks yX0_countWalks ∈ g_ws (gS, X) ∧ yX0_countWalks.cls = RX0 := ⟨⟨tb_good, (tb_t (k := 559) (w := Cond.methodLink RX0 36 yX0_countWalks) (by decide +kernel)), (tb_t (k := 15) (w := Cond.initialized RX0) (by decide +kernel)), (tb_t (k := 562) (w := Cond.code yX0_countWalks cX0_countWalks 8 none) (by decide +kernel)), by decide +kernel, by decide⟩, (tb_t (k := 561) (w := Cond.instanceMethod yX0_countWalks) (by decide +kernel)), (tb_p (k := 21) (q := (yX0_countWalks, 2)) (by decide +kernel)), rfl⟩
theorem fX0_40 : lkF (gS, X) RX0 40 3 11 "GraphEngine$Graph" RX3 TX3 14 := ⟨rfl, inX3, by decide, (tb_t (k := 339) (w := Cond.fieldLink RX0 40 "GraphEngine$Graph" "out" "[I") (by decide +kernel)), Or.inl rfl⟩
theorem kX0_44 : lkK (gS, X) RX0 44 mX8_far 2 ∧ Cond.static yX8_far ∈ g_ws (gS, X) := ⟨⟨tb_good, (tb_t (k := 567) (w := Cond.methodLink RX0 44 yX8_far) (by decide +kernel)), (tb_t (k := 3) (w := Cond.initialized RX8) (by decide +kernel)), (tb_t (k := 569) (w := Cond.code yX8_far cX8_far 6 (some .int)) (by decide +kernel)), by decide +kernel, by decide⟩, (tb_t (k := 568) (w := Cond.static yX8_far) (by decide +kernel))⟩
theorem kX0_50 : lkK (gS, X) RX0 50 mX8_blocks 2 ∧ Cond.static yX8_blocks ∈ g_ws (gS, X) := ⟨⟨tb_good, (tb_t (k := 573) (w := Cond.methodLink RX0 50 yX8_blocks) (by decide +kernel)), (tb_t (k := 3) (w := Cond.initialized RX8) (by decide +kernel)), (tb_t (k := 575) (w := Cond.code yX8_blocks cX8_blocks 5 (some .int)) (by decide +kernel)), by decide +kernel, by decide⟩, (tb_t (k := 574) (w := Cond.static yX8_blocks) (by decide +kernel))⟩
theorem dX0_countEnds_0 : decode cX0_countEnds 0 = .ok (.iconst 0, 1) := by decide +kernel
theorem dX0_countEnds_1 : decode cX0_countEnds 1 = .ok (.istore 4, 2) := by decide +kernel
theorem dX0_countEnds_3 : decode cX0_countEnds 3 = .ok (.iload 4, 2) := by decide +kernel
theorem dX0_countEnds_5 : decode cX0_countEnds 5 = .ok (.aload_n 1, 1) := by decide +kernel
theorem dX0_countEnds_6 : decode cX0_countEnds 6 = .ok (.getfield 54, 3) := by decide +kernel
theorem dX0_countEnds_9 : decode cX0_countEnds 9 = .ok (.if_icmp .ge 49, 3) := by decide +kernel
theorem dX0_countEnds_12 : decode cX0_countEnds 12 = .ok (.iload_n 2, 1) := by decide +kernel
theorem dX0_countEnds_13 : decode cX0_countEnds 13 = .ok (.ifCond .eq 19, 3) := by decide +kernel
theorem dX0_countEnds_16 : decode cX0_countEnds 16 = .ok (.aload_n 0, 1) := by decide +kernel
theorem dX0_countEnds_17 : decode cX0_countEnds 17 = .ok (.getfield 9, 3) := by decide +kernel
theorem dX0_countEnds_20 : decode cX0_countEnds 20 = .ok (.aload_n 1, 1) := by decide +kernel
theorem dX0_countEnds_21 : decode cX0_countEnds 21 = .ok (.getfield 57, 3) := by decide +kernel
theorem dX0_countEnds_24 : decode cX0_countEnds 24 = .ok (.iload 4, 2) := by decide +kernel
theorem dX0_countEnds_26 : decode cX0_countEnds 26 = .ok (.iaload, 1) := by decide +kernel
theorem dX0_countEnds_27 : decode cX0_countEnds 27 = .ok (.dup2, 1) := by decide +kernel
theorem dX0_countEnds_28 : decode cX0_countEnds 28 = .ok (.laload, 1) := by decide +kernel
theorem dX0_countEnds_29 : decode cX0_countEnds 29 = .ok (.lconst 1, 1) := by decide +kernel
theorem dX0_countEnds_30 : decode cX0_countEnds 30 = .ok (.ladd, 1) := by decide +kernel
theorem dX0_countEnds_31 : decode cX0_countEnds 31 = .ok (.lastore, 1) := by decide +kernel
theorem dX0_countEnds_32 : decode cX0_countEnds 32 = .ok (.iload_n 3, 1) := by decide +kernel
theorem dX0_countEnds_33 : decode cX0_countEnds 33 = .ok (.ifCond .eq 19, 3) := by decide +kernel
theorem dX0_countEnds_36 : decode cX0_countEnds 36 = .ok (.aload_n 0, 1) := by decide +kernel
theorem dX0_countEnds_37 : decode cX0_countEnds 37 = .ok (.getfield 9, 3) := by decide +kernel
theorem dX0_countEnds_40 : decode cX0_countEnds 40 = .ok (.aload_n 1, 1) := by decide +kernel
theorem dX0_countEnds_41 : decode cX0_countEnds 41 = .ok (.getfield 60, 3) := by decide +kernel
theorem dX0_countEnds_44 : decode cX0_countEnds 44 = .ok (.iload 4, 2) := by decide +kernel
theorem dX0_countEnds_46 : decode cX0_countEnds 46 = .ok (.iaload, 1) := by decide +kernel
theorem dX0_countEnds_47 : decode cX0_countEnds 47 = .ok (.dup2, 1) := by decide +kernel
theorem dX0_countEnds_48 : decode cX0_countEnds 48 = .ok (.laload, 1) := by decide +kernel
theorem dX0_countEnds_49 : decode cX0_countEnds 49 = .ok (.lconst 1, 1) := by decide +kernel
theorem dX0_countEnds_50 : decode cX0_countEnds 50 = .ok (.ladd, 1) := by decide +kernel
theorem dX0_countEnds_51 : decode cX0_countEnds 51 = .ok (.lastore, 1) := by decide +kernel
theorem dX0_countEnds_52 : decode cX0_countEnds 52 = .ok (.iinc 4 1, 3) := by decide +kernel
theorem dX0_countEnds_55 : decode cX0_countEnds 55 = .ok (.goto (-52), 3) := by decide +kernel
theorem dX0_countEnds_58 : decode cX0_countEnds 58 = .ok (.return_, 1) := by decide +kernel
theorem fX0_54 : lkF (gS, X) RX0 54 3 2 "GraphEngine$Graph" RX3 TX3 14 := ⟨rfl, inX3, by decide, (tb_t (k := 293) (w := Cond.fieldLink RX0 54 "GraphEngine$Graph" "arcs" "I") (by decide +kernel)), Or.inl rfl⟩
theorem fX0_57 : lkF (gS, X) RX0 57 3 3 "GraphEngine$Graph" RX3 TX3 14 := ⟨rfl, inX3, by decide, (tb_t (k := 297) (w := Cond.fieldLink RX0 57 "GraphEngine$Graph" "from" "[I") (by decide +kernel)), Or.inl rfl⟩
theorem fX0_60 : lkF (gS, X) RX0 60 3 4 "GraphEngine$Graph" RX3 TX3 14 := ⟨rfl, inX3, by decide, (tb_t (k := 302) (w := Cond.fieldLink RX0 60 "GraphEngine$Graph" "to" "[I") (by decide +kernel)), Or.inl rfl⟩
theorem dX0_sumWeights_0 : decode cX0_sumWeights 0 = .ok (.iconst 0, 1) := by decide +kernel
theorem dX0_sumWeights_1 : decode cX0_sumWeights 1 = .ok (.istore_n 2, 1) := by decide +kernel
theorem dX0_sumWeights_2 : decode cX0_sumWeights 2 = .ok (.iload_n 2, 1) := by decide +kernel
theorem dX0_sumWeights_3 : decode cX0_sumWeights 3 = .ok (.aload_n 1, 1) := by decide +kernel
theorem dX0_sumWeights_4 : decode cX0_sumWeights 4 = .ok (.getfield 63, 3) := by decide +kernel
theorem dX0_sumWeights_7 : decode cX0_sumWeights 7 = .ok (.if_icmp .ge 35, 3) := by decide +kernel
theorem dX0_sumWeights_10 : decode cX0_sumWeights 10 = .ok (.aload_n 0, 1) := by decide +kernel
theorem dX0_sumWeights_11 : decode cX0_sumWeights 11 = .ok (.getfield 9, 3) := by decide +kernel
theorem dX0_sumWeights_14 : decode cX0_sumWeights 14 = .ok (.aload_n 1, 1) := by decide +kernel
theorem dX0_sumWeights_15 : decode cX0_sumWeights 15 = .ok (.getfield 66, 3) := by decide +kernel
theorem dX0_sumWeights_18 : decode cX0_sumWeights 18 = .ok (.iload_n 2, 1) := by decide +kernel
theorem dX0_sumWeights_19 : decode cX0_sumWeights 19 = .ok (.iaload, 1) := by decide +kernel
theorem dX0_sumWeights_20 : decode cX0_sumWeights 20 = .ok (.dup2, 1) := by decide +kernel
theorem dX0_sumWeights_21 : decode cX0_sumWeights 21 = .ok (.laload, 1) := by decide +kernel
theorem dX0_sumWeights_22 : decode cX0_sumWeights 22 = .ok (.aload_n 1, 1) := by decide +kernel
theorem dX0_sumWeights_23 : decode cX0_sumWeights 23 = .ok (.getfield 69, 3) := by decide +kernel
theorem dX0_sumWeights_26 : decode cX0_sumWeights 26 = .ok (.aload_n 1, 1) := by decide +kernel
theorem dX0_sumWeights_27 : decode cX0_sumWeights 27 = .ok (.getfield 72, 3) := by decide +kernel
theorem dX0_sumWeights_30 : decode cX0_sumWeights 30 = .ok (.iload_n 2, 1) := by decide +kernel
theorem dX0_sumWeights_31 : decode cX0_sumWeights 31 = .ok (.iaload, 1) := by decide +kernel
theorem dX0_sumWeights_32 : decode cX0_sumWeights 32 = .ok (.iaload, 1) := by decide +kernel
theorem dX0_sumWeights_33 : decode cX0_sumWeights 33 = .ok (.i2l, 1) := by decide +kernel
theorem dX0_sumWeights_34 : decode cX0_sumWeights 34 = .ok (.ladd, 1) := by decide +kernel
theorem dX0_sumWeights_35 : decode cX0_sumWeights 35 = .ok (.lastore, 1) := by decide +kernel
theorem dX0_sumWeights_36 : decode cX0_sumWeights 36 = .ok (.iinc 2 1, 3) := by decide +kernel
theorem dX0_sumWeights_39 : decode cX0_sumWeights 39 = .ok (.goto (-37), 3) := by decide +kernel
theorem dX0_sumWeights_42 : decode cX0_sumWeights 42 = .ok (.return_, 1) := by decide +kernel
theorem fX0_63 : lkF (gS, X) RX0 63 3 7 "GraphEngine$Graph" RX3 TX3 14 := ⟨rfl, inX3, by decide, (tb_t (k := 319) (w := Cond.fieldLink RX0 63 "GraphEngine$Graph" "goings" "I") (by decide +kernel)), Or.inl rfl⟩
theorem fX0_66 : lkF (gS, X) RX0 66 3 8 "GraphEngine$Graph" RX3 TX3 14 := ⟨rfl, inX3, by decide, (tb_t (k := 325) (w := Cond.fieldLink RX0 66 "GraphEngine$Graph" "tail" "[I") (by decide +kernel)), Or.inl rfl⟩
theorem fX0_69 : lkF (gS, X) RX0 69 3 5 "GraphEngine$Graph" RX3 TX3 14 := ⟨rfl, inX3, by decide, (tb_t (k := 310) (w := Cond.fieldLink RX0 69 "GraphEngine$Graph" "weight" "[I") (by decide +kernel)), Or.inl rfl⟩
theorem fX0_72 : lkF (gS, X) RX0 72 3 10 "GraphEngine$Graph" RX3 TX3 14 := ⟨rfl, inX3, by decide, (tb_t (k := 335) (w := Cond.fieldLink RX0 72 "GraphEngine$Graph" "by" "[I") (by decide +kernel)), Or.inl rfl⟩
theorem dX0_peel_0 : decode cX0_peel 0 = .ok (.aload_n 0, 1) := by decide +kernel
theorem dX0_peel_1 : decode cX0_peel 1 = .ok (.getfield 15, 3) := by decide +kernel
theorem dX0_peel_4 : decode cX0_peel 4 = .ok (.newarray .int, 2) := by decide +kernel
theorem dX0_peel_6 : decode cX0_peel 6 = .ok (.astore_n 2, 1) := by decide +kernel
theorem dX0_peel_7 : decode cX0_peel 7 = .ok (.aload_n 1, 1) := by decide +kernel
theorem dX0_peel_8 : decode cX0_peel 8 = .ok (.invokevirtual 75, 3) := by decide +kernel
theorem dX0_peel_11 : decode cX0_peel 11 = .ok (.istore_n 3, 1) := by decide +kernel
theorem dX0_peel_12 : decode cX0_peel 12 = .ok (.iconst 0, 1) := by decide +kernel
theorem dX0_peel_13 : decode cX0_peel 13 = .ok (.istore 4, 2) := by decide +kernel
theorem dX0_peel_15 : decode cX0_peel 15 = .ok (.iconst 0, 1) := by decide +kernel
theorem dX0_peel_16 : decode cX0_peel 16 = .ok (.istore 5, 2) := by decide +kernel
theorem dX0_peel_18 : decode cX0_peel 18 = .ok (.iload 5, 2) := by decide +kernel
theorem dX0_peel_20 : decode cX0_peel 20 = .ok (.aload_n 0, 1) := by decide +kernel
theorem dX0_peel_21 : decode cX0_peel 21 = .ok (.getfield 15, 3) := by decide +kernel
theorem dX0_peel_24 : decode cX0_peel 24 = .ok (.if_icmp .ge 100, 3) := by decide +kernel
theorem dX0_peel_27 : decode cX0_peel 27 = .ok (.aload_n 1, 1) := by decide +kernel
theorem dX0_peel_28 : decode cX0_peel 28 = .ok (.iload_n 3, 1) := by decide +kernel
theorem dX0_peel_29 : decode cX0_peel 29 = .ok (.aload_n 2, 1) := by decide +kernel
theorem dX0_peel_30 : decode cX0_peel 30 = .ok (.invokestatic 79, 3) := by decide +kernel
theorem dX0_peel_33 : decode cX0_peel 33 = .ok (.iconst (-1), 1) := by decide +kernel
theorem dX0_peel_34 : decode cX0_peel 34 = .ok (.istore 6, 2) := by decide +kernel
theorem dX0_peel_36 : decode cX0_peel 36 = .ok (.iconst 0, 1) := by decide +kernel
theorem dX0_peel_37 : decode cX0_peel 37 = .ok (.istore 7, 2) := by decide +kernel
theorem dX0_peel_39 : decode cX0_peel 39 = .ok (.iload 7, 2) := by decide +kernel
theorem dX0_peel_41 : decode cX0_peel 41 = .ok (.aload_n 0, 1) := by decide +kernel
theorem dX0_peel_42 : decode cX0_peel 42 = .ok (.getfield 15, 3) := by decide +kernel
theorem dX0_peel_45 : decode cX0_peel 45 = .ok (.if_icmp .ge 38, 3) := by decide +kernel
theorem dX0_peel_48 : decode cX0_peel 48 = .ok (.iload_n 3, 1) := by decide +kernel
theorem dX0_peel_49 : decode cX0_peel 49 = .ok (.iload 7, 2) := by decide +kernel
theorem dX0_peel_51 : decode cX0_peel 51 = .ok (.ishr, 1) := by decide +kernel
theorem dX0_peel_52 : decode cX0_peel 52 = .ok (.iconst 1, 1) := by decide +kernel
theorem dX0_peel_53 : decode cX0_peel 53 = .ok (.iand, 1) := by decide +kernel
theorem dX0_peel_54 : decode cX0_peel 54 = .ok (.ifCond .eq 23, 3) := by decide +kernel
theorem dX0_peel_57 : decode cX0_peel 57 = .ok (.iload 6, 2) := by decide +kernel
theorem dX0_peel_59 : decode cX0_peel 59 = .ok (.ifCond .lt 14, 3) := by decide +kernel
theorem dX0_peel_62 : decode cX0_peel 62 = .ok (.aload_n 2, 1) := by decide +kernel
theorem dX0_peel_63 : decode cX0_peel 63 = .ok (.iload 7, 2) := by decide +kernel
theorem dX0_peel_65 : decode cX0_peel 65 = .ok (.iaload, 1) := by decide +kernel
theorem dX0_peel_66 : decode cX0_peel 66 = .ok (.aload_n 2, 1) := by decide +kernel
theorem dX0_peel_67 : decode cX0_peel 67 = .ok (.iload 6, 2) := by decide +kernel
theorem dX0_peel_69 : decode cX0_peel 69 = .ok (.iaload, 1) := by decide +kernel
theorem dX0_peel_70 : decode cX0_peel 70 = .ok (.if_icmp .ge 7, 3) := by decide +kernel
theorem dX0_peel_73 : decode cX0_peel 73 = .ok (.iload 7, 2) := by decide +kernel
theorem dX0_peel_75 : decode cX0_peel 75 = .ok (.istore 6, 2) := by decide +kernel
theorem dX0_peel_77 : decode cX0_peel 77 = .ok (.iinc 7 1, 3) := by decide +kernel
theorem dX0_peel_80 : decode cX0_peel 80 = .ok (.goto (-41), 3) := by decide +kernel
theorem dX0_peel_83 : decode cX0_peel 83 = .ok (.iload 6, 2) := by decide +kernel
theorem dX0_peel_85 : decode cX0_peel 85 = .ok (.ifCond .lt 33, 3) := by decide +kernel
theorem dX0_peel_88 : decode cX0_peel 88 = .ok (.iload 4, 2) := by decide +kernel
theorem dX0_peel_90 : decode cX0_peel 90 = .ok (.aload_n 2, 1) := by decide +kernel
theorem dX0_peel_91 : decode cX0_peel 91 = .ok (.iload 6, 2) := by decide +kernel
theorem dX0_peel_93 : decode cX0_peel 93 = .ok (.iaload, 1) := by decide +kernel
theorem dX0_peel_94 : decode cX0_peel 94 = .ok (.invokestatic 83, 3) := by decide +kernel
theorem dX0_peel_97 : decode cX0_peel 97 = .ok (.istore 4, 2) := by decide +kernel
theorem dX0_peel_99 : decode cX0_peel 99 = .ok (.aload_n 0, 1) := by decide +kernel
theorem dX0_peel_100 : decode cX0_peel 100 = .ok (.getfield 9, 3) := by decide +kernel
theorem dX0_peel_103 : decode cX0_peel 103 = .ok (.iload 6, 2) := by decide +kernel
theorem dX0_peel_105 : decode cX0_peel 105 = .ok (.iload 4, 2) := by decide +kernel
theorem dX0_peel_107 : decode cX0_peel 107 = .ok (.i2l, 1) := by decide +kernel
theorem dX0_peel_108 : decode cX0_peel 108 = .ok (.lastore, 1) := by decide +kernel
theorem dX0_peel_109 : decode cX0_peel 109 = .ok (.iload_n 3, 1) := by decide +kernel
theorem dX0_peel_110 : decode cX0_peel 110 = .ok (.iconst 1, 1) := by decide +kernel
theorem dX0_peel_111 : decode cX0_peel 111 = .ok (.iload 6, 2) := by decide +kernel
theorem dX0_peel_113 : decode cX0_peel 113 = .ok (.ishl, 1) := by decide +kernel
theorem dX0_peel_114 : decode cX0_peel 114 = .ok (.iconst (-1), 1) := by decide +kernel
theorem dX0_peel_115 : decode cX0_peel 115 = .ok (.ixor, 1) := by decide +kernel
theorem dX0_peel_116 : decode cX0_peel 116 = .ok (.iand, 1) := by decide +kernel
theorem dX0_peel_117 : decode cX0_peel 117 = .ok (.istore_n 3, 1) := by decide +kernel
theorem dX0_peel_118 : decode cX0_peel 118 = .ok (.iinc 5 1, 3) := by decide +kernel
theorem dX0_peel_121 : decode cX0_peel 121 = .ok (.goto (-103), 3) := by decide +kernel
theorem dX0_peel_124 : decode cX0_peel 124 = .ok (.return_, 1) := by decide +kernel
theorem kX0_75 : lkK (gS, X) RX0 75 mX3_allNodes 0 ∧ Cond.instanceMethod yX3_allNodes ∈ g_ws (gS, X) ∧ Cond.selects RX3 yX3_allNodes yX3_allNodes ∈ g_ws (gS, X) ∧ yX3_allNodes.cls = RX3 := ⟨⟨tb_good, (tb_t (k := 553) (w := Cond.methodLink RX0 75 yX3_allNodes) (by decide +kernel)), (tb_t (k := 10) (w := Cond.initialized RX3) (by decide +kernel)), (tb_t (k := 427) (w := Cond.code yX3_allNodes cX3_allNodes 1 (some .int)) (by decide +kernel)), by decide +kernel, by decide⟩, (tb_t (k := 425) (w := Cond.instanceMethod yX3_allNodes) (by decide +kernel)), (tb_t (k := 426) (w := Cond.selects RX3 yX3_allNodes yX3_allNodes) (by decide +kernel)), rfl⟩
theorem kX0_79 : lkK (gS, X) RX0 79 mX0_countEndsWithin 3 ∧ Cond.static yX0_countEndsWithin ∈ g_ws (gS, X) := ⟨⟨tb_good, (tb_t (k := 554) (w := Cond.methodLink RX0 79 yX0_countEndsWithin) (by decide +kernel)), (tb_t (k := 15) (w := Cond.initialized RX0) (by decide +kernel)), (tb_t (k := 556) (w := Cond.code yX0_countEndsWithin cX0_countEndsWithin 6 none) (by decide +kernel)), by decide +kernel, by decide⟩, (tb_t (k := 555) (w := Cond.static yX0_countEndsWithin) (by decide +kernel))⟩
theorem kX0_83 : lkK (gS, X) RX0 83 mJ9_max_7cf53 2 ∧ Cond.static yJ9_max_7cf53 ∈ g_ws (gS, X) := ⟨⟨tb_good, (tb_t (k := 558) (w := Cond.methodLink RX0 83 yJ9_max_7cf53) (by decide +kernel)), (tb_t (k := 12) (w := Cond.initialized RJ9) (by decide +kernel)), (tb_t (k := 468) (w := Cond.code yJ9_max_7cf53 cJ9_max_7cf53 2 (some .int)) (by decide +kernel)), by decide +kernel, by decide⟩, (tb_t (k := 467) (w := Cond.static yJ9_max_7cf53) (by decide +kernel))⟩
theorem dX0_countEndsWithin_0 : decode cX0_countEndsWithin 0 = .ok (.aload_n 2, 1) := by decide +kernel
theorem dX0_countEndsWithin_1 : decode cX0_countEndsWithin 1 = .ok (.iconst 0, 1) := by decide +kernel
theorem dX0_countEndsWithin_2 : decode cX0_countEndsWithin 2 = .ok (.invokestatic 89, 3) := by decide +kernel
theorem dX0_countEndsWithin_5 : decode cX0_countEndsWithin 5 = .ok (.iconst 0, 1) := by decide +kernel
theorem dX0_countEndsWithin_6 : decode cX0_countEndsWithin 6 = .ok (.istore_n 3, 1) := by decide +kernel
theorem dX0_countEndsWithin_7 : decode cX0_countEndsWithin 7 = .ok (.iload_n 3, 1) := by decide +kernel
theorem dX0_countEndsWithin_8 : decode cX0_countEndsWithin 8 = .ok (.aload_n 0, 1) := by decide +kernel
theorem dX0_countEndsWithin_9 : decode cX0_countEndsWithin 9 = .ok (.getfield 54, 3) := by decide +kernel
theorem dX0_countEndsWithin_12 : decode cX0_countEndsWithin 12 = .ok (.if_icmp .ge 62, 3) := by decide +kernel
theorem dX0_countEndsWithin_15 : decode cX0_countEndsWithin 15 = .ok (.aload_n 0, 1) := by decide +kernel
theorem dX0_countEndsWithin_16 : decode cX0_countEndsWithin 16 = .ok (.getfield 57, 3) := by decide +kernel
theorem dX0_countEndsWithin_19 : decode cX0_countEndsWithin 19 = .ok (.iload_n 3, 1) := by decide +kernel
theorem dX0_countEndsWithin_20 : decode cX0_countEndsWithin 20 = .ok (.iaload, 1) := by decide +kernel
theorem dX0_countEndsWithin_21 : decode cX0_countEndsWithin 21 = .ok (.istore 4, 2) := by decide +kernel
theorem dX0_countEndsWithin_23 : decode cX0_countEndsWithin 23 = .ok (.aload_n 0, 1) := by decide +kernel
theorem dX0_countEndsWithin_24 : decode cX0_countEndsWithin 24 = .ok (.getfield 60, 3) := by decide +kernel
theorem dX0_countEndsWithin_27 : decode cX0_countEndsWithin 27 = .ok (.iload_n 3, 1) := by decide +kernel
theorem dX0_countEndsWithin_28 : decode cX0_countEndsWithin 28 = .ok (.iaload, 1) := by decide +kernel
theorem dX0_countEndsWithin_29 : decode cX0_countEndsWithin 29 = .ok (.istore 5, 2) := by decide +kernel
theorem dX0_countEndsWithin_31 : decode cX0_countEndsWithin 31 = .ok (.iload 4, 2) := by decide +kernel
theorem dX0_countEndsWithin_33 : decode cX0_countEndsWithin 33 = .ok (.iload 5, 2) := by decide +kernel
theorem dX0_countEndsWithin_35 : decode cX0_countEndsWithin 35 = .ok (.if_icmp .eq 33, 3) := by decide +kernel
theorem dX0_countEndsWithin_38 : decode cX0_countEndsWithin 38 = .ok (.iload_n 1, 1) := by decide +kernel
theorem dX0_countEndsWithin_39 : decode cX0_countEndsWithin 39 = .ok (.iload 4, 2) := by decide +kernel
theorem dX0_countEndsWithin_41 : decode cX0_countEndsWithin 41 = .ok (.ishr, 1) := by decide +kernel
theorem dX0_countEndsWithin_42 : decode cX0_countEndsWithin 42 = .ok (.iload_n 1, 1) := by decide +kernel
theorem dX0_countEndsWithin_43 : decode cX0_countEndsWithin 43 = .ok (.iload 5, 2) := by decide +kernel
theorem dX0_countEndsWithin_45 : decode cX0_countEndsWithin 45 = .ok (.ishr, 1) := by decide +kernel
theorem dX0_countEndsWithin_46 : decode cX0_countEndsWithin 46 = .ok (.iand, 1) := by decide +kernel
theorem dX0_countEndsWithin_47 : decode cX0_countEndsWithin 47 = .ok (.iconst 1, 1) := by decide +kernel
theorem dX0_countEndsWithin_48 : decode cX0_countEndsWithin 48 = .ok (.iand, 1) := by decide +kernel
theorem dX0_countEndsWithin_49 : decode cX0_countEndsWithin 49 = .ok (.ifCond .eq 19, 3) := by decide +kernel
theorem dX0_countEndsWithin_52 : decode cX0_countEndsWithin 52 = .ok (.aload_n 2, 1) := by decide +kernel
theorem dX0_countEndsWithin_53 : decode cX0_countEndsWithin 53 = .ok (.iload 4, 2) := by decide +kernel
theorem dX0_countEndsWithin_55 : decode cX0_countEndsWithin 55 = .ok (.dup2, 1) := by decide +kernel
theorem dX0_countEndsWithin_56 : decode cX0_countEndsWithin 56 = .ok (.iaload, 1) := by decide +kernel
theorem dX0_countEndsWithin_57 : decode cX0_countEndsWithin 57 = .ok (.iconst 1, 1) := by decide +kernel
theorem dX0_countEndsWithin_58 : decode cX0_countEndsWithin 58 = .ok (.iadd, 1) := by decide +kernel
theorem dX0_countEndsWithin_59 : decode cX0_countEndsWithin 59 = .ok (.iastore, 1) := by decide +kernel
theorem dX0_countEndsWithin_60 : decode cX0_countEndsWithin 60 = .ok (.aload_n 2, 1) := by decide +kernel
theorem dX0_countEndsWithin_61 : decode cX0_countEndsWithin 61 = .ok (.iload 5, 2) := by decide +kernel
theorem dX0_countEndsWithin_63 : decode cX0_countEndsWithin 63 = .ok (.dup2, 1) := by decide +kernel
theorem dX0_countEndsWithin_64 : decode cX0_countEndsWithin 64 = .ok (.iaload, 1) := by decide +kernel
theorem dX0_countEndsWithin_65 : decode cX0_countEndsWithin 65 = .ok (.iconst 1, 1) := by decide +kernel
theorem dX0_countEndsWithin_66 : decode cX0_countEndsWithin 66 = .ok (.iadd, 1) := by decide +kernel
theorem dX0_countEndsWithin_67 : decode cX0_countEndsWithin 67 = .ok (.iastore, 1) := by decide +kernel
theorem dX0_countEndsWithin_68 : decode cX0_countEndsWithin 68 = .ok (.iinc 3 1, 3) := by decide +kernel
theorem dX0_countEndsWithin_71 : decode cX0_countEndsWithin 71 = .ok (.goto (-64), 3) := by decide +kernel
theorem dX0_countEndsWithin_74 : decode cX0_countEndsWithin 74 = .ok (.return_, 1) := by decide +kernel
theorem kX0_89 : lkK (gS, X) RX0 89 mJ7_fill_53178 2 ∧ Cond.static yJ7_fill_53178 ∈ g_ws (gS, X) := ⟨⟨tb_good, (tb_t (k := 557) (w := Cond.methodLink RX0 89 yJ7_fill_53178) (by decide +kernel)), (tb_t (k := 11) (w := Cond.initialized RJ7) (by decide +kernel)), (tb_t (k := 457) (w := Cond.code yJ7_fill_53178 cJ7_fill_53178 4 none) (by decide +kernel)), by decide +kernel, by decide⟩, (tb_t (k := 456) (w := Cond.static yJ7_fill_53178) (by decide +kernel))⟩
theorem dX0_countWalks_0 : decode cX0_countWalks 0 = .ok (.aload_n 0, 1) := by decide +kernel
theorem dX0_countWalks_1 : decode cX0_countWalks 1 = .ok (.getfield 9, 3) := by decide +kernel
theorem dX0_countWalks_4 : decode cX0_countWalks 4 = .ok (.lconst 1, 1) := by decide +kernel
theorem dX0_countWalks_5 : decode cX0_countWalks 5 = .ok (.invokestatic 95, 3) := by decide +kernel
theorem dX0_countWalks_8 : decode cX0_countWalks 8 = .ok (.aload_n 0, 1) := by decide +kernel
theorem dX0_countWalks_9 : decode cX0_countWalks 9 = .ok (.getfield 15, 3) := by decide +kernel
theorem dX0_countWalks_12 : decode cX0_countWalks 12 = .ok (.newarray .long, 2) := by decide +kernel
theorem dX0_countWalks_14 : decode cX0_countWalks 14 = .ok (.astore_n 3, 1) := by decide +kernel
theorem dX0_countWalks_15 : decode cX0_countWalks 15 = .ok (.aload_n 1, 1) := by decide +kernel
theorem dX0_countWalks_16 : decode cX0_countWalks 16 = .ok (.getfield 66, 3) := by decide +kernel
theorem dX0_countWalks_19 : decode cX0_countWalks 19 = .ok (.astore 4, 2) := by decide +kernel
theorem dX0_countWalks_21 : decode cX0_countWalks 21 = .ok (.aload_n 1, 1) := by decide +kernel
theorem dX0_countWalks_22 : decode cX0_countWalks 22 = .ok (.getfield 98, 3) := by decide +kernel
theorem dX0_countWalks_25 : decode cX0_countWalks 25 = .ok (.astore 5, 2) := by decide +kernel
theorem dX0_countWalks_27 : decode cX0_countWalks 27 = .ok (.iconst 0, 1) := by decide +kernel
theorem dX0_countWalks_28 : decode cX0_countWalks 28 = .ok (.istore 6, 2) := by decide +kernel
theorem dX0_countWalks_30 : decode cX0_countWalks 30 = .ok (.iload 6, 2) := by decide +kernel
theorem dX0_countWalks_32 : decode cX0_countWalks 32 = .ok (.iload_n 2, 1) := by decide +kernel
theorem dX0_countWalks_33 : decode cX0_countWalks 33 = .ok (.if_icmp .ge 73, 3) := by decide +kernel
theorem dX0_countWalks_36 : decode cX0_countWalks 36 = .ok (.aload_n 3, 1) := by decide +kernel
theorem dX0_countWalks_37 : decode cX0_countWalks 37 = .ok (.lconst 0, 1) := by decide +kernel
theorem dX0_countWalks_38 : decode cX0_countWalks 38 = .ok (.invokestatic 95, 3) := by decide +kernel
theorem dX0_countWalks_41 : decode cX0_countWalks 41 = .ok (.iconst 0, 1) := by decide +kernel
theorem dX0_countWalks_42 : decode cX0_countWalks 42 = .ok (.istore 7, 2) := by decide +kernel
theorem dX0_countWalks_44 : decode cX0_countWalks 44 = .ok (.iload 7, 2) := by decide +kernel
theorem dX0_countWalks_46 : decode cX0_countWalks 46 = .ok (.aload 4, 2) := by decide +kernel
theorem dX0_countWalks_48 : decode cX0_countWalks 48 = .ok (.arraylength, 1) := by decide +kernel
theorem dX0_countWalks_49 : decode cX0_countWalks 49 = .ok (.if_icmp .ge 37, 3) := by decide +kernel
theorem dX0_countWalks_52 : decode cX0_countWalks 52 = .ok (.iload 7, 2) := by decide +kernel
theorem dX0_countWalks_54 : decode cX0_countWalks 54 = .ok (.aload 5, 2) := by decide +kernel
theorem dX0_countWalks_56 : decode cX0_countWalks 56 = .ok (.arraylength, 1) := by decide +kernel
theorem dX0_countWalks_57 : decode cX0_countWalks 57 = .ok (.if_icmp .ge 29, 3) := by decide +kernel
theorem dX0_countWalks_60 : decode cX0_countWalks 60 = .ok (.aload_n 3, 1) := by decide +kernel
theorem dX0_countWalks_61 : decode cX0_countWalks 61 = .ok (.aload 4, 2) := by decide +kernel
theorem dX0_countWalks_63 : decode cX0_countWalks 63 = .ok (.iload 7, 2) := by decide +kernel
theorem dX0_countWalks_65 : decode cX0_countWalks 65 = .ok (.iaload, 1) := by decide +kernel
theorem dX0_countWalks_66 : decode cX0_countWalks 66 = .ok (.dup2, 1) := by decide +kernel
theorem dX0_countWalks_67 : decode cX0_countWalks 67 = .ok (.laload, 1) := by decide +kernel
theorem dX0_countWalks_68 : decode cX0_countWalks 68 = .ok (.aload_n 0, 1) := by decide +kernel
theorem dX0_countWalks_69 : decode cX0_countWalks 69 = .ok (.getfield 9, 3) := by decide +kernel
theorem dX0_countWalks_72 : decode cX0_countWalks 72 = .ok (.aload 5, 2) := by decide +kernel
theorem dX0_countWalks_74 : decode cX0_countWalks 74 = .ok (.iload 7, 2) := by decide +kernel
theorem dX0_countWalks_76 : decode cX0_countWalks 76 = .ok (.iaload, 1) := by decide +kernel
theorem dX0_countWalks_77 : decode cX0_countWalks 77 = .ok (.laload, 1) := by decide +kernel
theorem dX0_countWalks_78 : decode cX0_countWalks 78 = .ok (.ladd, 1) := by decide +kernel
theorem dX0_countWalks_79 : decode cX0_countWalks 79 = .ok (.lastore, 1) := by decide +kernel
theorem dX0_countWalks_80 : decode cX0_countWalks 80 = .ok (.iinc 7 1, 3) := by decide +kernel
theorem dX0_countWalks_83 : decode cX0_countWalks 83 = .ok (.goto (-39), 3) := by decide +kernel
theorem dX0_countWalks_86 : decode cX0_countWalks 86 = .ok (.aload_n 3, 1) := by decide +kernel
theorem dX0_countWalks_87 : decode cX0_countWalks 87 = .ok (.iconst 0, 1) := by decide +kernel
theorem dX0_countWalks_88 : decode cX0_countWalks 88 = .ok (.aload_n 0, 1) := by decide +kernel
theorem dX0_countWalks_89 : decode cX0_countWalks 89 = .ok (.getfield 9, 3) := by decide +kernel
theorem dX0_countWalks_92 : decode cX0_countWalks 92 = .ok (.iconst 0, 1) := by decide +kernel
theorem dX0_countWalks_93 : decode cX0_countWalks 93 = .ok (.aload_n 0, 1) := by decide +kernel
theorem dX0_countWalks_94 : decode cX0_countWalks 94 = .ok (.getfield 15, 3) := by decide +kernel
theorem dX0_countWalks_97 : decode cX0_countWalks 97 = .ok (.invokestatic 101, 3) := by decide +kernel
theorem dX0_countWalks_100 : decode cX0_countWalks 100 = .ok (.iinc 6 1, 3) := by decide +kernel
theorem dX0_countWalks_103 : decode cX0_countWalks 103 = .ok (.goto (-73), 3) := by decide +kernel
theorem dX0_countWalks_106 : decode cX0_countWalks 106 = .ok (.return_, 1) := by decide +kernel
theorem kX0_95 : lkK (gS, X) RX0 95 mJ7_fill_d0a16 2 ∧ Cond.static yJ7_fill_d0a16 ∈ g_ws (gS, X) := ⟨⟨tb_good, (tb_t (k := 563) (w := Cond.methodLink RX0 95 yJ7_fill_d0a16) (by decide +kernel)), (tb_t (k := 11) (w := Cond.initialized RJ7) (by decide +kernel)), (tb_t (k := 565) (w := Cond.code yJ7_fill_d0a16 cJ7_fill_d0a16 5 none) (by decide +kernel)), by decide +kernel, by decide⟩, (tb_t (k := 564) (w := Cond.static yJ7_fill_d0a16) (by decide +kernel))⟩
theorem fX0_98 : lkF (gS, X) RX0 98 3 9 "GraphEngine$Graph" RX3 TX3 14 := ⟨rfl, inX3, by decide, (tb_t (k := 330) (w := Cond.fieldLink RX0 98 "GraphEngine$Graph" "head" "[I") (by decide +kernel)), Or.inl rfl⟩
theorem aX0_101 : lkA (gS, X) RX0 101 := ⟨(tb_t (k := 566) (w := Cond.methodLink RX0 101 arraycopyName) (by decide +kernel)), (tb_t (k := 272) (w := Cond.native arraycopyName) (by decide +kernel)), (tb_t (k := 271) (w := Cond.static arraycopyName) (by decide +kernel)), (tb_t (k := 13) (w := Cond.initialized "java/lang/System") (by decide +kernel))⟩
theorem dX0_blend_0 : decode cX0_blend 0 = .ok (.iconst 0, 1) := by decide +kernel
theorem dX0_blend_1 : decode cX0_blend 1 = .ok (.istore 4, 2) := by decide +kernel
theorem dX0_blend_3 : decode cX0_blend 3 = .ok (.iload 4, 2) := by decide +kernel
theorem dX0_blend_5 : decode cX0_blend 5 = .ok (.aload_n 0, 1) := by decide +kernel
theorem dX0_blend_6 : decode cX0_blend 6 = .ok (.getfield 15, 3) := by decide +kernel
theorem dX0_blend_9 : decode cX0_blend 9 = .ok (.if_icmp .ge 34, 3) := by decide +kernel
theorem dX0_blend_12 : decode cX0_blend 12 = .ok (.aload_n 0, 1) := by decide +kernel
theorem dX0_blend_13 : decode cX0_blend 13 = .ok (.getfield 9, 3) := by decide +kernel
theorem dX0_blend_16 : decode cX0_blend 16 = .ok (.iload 4, 2) := by decide +kernel
theorem dX0_blend_18 : decode cX0_blend 18 = .ok (.aload_n 1, 1) := by decide +kernel
theorem dX0_blend_19 : decode cX0_blend 19 = .ok (.getfield 9, 3) := by decide +kernel
theorem dX0_blend_22 : decode cX0_blend 22 = .ok (.iload 4, 2) := by decide +kernel
theorem dX0_blend_24 : decode cX0_blend 24 = .ok (.laload, 1) := by decide +kernel
theorem dX0_blend_25 : decode cX0_blend 25 = .ok (.aload_n 2, 1) := by decide +kernel
theorem dX0_blend_26 : decode cX0_blend 26 = .ok (.getfield 9, 3) := by decide +kernel
theorem dX0_blend_29 : decode cX0_blend 29 = .ok (.iload 4, 2) := by decide +kernel
theorem dX0_blend_31 : decode cX0_blend 31 = .ok (.laload, 1) := by decide +kernel
theorem dX0_blend_32 : decode cX0_blend 32 = .ok (.iload_n 3, 1) := by decide +kernel
theorem dX0_blend_33 : decode cX0_blend 33 = .ok (.invokestatic 107, 3) := by decide +kernel
theorem dX0_blend_36 : decode cX0_blend 36 = .ok (.lastore, 1) := by decide +kernel
theorem dX0_blend_37 : decode cX0_blend 37 = .ok (.iinc 4 1, 3) := by decide +kernel
theorem dX0_blend_40 : decode cX0_blend 40 = .ok (.goto (-37), 3) := by decide +kernel
theorem dX0_blend_43 : decode cX0_blend 43 = .ok (.return_, 1) := by decide +kernel
theorem kX0_107 : lkK (gS, X) RX0 107 mX0_blendOf 3 ∧ Cond.static yX0_blendOf ∈ g_ws (gS, X) := ⟨⟨tb_good, (tb_t (k := 597) (w := Cond.methodLink RX0 107 yX0_blendOf) (by decide +kernel)), (tb_t (k := 15) (w := Cond.initialized RX0) (by decide +kernel)), (tb_t (k := 599) (w := Cond.code yX0_blendOf cX0_blendOf 5 (some .long)) (by decide +kernel)), by decide +kernel, by decide⟩, (tb_t (k := 598) (w := Cond.static yX0_blendOf) (by decide +kernel))⟩
theorem dX0_blendOf_0 : decode cX0_blendOf 0 = .ok (.iload 4, 2) := by decide +kernel
theorem dX0_blendOf_2 : decode cX0_blendOf 2 = .ok (.tableswitch 66 0 5 #[38, 42, 46, 50, 56, 62], 38) := by decide +kernel
theorem dX0_blendOf_40 : decode cX0_blendOf 40 = .ok (.lload_n 0, 1) := by decide +kernel
theorem dX0_blendOf_41 : decode cX0_blendOf 41 = .ok (.lload_n 2, 1) := by decide +kernel
theorem dX0_blendOf_42 : decode cX0_blendOf 42 = .ok (.ladd, 1) := by decide +kernel
theorem dX0_blendOf_43 : decode cX0_blendOf 43 = .ok (.lreturn, 1) := by decide +kernel
theorem dX0_blendOf_44 : decode cX0_blendOf 44 = .ok (.lload_n 0, 1) := by decide +kernel
theorem dX0_blendOf_45 : decode cX0_blendOf 45 = .ok (.lload_n 2, 1) := by decide +kernel
theorem dX0_blendOf_46 : decode cX0_blendOf 46 = .ok (.lsub, 1) := by decide +kernel
theorem dX0_blendOf_47 : decode cX0_blendOf 47 = .ok (.lreturn, 1) := by decide +kernel
theorem dX0_blendOf_48 : decode cX0_blendOf 48 = .ok (.lload_n 0, 1) := by decide +kernel
theorem dX0_blendOf_49 : decode cX0_blendOf 49 = .ok (.lload_n 2, 1) := by decide +kernel
theorem dX0_blendOf_50 : decode cX0_blendOf 50 = .ok (.lmul, 1) := by decide +kernel
theorem dX0_blendOf_51 : decode cX0_blendOf 51 = .ok (.lreturn, 1) := by decide +kernel
theorem dX0_blendOf_52 : decode cX0_blendOf 52 = .ok (.lload_n 0, 1) := by decide +kernel
theorem dX0_blendOf_53 : decode cX0_blendOf 53 = .ok (.lload_n 2, 1) := by decide +kernel
theorem dX0_blendOf_54 : decode cX0_blendOf 54 = .ok (.invokestatic 111, 3) := by decide +kernel
theorem dX0_blendOf_57 : decode cX0_blendOf 57 = .ok (.lreturn, 1) := by decide +kernel
theorem dX0_blendOf_58 : decode cX0_blendOf 58 = .ok (.lload_n 0, 1) := by decide +kernel
theorem dX0_blendOf_59 : decode cX0_blendOf 59 = .ok (.lload_n 2, 1) := by decide +kernel
theorem dX0_blendOf_60 : decode cX0_blendOf 60 = .ok (.invokestatic 115, 3) := by decide +kernel
theorem dX0_blendOf_63 : decode cX0_blendOf 63 = .ok (.lreturn, 1) := by decide +kernel
theorem dX0_blendOf_64 : decode cX0_blendOf 64 = .ok (.lload_n 0, 1) := by decide +kernel
theorem dX0_blendOf_65 : decode cX0_blendOf 65 = .ok (.lload_n 2, 1) := by decide +kernel
theorem dX0_blendOf_66 : decode cX0_blendOf 66 = .ok (.lxor, 1) := by decide +kernel
theorem dX0_blendOf_67 : decode cX0_blendOf 67 = .ok (.lreturn, 1) := by decide +kernel
theorem dX0_blendOf_68 : decode cX0_blendOf 68 = .ok (.lload_n 0, 1) := by decide +kernel
theorem dX0_blendOf_69 : decode cX0_blendOf 69 = .ok (.lload_n 2, 1) := by decide +kernel
theorem dX0_blendOf_70 : decode cX0_blendOf 70 = .ok (.lcmp, 1) := by decide +kernel
theorem dX0_blendOf_71 : decode cX0_blendOf 71 = .ok (.ifCond .ge 7, 3) := by decide +kernel
theorem dX0_blendOf_74 : decode cX0_blendOf 74 = .ok (.lconst 1, 1) := by decide +kernel
theorem dX0_blendOf_75 : decode cX0_blendOf 75 = .ok (.goto 4, 3) := by decide +kernel
theorem dX0_blendOf_78 : decode cX0_blendOf 78 = .ok (.lconst 0, 1) := by decide +kernel
theorem dX0_blendOf_79 : decode cX0_blendOf 79 = .ok (.lreturn, 1) := by decide +kernel
theorem kX0_111 : lkK (gS, X) RX0 111 mJ9_min_f86c9 2 ∧ Cond.static yJ9_min_f86c9 ∈ g_ws (gS, X) := ⟨⟨tb_good, (tb_t (k := 600) (w := Cond.methodLink RX0 111 yJ9_min_f86c9) (by decide +kernel)), (tb_t (k := 12) (w := Cond.initialized RJ9) (by decide +kernel)), (tb_t (k := 602) (w := Cond.code yJ9_min_f86c9 cJ9_min_f86c9 4 (some .long)) (by decide +kernel)), by decide +kernel, by decide⟩, (tb_t (k := 601) (w := Cond.static yJ9_min_f86c9) (by decide +kernel))⟩
theorem kX0_115 : lkK (gS, X) RX0 115 mJ9_max_f86c9 2 ∧ Cond.static yJ9_max_f86c9 ∈ g_ws (gS, X) := ⟨⟨tb_good, (tb_t (k := 603) (w := Cond.methodLink RX0 115 yJ9_max_f86c9) (by decide +kernel)), (tb_t (k := 12) (w := Cond.initialized RJ9) (by decide +kernel)), (tb_t (k := 605) (w := Cond.code yJ9_max_f86c9 cJ9_max_f86c9 4 (some .long)) (by decide +kernel)), by decide +kernel, by decide⟩, (tb_t (k := 604) (w := Cond.static yJ9_max_f86c9) (by decide +kernel))⟩
theorem dX0_play_0 : decode cX0_play 0 = .ok (.aload_n 0, 1) := by decide +kernel
theorem dX0_play_1 : decode cX0_play 1 = .ok (.getfield 15, 3) := by decide +kernel
theorem dX0_play_4 : decode cX0_play 4 = .ok (.newarray .long, 2) := by decide +kernel
theorem dX0_play_6 : decode cX0_play 6 = .ok (.astore 6, 2) := by decide +kernel
theorem dX0_play_8 : decode cX0_play 8 = .ok (.iconst 0, 1) := by decide +kernel
theorem dX0_play_9 : decode cX0_play 9 = .ok (.istore 7, 2) := by decide +kernel
theorem dX0_play_11 : decode cX0_play 11 = .ok (.iload 7, 2) := by decide +kernel
theorem dX0_play_13 : decode cX0_play 13 = .ok (.iload 5, 2) := by decide +kernel
theorem dX0_play_15 : decode cX0_play 15 = .ok (.if_icmp .ge 152, 3) := by decide +kernel
theorem dX0_play_18 : decode cX0_play 18 = .ok (.aload_n 0, 1) := by decide +kernel
theorem dX0_play_19 : decode cX0_play 19 = .ok (.getfield 9, 3) := by decide +kernel
theorem dX0_play_22 : decode cX0_play 22 = .ok (.iconst 0, 1) := by decide +kernel
theorem dX0_play_23 : decode cX0_play 23 = .ok (.aload 6, 2) := by decide +kernel
theorem dX0_play_25 : decode cX0_play 25 = .ok (.iconst 0, 1) := by decide +kernel
theorem dX0_play_26 : decode cX0_play 26 = .ok (.aload_n 0, 1) := by decide +kernel
theorem dX0_play_27 : decode cX0_play 27 = .ok (.getfield 15, 3) := by decide +kernel
theorem dX0_play_30 : decode cX0_play 30 = .ok (.invokestatic 101, 3) := by decide +kernel
theorem dX0_play_33 : decode cX0_play 33 = .ok (.iload 4, 2) := by decide +kernel
theorem dX0_play_35 : decode cX0_play 35 = .ok (.ifCond .eq 10, 3) := by decide +kernel
theorem dX0_play_38 : decode cX0_play 38 = .ok (.aload_n 1, 1) := by decide +kernel
theorem dX0_play_39 : decode cX0_play 39 = .ok (.invokevirtual 75, 3) := by decide +kernel
theorem dX0_play_42 : decode cX0_play 42 = .ok (.goto 4, 3) := by decide +kernel
theorem dX0_play_45 : decode cX0_play 45 = .ok (.iconst 0, 1) := by decide +kernel
theorem dX0_play_46 : decode cX0_play 46 = .ok (.istore 8, 2) := by decide +kernel
theorem dX0_play_48 : decode cX0_play 48 = .ok (.iconst 0, 1) := by decide +kernel
theorem dX0_play_49 : decode cX0_play 49 = .ok (.istore 9, 2) := by decide +kernel
theorem dX0_play_51 : decode cX0_play 51 = .ok (.iload 9, 2) := by decide +kernel
theorem dX0_play_53 : decode cX0_play 53 = .ok (.aload_n 1, 1) := by decide +kernel
theorem dX0_play_54 : decode cX0_play 54 = .ok (.getfield 63, 3) := by decide +kernel
theorem dX0_play_57 : decode cX0_play 57 = .ok (.if_icmp .ge 89, 3) := by decide +kernel
theorem dX0_play_60 : decode cX0_play 60 = .ok (.aload_n 1, 1) := by decide +kernel
theorem dX0_play_61 : decode cX0_play 61 = .ok (.getfield 98, 3) := by decide +kernel
theorem dX0_play_64 : decode cX0_play 64 = .ok (.iload 9, 2) := by decide +kernel
theorem dX0_play_66 : decode cX0_play 66 = .ok (.iaload, 1) := by decide +kernel
theorem dX0_play_67 : decode cX0_play 67 = .ok (.istore 10, 2) := by decide +kernel
theorem dX0_play_69 : decode cX0_play 69 = .ok (.aload_n 0, 1) := by decide +kernel
theorem dX0_play_70 : decode cX0_play 70 = .ok (.getfield 9, 3) := by decide +kernel
theorem dX0_play_73 : decode cX0_play 73 = .ok (.aload_n 1, 1) := by decide +kernel
theorem dX0_play_74 : decode cX0_play 74 = .ok (.getfield 66, 3) := by decide +kernel
theorem dX0_play_77 : decode cX0_play 77 = .ok (.iload 9, 2) := by decide +kernel
theorem dX0_play_79 : decode cX0_play 79 = .ok (.iaload, 1) := by decide +kernel
theorem dX0_play_80 : decode cX0_play 80 = .ok (.laload, 1) := by decide +kernel
theorem dX0_play_81 : decode cX0_play 81 = .ok (.aload_n 1, 1) := by decide +kernel
theorem dX0_play_82 : decode cX0_play 82 = .ok (.getfield 69, 3) := by decide +kernel
theorem dX0_play_85 : decode cX0_play 85 = .ok (.aload_n 1, 1) := by decide +kernel
theorem dX0_play_86 : decode cX0_play 86 = .ok (.getfield 72, 3) := by decide +kernel
theorem dX0_play_89 : decode cX0_play 89 = .ok (.iload 9, 2) := by decide +kernel
theorem dX0_play_91 : decode cX0_play 91 = .ok (.iaload, 1) := by decide +kernel
theorem dX0_play_92 : decode cX0_play 92 = .ok (.iaload, 1) := by decide +kernel
theorem dX0_play_93 : decode cX0_play 93 = .ok (.i2l, 1) := by decide +kernel
theorem dX0_play_94 : decode cX0_play 94 = .ok (.iload_n 2, 1) := by decide +kernel
theorem dX0_play_95 : decode cX0_play 95 = .ok (.invokestatic 117, 3) := by decide +kernel
theorem dX0_play_98 : decode cX0_play 98 = .ok (.lstore 11, 2) := by decide +kernel
theorem dX0_play_100 : decode cX0_play 100 = .ok (.aload 6, 2) := by decide +kernel
theorem dX0_play_102 : decode cX0_play 102 = .ok (.iload 10, 2) := by decide +kernel
theorem dX0_play_104 : decode cX0_play 104 = .ok (.iload 8, 2) := by decide +kernel
theorem dX0_play_106 : decode cX0_play 106 = .ok (.iload 10, 2) := by decide +kernel
theorem dX0_play_108 : decode cX0_play 108 = .ok (.ishr, 1) := by decide +kernel
theorem dX0_play_109 : decode cX0_play 109 = .ok (.iconst 1, 1) := by decide +kernel
theorem dX0_play_110 : decode cX0_play 110 = .ok (.iand, 1) := by decide +kernel
theorem dX0_play_111 : decode cX0_play 111 = .ok (.ifCond .ne 8, 3) := by decide +kernel
theorem dX0_play_114 : decode cX0_play 114 = .ok (.lload 11, 2) := by decide +kernel
theorem dX0_play_116 : decode cX0_play 116 = .ok (.goto 14, 3) := by decide +kernel
theorem dX0_play_119 : decode cX0_play 119 = .ok (.aload 6, 2) := by decide +kernel
theorem dX0_play_121 : decode cX0_play 121 = .ok (.iload 10, 2) := by decide +kernel
theorem dX0_play_123 : decode cX0_play 123 = .ok (.laload, 1) := by decide +kernel
theorem dX0_play_124 : decode cX0_play 124 = .ok (.lload 11, 2) := by decide +kernel
theorem dX0_play_126 : decode cX0_play 126 = .ok (.iload_n 3, 1) := by decide +kernel
theorem dX0_play_127 : decode cX0_play 127 = .ok (.invokestatic 120, 3) := by decide +kernel
theorem dX0_play_130 : decode cX0_play 130 = .ok (.lastore, 1) := by decide +kernel
theorem dX0_play_131 : decode cX0_play 131 = .ok (.iload 8, 2) := by decide +kernel
theorem dX0_play_133 : decode cX0_play 133 = .ok (.iconst 1, 1) := by decide +kernel
theorem dX0_play_134 : decode cX0_play 134 = .ok (.iload 10, 2) := by decide +kernel
theorem dX0_play_136 : decode cX0_play 136 = .ok (.ishl, 1) := by decide +kernel
theorem dX0_play_137 : decode cX0_play 137 = .ok (.ior, 1) := by decide +kernel
theorem dX0_play_138 : decode cX0_play 138 = .ok (.istore 8, 2) := by decide +kernel
theorem dX0_play_140 : decode cX0_play 140 = .ok (.iinc 9 1, 3) := by decide +kernel
theorem dX0_play_143 : decode cX0_play 143 = .ok (.goto (-92), 3) := by decide +kernel
theorem dX0_play_146 : decode cX0_play 146 = .ok (.aload 6, 2) := by decide +kernel
theorem dX0_play_148 : decode cX0_play 148 = .ok (.iconst 0, 1) := by decide +kernel
theorem dX0_play_149 : decode cX0_play 149 = .ok (.aload_n 0, 1) := by decide +kernel
theorem dX0_play_150 : decode cX0_play 150 = .ok (.getfield 9, 3) := by decide +kernel
theorem dX0_play_153 : decode cX0_play 153 = .ok (.iconst 0, 1) := by decide +kernel
theorem dX0_play_154 : decode cX0_play 154 = .ok (.aload_n 0, 1) := by decide +kernel
theorem dX0_play_155 : decode cX0_play 155 = .ok (.getfield 15, 3) := by decide +kernel
theorem dX0_play_158 : decode cX0_play 158 = .ok (.invokestatic 101, 3) := by decide +kernel
theorem dX0_play_161 : decode cX0_play 161 = .ok (.iinc 7 1, 3) := by decide +kernel
theorem dX0_play_164 : decode cX0_play 164 = .ok (.goto (-153), 3) := by decide +kernel
theorem dX0_play_167 : decode cX0_play 167 = .ok (.return_, 1) := by decide +kernel
theorem kX0_117 : lkK (gS, X) RX0 117 mX0_messageOf 3 ∧ Cond.static yX0_messageOf ∈ g_ws (gS, X) := ⟨⟨tb_good, (tb_t (k := 615) (w := Cond.methodLink RX0 117 yX0_messageOf) (by decide +kernel)), (tb_t (k := 15) (w := Cond.initialized RX0) (by decide +kernel)), (tb_t (k := 617) (w := Cond.code yX0_messageOf cX0_messageOf 5 (some .long)) (by decide +kernel)), by decide +kernel, by decide⟩, (tb_t (k := 616) (w := Cond.static yX0_messageOf) (by decide +kernel))⟩
theorem kX0_120 : lkK (gS, X) RX0 120 mX0_joinOf 3 ∧ Cond.static yX0_joinOf ∈ g_ws (gS, X) := ⟨⟨tb_good, (tb_t (k := 618) (w := Cond.methodLink RX0 120 yX0_joinOf) (by decide +kernel)), (tb_t (k := 15) (w := Cond.initialized RX0) (by decide +kernel)), (tb_t (k := 620) (w := Cond.code yX0_joinOf cX0_joinOf 5 (some .long)) (by decide +kernel)), by decide +kernel, by decide⟩, (tb_t (k := 619) (w := Cond.static yX0_joinOf) (by decide +kernel))⟩
theorem dX0_messageOf_0 : decode cX0_messageOf 0 = .ok (.iload 4, 2) := by decide +kernel
theorem dX0_messageOf_2 : decode cX0_messageOf 2 = .ok (.tableswitch 46 0 3 #[30, 32, 36, 40], 30) := by decide +kernel
theorem dX0_messageOf_32 : decode cX0_messageOf 32 = .ok (.lload_n 0, 1) := by decide +kernel
theorem dX0_messageOf_33 : decode cX0_messageOf 33 = .ok (.lreturn, 1) := by decide +kernel
theorem dX0_messageOf_34 : decode cX0_messageOf 34 = .ok (.lload_n 0, 1) := by decide +kernel
theorem dX0_messageOf_35 : decode cX0_messageOf 35 = .ok (.lload_n 2, 1) := by decide +kernel
theorem dX0_messageOf_36 : decode cX0_messageOf 36 = .ok (.ladd, 1) := by decide +kernel
theorem dX0_messageOf_37 : decode cX0_messageOf 37 = .ok (.lreturn, 1) := by decide +kernel
theorem dX0_messageOf_38 : decode cX0_messageOf 38 = .ok (.lload_n 0, 1) := by decide +kernel
theorem dX0_messageOf_39 : decode cX0_messageOf 39 = .ok (.lload_n 2, 1) := by decide +kernel
theorem dX0_messageOf_40 : decode cX0_messageOf 40 = .ok (.lmul, 1) := by decide +kernel
theorem dX0_messageOf_41 : decode cX0_messageOf 41 = .ok (.lreturn, 1) := by decide +kernel
theorem dX0_messageOf_42 : decode cX0_messageOf 42 = .ok (.lload_n 0, 1) := by decide +kernel
theorem dX0_messageOf_43 : decode cX0_messageOf 43 = .ok (.lload_n 2, 1) := by decide +kernel
theorem dX0_messageOf_44 : decode cX0_messageOf 44 = .ok (.invokestatic 111, 3) := by decide +kernel
theorem dX0_messageOf_47 : decode cX0_messageOf 47 = .ok (.lreturn, 1) := by decide +kernel
theorem dX0_messageOf_48 : decode cX0_messageOf 48 = .ok (.lload_n 0, 1) := by decide +kernel
theorem dX0_messageOf_49 : decode cX0_messageOf 49 = .ok (.lload_n 2, 1) := by decide +kernel
theorem dX0_messageOf_50 : decode cX0_messageOf 50 = .ok (.lxor, 1) := by decide +kernel
theorem dX0_messageOf_51 : decode cX0_messageOf 51 = .ok (.lreturn, 1) := by decide +kernel
theorem dX0_joinOf_0 : decode cX0_joinOf 0 = .ok (.iload 4, 2) := by decide +kernel
theorem dX0_joinOf_2 : decode cX0_joinOf 2 = .ok (.tableswitch 42 0 2 #[26, 32, 38], 26) := by decide +kernel
theorem dX0_joinOf_28 : decode cX0_joinOf 28 = .ok (.lload_n 0, 1) := by decide +kernel
theorem dX0_joinOf_29 : decode cX0_joinOf 29 = .ok (.lload_n 2, 1) := by decide +kernel
theorem dX0_joinOf_30 : decode cX0_joinOf 30 = .ok (.invokestatic 111, 3) := by decide +kernel
theorem dX0_joinOf_33 : decode cX0_joinOf 33 = .ok (.lreturn, 1) := by decide +kernel
theorem dX0_joinOf_34 : decode cX0_joinOf 34 = .ok (.lload_n 0, 1) := by decide +kernel
theorem dX0_joinOf_35 : decode cX0_joinOf 35 = .ok (.lload_n 2, 1) := by decide +kernel
theorem dX0_joinOf_36 : decode cX0_joinOf 36 = .ok (.invokestatic 115, 3) := by decide +kernel
theorem dX0_joinOf_39 : decode cX0_joinOf 39 = .ok (.lreturn, 1) := by decide +kernel
theorem dX0_joinOf_40 : decode cX0_joinOf 40 = .ok (.lload_n 0, 1) := by decide +kernel
theorem dX0_joinOf_41 : decode cX0_joinOf 41 = .ok (.lload_n 2, 1) := by decide +kernel
theorem dX0_joinOf_42 : decode cX0_joinOf 42 = .ok (.ladd, 1) := by decide +kernel
theorem dX0_joinOf_43 : decode cX0_joinOf 43 = .ok (.lreturn, 1) := by decide +kernel
theorem dX0_joinOf_44 : decode cX0_joinOf 44 = .ok (.lload_n 0, 1) := by decide +kernel
theorem dX0_joinOf_45 : decode cX0_joinOf 45 = .ok (.lload_n 2, 1) := by decide +kernel
theorem dX0_joinOf_46 : decode cX0_joinOf 46 = .ok (.lxor, 1) := by decide +kernel
theorem dX0_joinOf_47 : decode cX0_joinOf 47 = .ok (.lreturn, 1) := by decide +kernel
theorem dX1_isView_0 : decode cX1_isView 0 = .ok (.iload_n 1, 1) := by decide +kernel
theorem dX1_isView_1 : decode cX1_isView 1 = .ok (.ifCond .lt 9, 3) := by decide +kernel
theorem dX1_isView_4 : decode cX1_isView 4 = .ok (.iload_n 1, 1) := by decide +kernel
theorem dX1_isView_5 : decode cX1_isView 5 = .ok (.bipush 7, 2) := by decide +kernel
theorem dX1_isView_7 : decode cX1_isView 7 = .ok (.if_icmp .le 5, 3) := by decide +kernel
theorem dX1_isView_10 : decode cX1_isView 10 = .ok (.iconst 0, 1) := by decide +kernel
theorem dX1_isView_11 : decode cX1_isView 11 = .ok (.ireturn, 1) := by decide +kernel
theorem dX1_isView_12 : decode cX1_isView 12 = .ok (.iload_n 1, 1) := by decide +kernel
theorem dX1_isView_13 : decode cX1_isView 13 = .ok (.iconst 4, 1) := by decide +kernel
theorem dX1_isView_14 : decode cX1_isView 14 = .ok (.if_icmp .ne 24, 3) := by decide +kernel
theorem dX1_isView_17 : decode cX1_isView 17 = .ok (.iload_n 2, 1) := by decide +kernel
theorem dX1_isView_18 : decode cX1_isView 18 = .ok (.ifCond .eq 18, 3) := by decide +kernel
theorem dX1_isView_21 : decode cX1_isView 21 = .ok (.iload_n 2, 1) := by decide +kernel
theorem dX1_isView_22 : decode cX1_isView 22 = .ok (.aload_n 0, 1) := by decide +kernel
theorem dX1_isView_23 : decode cX1_isView 23 = .ok (.invokevirtual 38, 3) := by decide +kernel
theorem dX1_isView_26 : decode cX1_isView 26 = .ok (.iconst (-1), 1) := by decide +kernel
theorem dX1_isView_27 : decode cX1_isView 27 = .ok (.ixor, 1) := by decide +kernel
theorem dX1_isView_28 : decode cX1_isView 28 = .ok (.iand, 1) := by decide +kernel
theorem dX1_isView_29 : decode cX1_isView 29 = .ok (.ifCond .ne 7, 3) := by decide +kernel
theorem dX1_isView_32 : decode cX1_isView 32 = .ok (.iconst 1, 1) := by decide +kernel
theorem dX1_isView_33 : decode cX1_isView 33 = .ok (.goto 4, 3) := by decide +kernel
theorem dX1_isView_36 : decode cX1_isView 36 = .ok (.iconst 0, 1) := by decide +kernel
theorem dX1_isView_37 : decode cX1_isView 37 = .ok (.ireturn, 1) := by decide +kernel
theorem dX1_isView_38 : decode cX1_isView 38 = .ok (.iload_n 1, 1) := by decide +kernel
theorem dX1_isView_39 : decode cX1_isView 39 = .ok (.bipush 7, 2) := by decide +kernel
theorem dX1_isView_41 : decode cX1_isView 41 = .ok (.if_icmp .ne 20, 3) := by decide +kernel
theorem dX1_isView_44 : decode cX1_isView 44 = .ok (.aload_n 0, 1) := by decide +kernel
theorem dX1_isView_45 : decode cX1_isView 45 = .ok (.getfield 44, 3) := by decide +kernel
theorem dX1_isView_48 : decode cX1_isView 48 = .ok (.iconst 1, 1) := by decide +kernel
theorem dX1_isView_49 : decode cX1_isView 49 = .ok (.if_icmp .lt 16, 3) := by decide +kernel
theorem dX1_isView_52 : decode cX1_isView 52 = .ok (.aload_n 0, 1) := by decide +kernel
theorem dX1_isView_53 : decode cX1_isView 53 = .ok (.getfield 44, 3) := by decide +kernel
theorem dX1_isView_56 : decode cX1_isView 56 = .ok (.bipush 16, 2) := by decide +kernel
theorem dX1_isView_58 : decode cX1_isView 58 = .ok (.if_icmp .gt 7, 3) := by decide +kernel
theorem dX1_isView_61 : decode cX1_isView 61 = .ok (.iconst 1, 1) := by decide +kernel
theorem dX1_isView_62 : decode cX1_isView 62 = .ok (.goto 4, 3) := by decide +kernel
theorem dX1_isView_65 : decode cX1_isView 65 = .ok (.iconst 0, 1) := by decide +kernel
theorem dX1_isView_66 : decode cX1_isView 66 = .ok (.ireturn, 1) := by decide +kernel
theorem kX1_38 : lkK (gS, X) RX1 38 mX3_allNodes 0 ∧ Cond.instanceMethod yX3_allNodes ∈ g_ws (gS, X) ∧ Cond.selects RX3 yX3_allNodes yX3_allNodes ∈ g_ws (gS, X) ∧ yX3_allNodes.cls = RX3 := ⟨⟨tb_good, (tb_t (k := 424) (w := Cond.methodLink RX1 38 yX3_allNodes) (by decide +kernel)), (tb_t (k := 10) (w := Cond.initialized RX3) (by decide +kernel)), (tb_t (k := 427) (w := Cond.code yX3_allNodes cX3_allNodes 1 (some .int)) (by decide +kernel)), by decide +kernel, by decide⟩, (tb_t (k := 425) (w := Cond.instanceMethod yX3_allNodes) (by decide +kernel)), (tb_t (k := 426) (w := Cond.selects RX3 yX3_allNodes yX3_allNodes) (by decide +kernel)), rfl⟩
theorem fX1_44 : lkF (gS, X) RX1 44 3 2 "GraphEngine$Graph" RX3 TX3 14 := ⟨rfl, inX3, by decide, (tb_t (k := 292) (w := Cond.fieldLink RX1 44 "GraphEngine$Graph" "arcs" "I") (by decide +kernel)), Or.inl rfl⟩
theorem dX1_draw_0 : decode cX1_draw 0 = .ok (.iload_n 2, 1) := by decide +kernel
theorem dX1_draw_1 : decode cX1_draw 1 = .ok (.tableswitch 50 4 7 #[31, 50, 38, 44], 31) := by decide +kernel
theorem dX1_draw_32 : decode cX1_draw 32 = .ok (.aload_n 0, 1) := by decide +kernel
theorem dX1_draw_33 : decode cX1_draw 33 = .ok (.aload_n 1, 1) := by decide +kernel
theorem dX1_draw_34 : decode cX1_draw 34 = .ok (.iload_n 3, 1) := by decide +kernel
theorem dX1_draw_35 : decode cX1_draw 35 = .ok (.invokevirtual 45, 3) := by decide +kernel
theorem dX1_draw_38 : decode cX1_draw 38 = .ok (.ireturn, 1) := by decide +kernel
theorem dX1_draw_39 : decode cX1_draw 39 = .ok (.aload_n 0, 1) := by decide +kernel
theorem dX1_draw_40 : decode cX1_draw 40 = .ok (.aload_n 1, 1) := by decide +kernel
theorem dX1_draw_41 : decode cX1_draw 41 = .ok (.invokevirtual 49, 3) := by decide +kernel
theorem dX1_draw_44 : decode cX1_draw 44 = .ok (.ireturn, 1) := by decide +kernel
theorem dX1_draw_45 : decode cX1_draw 45 = .ok (.aload_n 0, 1) := by decide +kernel
theorem dX1_draw_46 : decode cX1_draw 46 = .ok (.aload_n 1, 1) := by decide +kernel
theorem dX1_draw_47 : decode cX1_draw 47 = .ok (.invokevirtual 53, 3) := by decide +kernel
theorem dX1_draw_50 : decode cX1_draw 50 = .ok (.ireturn, 1) := by decide +kernel
theorem dX1_draw_51 : decode cX1_draw 51 = .ok (.aload_n 0, 1) := by decide +kernel
theorem dX1_draw_52 : decode cX1_draw 52 = .ok (.aload_n 1, 1) := by decide +kernel
theorem dX1_draw_53 : decode cX1_draw 53 = .ok (.iload_n 2, 1) := by decide +kernel
theorem dX1_draw_54 : decode cX1_draw 54 = .ok (.iload_n 3, 1) := by decide +kernel
theorem dX1_draw_55 : decode cX1_draw 55 = .ok (.invokevirtual 56, 3) := by decide +kernel
theorem dX1_draw_58 : decode cX1_draw 58 = .ok (.ireturn, 1) := by decide +kernel
theorem kX1_45 : lkK (gS, X) RX1 45 mX1_drawPart 2 ∧ Cond.instanceMethod yX1_drawPart ∈ g_ws (gS, X) ∧ Cond.selects RX1 yX1_drawPart yX1_drawPart ∈ g_ws (gS, X) ∧ yX1_drawPart.cls = RX1 := ⟨⟨tb_good, (tb_t (k := 432) (w := Cond.methodLink RX1 45 yX1_drawPart) (by decide +kernel)), (tb_t (k := 2) (w := Cond.initialized RX1) (by decide +kernel)), (tb_t (k := 435) (w := Cond.code yX1_drawPart cX1_drawPart 7 (some .boolean)) (by decide +kernel)), by decide +kernel, by decide⟩, (tb_t (k := 434) (w := Cond.instanceMethod yX1_drawPart) (by decide +kernel)), (tb_p (k := 8) (q := (yX1_drawPart, 8)) (by decide +kernel)), rfl⟩
theorem kX1_49 : lkK (gS, X) RX1 49 mX1_drawSquared 1 ∧ Cond.instanceMethod yX1_drawSquared ∈ g_ws (gS, X) ∧ Cond.selects RX1 yX1_drawSquared yX1_drawSquared ∈ g_ws (gS, X) ∧ yX1_drawSquared.cls = RX1 := ⟨⟨tb_good, (tb_t (k := 447) (w := Cond.methodLink RX1 49 yX1_drawSquared) (by decide +kernel)), (tb_t (k := 2) (w := Cond.initialized RX1) (by decide +kernel)), (tb_t (k := 450) (w := Cond.code yX1_drawSquared cX1_drawSquared 5 (some .boolean)) (by decide +kernel)), by decide +kernel, by decide⟩, (tb_t (k := 449) (w := Cond.instanceMethod yX1_drawSquared) (by decide +kernel)), (tb_p (k := 9) (q := (yX1_drawSquared, 8)) (by decide +kernel)), rfl⟩
theorem kX1_53 : lkK (gS, X) RX1 53 mX1_drawLines 1 ∧ Cond.instanceMethod yX1_drawLines ∈ g_ws (gS, X) ∧ Cond.selects RX1 yX1_drawLines yX1_drawLines ∈ g_ws (gS, X) ∧ yX1_drawLines.cls = RX1 := ⟨⟨tb_good, (tb_t (k := 469) (w := Cond.methodLink RX1 53 yX1_drawLines) (by decide +kernel)), (tb_t (k := 2) (w := Cond.initialized RX1) (by decide +kernel)), (tb_t (k := 472) (w := Cond.code yX1_drawLines cX1_drawLines 5 (some .boolean)) (by decide +kernel)), by decide +kernel, by decide⟩, (tb_t (k := 471) (w := Cond.instanceMethod yX1_drawLines) (by decide +kernel)), (tb_p (k := 12) (q := (yX1_drawLines, 8)) (by decide +kernel)), rfl⟩
theorem kX1_56 : lkK (gS, X) RX1 56 mX1_drawKept 3 ∧ Cond.instanceMethod yX1_drawKept ∈ g_ws (gS, X) ∧ Cond.selects RX1 yX1_drawKept yX1_drawKept ∈ g_ws (gS, X) ∧ yX1_drawKept.cls = RX1 := ⟨⟨tb_good, (tb_t (k := 477) (w := Cond.methodLink RX1 56 yX1_drawKept) (by decide +kernel)), (tb_t (k := 2) (w := Cond.initialized RX1) (by decide +kernel)), (tb_t (k := 480) (w := Cond.code yX1_drawKept cX1_drawKept 8 (some .boolean)) (by decide +kernel)), by decide +kernel, by decide⟩, (tb_t (k := 479) (w := Cond.instanceMethod yX1_drawKept) (by decide +kernel)), (tb_p (k := 13) (q := (yX1_drawKept, 8)) (by decide +kernel)), rfl⟩
theorem dX1_drawKept_0 : decode cX1_drawKept 0 = .ok (.aload_n 0, 1) := by decide +kernel
theorem dX1_drawKept_1 : decode cX1_drawKept 1 = .ok (.aload_n 1, 1) := by decide +kernel
theorem dX1_drawKept_2 : decode cX1_drawKept 2 = .ok (.getfield 60, 3) := by decide +kernel
theorem dX1_drawKept_5 : decode cX1_drawKept 5 = .ok (.aload_n 1, 1) := by decide +kernel
theorem dX1_drawKept_6 : decode cX1_drawKept 6 = .ok (.getfield 61, 3) := by decide +kernel
theorem dX1_drawKept_9 : decode cX1_drawKept 9 = .ok (.ifCond .eq 12, 3) := by decide +kernel
theorem dX1_drawKept_12 : decode cX1_drawKept 12 = .ok (.iload_n 2, 1) := by decide +kernel
theorem dX1_drawKept_13 : decode cX1_drawKept 13 = .ok (.iconst 1, 1) := by decide +kernel
theorem dX1_drawKept_14 : decode cX1_drawKept 14 = .ok (.if_icmp .eq 7, 3) := by decide +kernel
theorem dX1_drawKept_17 : decode cX1_drawKept 17 = .ok (.iconst 1, 1) := by decide +kernel
theorem dX1_drawKept_18 : decode cX1_drawKept 18 = .ok (.goto 4, 3) := by decide +kernel
theorem dX1_drawKept_21 : decode cX1_drawKept 21 = .ok (.iconst 0, 1) := by decide +kernel
theorem dX1_drawKept_22 : decode cX1_drawKept 22 = .ok (.invokevirtual 62, 3) := by decide +kernel
theorem dX1_drawKept_25 : decode cX1_drawKept 25 = .ok (.iconst 1, 1) := by decide +kernel
theorem dX1_drawKept_26 : decode cX1_drawKept 26 = .ok (.istore 4, 2) := by decide +kernel
theorem dX1_drawKept_28 : decode cX1_drawKept 28 = .ok (.iconst 0, 1) := by decide +kernel
theorem dX1_drawKept_29 : decode cX1_drawKept 29 = .ok (.istore 5, 2) := by decide +kernel
theorem dX1_drawKept_31 : decode cX1_drawKept 31 = .ok (.iload 5, 2) := by decide +kernel
theorem dX1_drawKept_33 : decode cX1_drawKept 33 = .ok (.aload_n 1, 1) := by decide +kernel
theorem dX1_drawKept_34 : decode cX1_drawKept 34 = .ok (.getfield 44, 3) := by decide +kernel
theorem dX1_drawKept_37 : decode cX1_drawKept 37 = .ok (.if_icmp .ge 103, 3) := by decide +kernel
theorem dX1_drawKept_40 : decode cX1_drawKept 40 = .ok (.aload_n 1, 1) := by decide +kernel
theorem dX1_drawKept_41 : decode cX1_drawKept 41 = .ok (.iload_n 2, 1) := by decide +kernel
theorem dX1_drawKept_42 : decode cX1_drawKept 42 = .ok (.iload_n 3, 1) := by decide +kernel
theorem dX1_drawKept_43 : decode cX1_drawKept 43 = .ok (.iload 5, 2) := by decide +kernel
theorem dX1_drawKept_45 : decode cX1_drawKept 45 = .ok (.invokestatic 66, 3) := by decide +kernel
theorem dX1_drawKept_48 : decode cX1_drawKept 48 = .ok (.ifCond .eq 86, 3) := by decide +kernel
theorem dX1_drawKept_51 : decode cX1_drawKept 51 = .ok (.iload_n 2, 1) := by decide +kernel
theorem dX1_drawKept_52 : decode cX1_drawKept 52 = .ok (.ifCond .ne 13, 3) := by decide +kernel
theorem dX1_drawKept_55 : decode cX1_drawKept 55 = .ok (.aload_n 1, 1) := by decide +kernel
theorem dX1_drawKept_56 : decode cX1_drawKept 56 = .ok (.getfield 70, 3) := by decide +kernel
theorem dX1_drawKept_59 : decode cX1_drawKept 59 = .ok (.iload 5, 2) := by decide +kernel
theorem dX1_drawKept_61 : decode cX1_drawKept 61 = .ok (.iaload, 1) := by decide +kernel
theorem dX1_drawKept_62 : decode cX1_drawKept 62 = .ok (.goto 10, 3) := by decide +kernel
theorem dX1_drawKept_65 : decode cX1_drawKept 65 = .ok (.aload_n 1, 1) := by decide +kernel
theorem dX1_drawKept_66 : decode cX1_drawKept 66 = .ok (.getfield 71, 3) := by decide +kernel
theorem dX1_drawKept_69 : decode cX1_drawKept 69 = .ok (.iload 5, 2) := by decide +kernel
theorem dX1_drawKept_71 : decode cX1_drawKept 71 = .ok (.iaload, 1) := by decide +kernel
theorem dX1_drawKept_72 : decode cX1_drawKept 72 = .ok (.istore 6, 2) := by decide +kernel
theorem dX1_drawKept_74 : decode cX1_drawKept 74 = .ok (.iload_n 2, 1) := by decide +kernel
theorem dX1_drawKept_75 : decode cX1_drawKept 75 = .ok (.ifCond .ne 13, 3) := by decide +kernel
theorem dX1_drawKept_78 : decode cX1_drawKept 78 = .ok (.aload_n 1, 1) := by decide +kernel
theorem dX1_drawKept_79 : decode cX1_drawKept 79 = .ok (.getfield 71, 3) := by decide +kernel
theorem dX1_drawKept_82 : decode cX1_drawKept 82 = .ok (.iload 5, 2) := by decide +kernel
theorem dX1_drawKept_84 : decode cX1_drawKept 84 = .ok (.iaload, 1) := by decide +kernel
theorem dX1_drawKept_85 : decode cX1_drawKept 85 = .ok (.goto 10, 3) := by decide +kernel
theorem dX1_drawKept_88 : decode cX1_drawKept 88 = .ok (.aload_n 1, 1) := by decide +kernel
theorem dX1_drawKept_89 : decode cX1_drawKept 89 = .ok (.getfield 70, 3) := by decide +kernel
theorem dX1_drawKept_92 : decode cX1_drawKept 92 = .ok (.iload 5, 2) := by decide +kernel
theorem dX1_drawKept_94 : decode cX1_drawKept 94 = .ok (.iaload, 1) := by decide +kernel
theorem dX1_drawKept_95 : decode cX1_drawKept 95 = .ok (.istore 7, 2) := by decide +kernel
theorem dX1_drawKept_97 : decode cX1_drawKept 97 = .ok (.aload_n 0, 1) := by decide +kernel
theorem dX1_drawKept_98 : decode cX1_drawKept 98 = .ok (.iload 6, 2) := by decide +kernel
theorem dX1_drawKept_100 : decode cX1_drawKept 100 = .ok (.iload 7, 2) := by decide +kernel
theorem dX1_drawKept_102 : decode cX1_drawKept 102 = .ok (.aload_n 1, 1) := by decide +kernel
theorem dX1_drawKept_103 : decode cX1_drawKept 103 = .ok (.getfield 72, 3) := by decide +kernel
theorem dX1_drawKept_106 : decode cX1_drawKept 106 = .ok (.iload 5, 2) := by decide +kernel
theorem dX1_drawKept_108 : decode cX1_drawKept 108 = .ok (.iaload, 1) := by decide +kernel
theorem dX1_drawKept_109 : decode cX1_drawKept 109 = .ok (.aload_n 1, 1) := by decide +kernel
theorem dX1_drawKept_110 : decode cX1_drawKept 110 = .ok (.getfield 73, 3) := by decide +kernel
theorem dX1_drawKept_113 : decode cX1_drawKept 113 = .ok (.iload 5, 2) := by decide +kernel
theorem dX1_drawKept_115 : decode cX1_drawKept 115 = .ok (.iaload, 1) := by decide +kernel
theorem dX1_drawKept_116 : decode cX1_drawKept 116 = .ok (.invokevirtual 74, 3) := by decide +kernel
theorem dX1_drawKept_119 : decode cX1_drawKept 119 = .ok (.ifCond .eq 12, 3) := by decide +kernel
theorem dX1_drawKept_122 : decode cX1_drawKept 122 = .ok (.iload 4, 2) := by decide +kernel
theorem dX1_drawKept_124 : decode cX1_drawKept 124 = .ok (.ifCond .eq 7, 3) := by decide +kernel
theorem dX1_drawKept_127 : decode cX1_drawKept 127 = .ok (.iconst 1, 1) := by decide +kernel
theorem dX1_drawKept_128 : decode cX1_drawKept 128 = .ok (.goto 4, 3) := by decide +kernel
theorem dX1_drawKept_131 : decode cX1_drawKept 131 = .ok (.iconst 0, 1) := by decide +kernel
theorem dX1_drawKept_132 : decode cX1_drawKept 132 = .ok (.istore 4, 2) := by decide +kernel
theorem dX1_drawKept_134 : decode cX1_drawKept 134 = .ok (.iinc 5 1, 3) := by decide +kernel
theorem dX1_drawKept_137 : decode cX1_drawKept 137 = .ok (.goto (-106), 3) := by decide +kernel
theorem dX1_drawKept_140 : decode cX1_drawKept 140 = .ok (.iload 4, 2) := by decide +kernel
theorem dX1_drawKept_142 : decode cX1_drawKept 142 = .ok (.ireturn, 1) := by decide +kernel
theorem fX1_60 : lkF (gS, X) RX1 60 3 0 "GraphEngine$Graph" RX3 TX3 14 := ⟨rfl, inX3, by decide, (tb_t (k := 366) (w := Cond.fieldLink RX1 60 "GraphEngine$Graph" "nodes" "I") (by decide +kernel)), Or.inr (tb_t (k := 351) (w := Cond.sameField "GraphEngine$Graph" "GraphEngine$Thing" "nodes" "I") (by decide +kernel))⟩
theorem fX1_61 : lkF (gS, X) RX1 61 3 1 "GraphEngine$Graph" RX3 TX3 14 := ⟨rfl, inX3, by decide, (tb_t (k := 287) (w := Cond.fieldLink RX1 61 "GraphEngine$Graph" "directed" "Z") (by decide +kernel)), Or.inl rfl⟩
theorem kX1_62 : lkK (gS, X) RX1 62 mX1_restart 2 ∧ Cond.instanceMethod yX1_restart ∈ g_ws (gS, X) ∧ Cond.selects RX1 yX1_restart yX1_restart ∈ g_ws (gS, X) ∧ yX1_restart.cls = RX1 := ⟨⟨tb_good, (tb_t (k := 442) (w := Cond.methodLink RX1 62 yX1_restart) (by decide +kernel)), (tb_t (k := 2) (w := Cond.initialized RX1) (by decide +kernel)), (tb_t (k := 221) (w := Cond.code yX1_restart cX1_restart 3 none) (by decide +kernel)), by decide +kernel, by decide⟩, (tb_t (k := 219) (w := Cond.instanceMethod yX1_restart) (by decide +kernel)), (tb_t (k := 220) (w := Cond.selects RX1 yX1_restart yX1_restart) (by decide +kernel)), rfl⟩
theorem kX1_66 : lkK (gS, X) RX1 66 mX1_isKept 4 ∧ Cond.static yX1_isKept ∈ g_ws (gS, X) := ⟨⟨tb_good, (tb_t (k := 481) (w := Cond.methodLink RX1 66 yX1_isKept) (by decide +kernel)), (tb_t (k := 2) (w := Cond.initialized RX1) (by decide +kernel)), (tb_t (k := 483) (w := Cond.code yX1_isKept cX1_isKept 4 (some .boolean)) (by decide +kernel)), by decide +kernel, by decide⟩, (tb_t (k := 482) (w := Cond.static yX1_isKept) (by decide +kernel))⟩
theorem fX1_70 : lkF (gS, X) RX1 70 3 4 "GraphEngine$Graph" RX3 TX3 14 := ⟨rfl, inX3, by decide, (tb_t (k := 304) (w := Cond.fieldLink RX1 70 "GraphEngine$Graph" "to" "[I") (by decide +kernel)), Or.inl rfl⟩
theorem fX1_71 : lkF (gS, X) RX1 71 3 3 "GraphEngine$Graph" RX3 TX3 14 := ⟨rfl, inX3, by decide, (tb_t (k := 299) (w := Cond.fieldLink RX1 71 "GraphEngine$Graph" "from" "[I") (by decide +kernel)), Or.inl rfl⟩
theorem fX1_72 : lkF (gS, X) RX1 72 3 5 "GraphEngine$Graph" RX3 TX3 14 := ⟨rfl, inX3, by decide, (tb_t (k := 311) (w := Cond.fieldLink RX1 72 "GraphEngine$Graph" "weight" "[I") (by decide +kernel)), Or.inl rfl⟩
theorem fX1_73 : lkF (gS, X) RX1 73 3 6 "GraphEngine$Graph" RX3 TX3 14 := ⟨rfl, inX3, by decide, (tb_t (k := 316) (w := Cond.fieldLink RX1 73 "GraphEngine$Graph" "cost" "[I") (by decide +kernel)), Or.inl rfl⟩
theorem kX1_74 : lkK (gS, X) RX1 74 mX1_add 4 ∧ Cond.instanceMethod yX1_add ∈ g_ws (gS, X) ∧ Cond.selects RX1 yX1_add yX1_add ∈ g_ws (gS, X) ∧ yX1_add.cls = RX1 := ⟨⟨tb_good, (tb_t (k := 446) (w := Cond.methodLink RX1 74 yX1_add) (by decide +kernel)), (tb_t (k := 2) (w := Cond.initialized RX1) (by decide +kernel)), (tb_t (k := 239) (w := Cond.code yX1_add cX1_add 6 (some .boolean)) (by decide +kernel)), by decide +kernel, by decide⟩, (tb_t (k := 237) (w := Cond.instanceMethod yX1_add) (by decide +kernel)), (tb_t (k := 238) (w := Cond.selects RX1 yX1_add yX1_add) (by decide +kernel)), rfl⟩
theorem dX1_isKept_0 : decode cX1_isKept 0 = .ok (.iload_n 1, 1) := by decide +kernel
theorem dX1_isKept_1 : decode cX1_isKept 1 = .ok (.tableswitch 97 2 5 #[31, 52, 97, 81], 31) := by decide +kernel
theorem dX1_isKept_32 : decode cX1_isKept 32 = .ok (.aload_n 0, 1) := by decide +kernel
theorem dX1_isKept_33 : decode cX1_isKept 33 = .ok (.getfield 71, 3) := by decide +kernel
theorem dX1_isKept_36 : decode cX1_isKept 36 = .ok (.iload_n 3, 1) := by decide +kernel
theorem dX1_isKept_37 : decode cX1_isKept 37 = .ok (.iaload, 1) := by decide +kernel
theorem dX1_isKept_38 : decode cX1_isKept 38 = .ok (.aload_n 0, 1) := by decide +kernel
theorem dX1_isKept_39 : decode cX1_isKept 39 = .ok (.getfield 70, 3) := by decide +kernel
theorem dX1_isKept_42 : decode cX1_isKept 42 = .ok (.iload_n 3, 1) := by decide +kernel
theorem dX1_isKept_43 : decode cX1_isKept 43 = .ok (.iaload, 1) := by decide +kernel
theorem dX1_isKept_44 : decode cX1_isKept 44 = .ok (.if_icmp .eq 7, 3) := by decide +kernel
theorem dX1_isKept_47 : decode cX1_isKept 47 = .ok (.iconst 1, 1) := by decide +kernel
theorem dX1_isKept_48 : decode cX1_isKept 48 = .ok (.goto 4, 3) := by decide +kernel
theorem dX1_isKept_51 : decode cX1_isKept 51 = .ok (.iconst 0, 1) := by decide +kernel
theorem dX1_isKept_52 : decode cX1_isKept 52 = .ok (.ireturn, 1) := by decide +kernel
theorem dX1_isKept_53 : decode cX1_isKept 53 = .ok (.aload_n 0, 1) := by decide +kernel
theorem dX1_isKept_54 : decode cX1_isKept 54 = .ok (.getfield 71, 3) := by decide +kernel
theorem dX1_isKept_57 : decode cX1_isKept 57 = .ok (.iload_n 3, 1) := by decide +kernel
theorem dX1_isKept_58 : decode cX1_isKept 58 = .ok (.iaload, 1) := by decide +kernel
theorem dX1_isKept_59 : decode cX1_isKept 59 = .ok (.aload_n 0, 1) := by decide +kernel
theorem dX1_isKept_60 : decode cX1_isKept 60 = .ok (.getfield 70, 3) := by decide +kernel
theorem dX1_isKept_63 : decode cX1_isKept 63 = .ok (.iload_n 3, 1) := by decide +kernel
theorem dX1_isKept_64 : decode cX1_isKept 64 = .ok (.iaload, 1) := by decide +kernel
theorem dX1_isKept_65 : decode cX1_isKept 65 = .ok (.if_icmp .eq 15, 3) := by decide +kernel
theorem dX1_isKept_68 : decode cX1_isKept 68 = .ok (.aload_n 0, 1) := by decide +kernel
theorem dX1_isKept_69 : decode cX1_isKept 69 = .ok (.iload_n 3, 1) := by decide +kernel
theorem dX1_isKept_70 : decode cX1_isKept 70 = .ok (.invokestatic 78, 3) := by decide +kernel
theorem dX1_isKept_73 : decode cX1_isKept 73 = .ok (.ifCond .eq 7, 3) := by decide +kernel
theorem dX1_isKept_76 : decode cX1_isKept 76 = .ok (.iconst 1, 1) := by decide +kernel
theorem dX1_isKept_77 : decode cX1_isKept 77 = .ok (.goto 4, 3) := by decide +kernel
theorem dX1_isKept_80 : decode cX1_isKept 80 = .ok (.iconst 0, 1) := by decide +kernel
theorem dX1_isKept_81 : decode cX1_isKept 81 = .ok (.ireturn, 1) := by decide +kernel
theorem dX1_isKept_82 : decode cX1_isKept 82 = .ok (.aload_n 0, 1) := by decide +kernel
theorem dX1_isKept_83 : decode cX1_isKept 83 = .ok (.getfield 72, 3) := by decide +kernel
theorem dX1_isKept_86 : decode cX1_isKept 86 = .ok (.iload_n 3, 1) := by decide +kernel
theorem dX1_isKept_87 : decode cX1_isKept 87 = .ok (.iaload, 1) := by decide +kernel
theorem dX1_isKept_88 : decode cX1_isKept 88 = .ok (.iload_n 2, 1) := by decide +kernel
theorem dX1_isKept_89 : decode cX1_isKept 89 = .ok (.if_icmp .lt 7, 3) := by decide +kernel
theorem dX1_isKept_92 : decode cX1_isKept 92 = .ok (.iconst 1, 1) := by decide +kernel
theorem dX1_isKept_93 : decode cX1_isKept 93 = .ok (.goto 4, 3) := by decide +kernel
theorem dX1_isKept_96 : decode cX1_isKept 96 = .ok (.iconst 0, 1) := by decide +kernel
theorem dX1_isKept_97 : decode cX1_isKept 97 = .ok (.ireturn, 1) := by decide +kernel
theorem dX1_isKept_98 : decode cX1_isKept 98 = .ok (.iconst 1, 1) := by decide +kernel
theorem dX1_isKept_99 : decode cX1_isKept 99 = .ok (.ireturn, 1) := by decide +kernel
theorem kX1_78 : lkK (gS, X) RX1 78 mX1_isLightestOfItsEnds 2 ∧ Cond.static yX1_isLightestOfItsEnds ∈ g_ws (gS, X) := ⟨⟨tb_good, (tb_t (k := 484) (w := Cond.methodLink RX1 78 yX1_isLightestOfItsEnds) (by decide +kernel)), (tb_t (k := 2) (w := Cond.initialized RX1) (by decide +kernel)), (tb_t (k := 486) (w := Cond.code yX1_isLightestOfItsEnds cX1_isLightestOfItsEnds 4 (some .boolean)) (by decide +kernel)), by decide +kernel, by decide⟩, (tb_t (k := 485) (w := Cond.static yX1_isLightestOfItsEnds) (by decide +kernel))⟩
theorem dX1_isLightestOfItsEnds_0 : decode cX1_isLightestOfItsEnds 0 = .ok (.iconst 0, 1) := by decide +kernel
theorem dX1_isLightestOfItsEnds_1 : decode cX1_isLightestOfItsEnds 1 = .ok (.istore_n 2, 1) := by decide +kernel
theorem dX1_isLightestOfItsEnds_2 : decode cX1_isLightestOfItsEnds 2 = .ok (.iload_n 2, 1) := by decide +kernel
theorem dX1_isLightestOfItsEnds_3 : decode cX1_isLightestOfItsEnds 3 = .ok (.aload_n 0, 1) := by decide +kernel
theorem dX1_isLightestOfItsEnds_4 : decode cX1_isLightestOfItsEnds 4 = .ok (.getfield 44, 3) := by decide +kernel
theorem dX1_isLightestOfItsEnds_7 : decode cX1_isLightestOfItsEnds 7 = .ok (.if_icmp .ge 65, 3) := by decide +kernel
theorem dX1_isLightestOfItsEnds_10 : decode cX1_isLightestOfItsEnds 10 = .ok (.aload_n 0, 1) := by decide +kernel
theorem dX1_isLightestOfItsEnds_11 : decode cX1_isLightestOfItsEnds 11 = .ok (.getfield 72, 3) := by decide +kernel
theorem dX1_isLightestOfItsEnds_14 : decode cX1_isLightestOfItsEnds 14 = .ok (.iload_n 2, 1) := by decide +kernel
theorem dX1_isLightestOfItsEnds_15 : decode cX1_isLightestOfItsEnds 15 = .ok (.iaload, 1) := by decide +kernel
theorem dX1_isLightestOfItsEnds_16 : decode cX1_isLightestOfItsEnds 16 = .ok (.aload_n 0, 1) := by decide +kernel
theorem dX1_isLightestOfItsEnds_17 : decode cX1_isLightestOfItsEnds 17 = .ok (.getfield 72, 3) := by decide +kernel
theorem dX1_isLightestOfItsEnds_20 : decode cX1_isLightestOfItsEnds 20 = .ok (.iload_n 1, 1) := by decide +kernel
theorem dX1_isLightestOfItsEnds_21 : decode cX1_isLightestOfItsEnds 21 = .ok (.iaload, 1) := by decide +kernel
theorem dX1_isLightestOfItsEnds_22 : decode cX1_isLightestOfItsEnds 22 = .ok (.if_icmp .lt 23, 3) := by decide +kernel
theorem dX1_isLightestOfItsEnds_25 : decode cX1_isLightestOfItsEnds 25 = .ok (.aload_n 0, 1) := by decide +kernel
theorem dX1_isLightestOfItsEnds_26 : decode cX1_isLightestOfItsEnds 26 = .ok (.getfield 72, 3) := by decide +kernel
theorem dX1_isLightestOfItsEnds_29 : decode cX1_isLightestOfItsEnds 29 = .ok (.iload_n 2, 1) := by decide +kernel
theorem dX1_isLightestOfItsEnds_30 : decode cX1_isLightestOfItsEnds 30 = .ok (.iaload, 1) := by decide +kernel
theorem dX1_isLightestOfItsEnds_31 : decode cX1_isLightestOfItsEnds 31 = .ok (.aload_n 0, 1) := by decide +kernel
theorem dX1_isLightestOfItsEnds_32 : decode cX1_isLightestOfItsEnds 32 = .ok (.getfield 72, 3) := by decide +kernel
theorem dX1_isLightestOfItsEnds_35 : decode cX1_isLightestOfItsEnds 35 = .ok (.iload_n 1, 1) := by decide +kernel
theorem dX1_isLightestOfItsEnds_36 : decode cX1_isLightestOfItsEnds 36 = .ok (.iaload, 1) := by decide +kernel
theorem dX1_isLightestOfItsEnds_37 : decode cX1_isLightestOfItsEnds 37 = .ok (.if_icmp .ne 12, 3) := by decide +kernel
theorem dX1_isLightestOfItsEnds_40 : decode cX1_isLightestOfItsEnds 40 = .ok (.iload_n 2, 1) := by decide +kernel
theorem dX1_isLightestOfItsEnds_41 : decode cX1_isLightestOfItsEnds 41 = .ok (.iload_n 1, 1) := by decide +kernel
theorem dX1_isLightestOfItsEnds_42 : decode cX1_isLightestOfItsEnds 42 = .ok (.if_icmp .ge 7, 3) := by decide +kernel
theorem dX1_isLightestOfItsEnds_45 : decode cX1_isLightestOfItsEnds 45 = .ok (.iconst 1, 1) := by decide +kernel
theorem dX1_isLightestOfItsEnds_46 : decode cX1_isLightestOfItsEnds 46 = .ok (.goto 4, 3) := by decide +kernel
theorem dX1_isLightestOfItsEnds_49 : decode cX1_isLightestOfItsEnds 49 = .ok (.iconst 0, 1) := by decide +kernel
theorem dX1_isLightestOfItsEnds_50 : decode cX1_isLightestOfItsEnds 50 = .ok (.istore_n 3, 1) := by decide +kernel
theorem dX1_isLightestOfItsEnds_51 : decode cX1_isLightestOfItsEnds 51 = .ok (.iload_n 3, 1) := by decide +kernel
theorem dX1_isLightestOfItsEnds_52 : decode cX1_isLightestOfItsEnds 52 = .ok (.ifCond .eq 14, 3) := by decide +kernel
theorem dX1_isLightestOfItsEnds_55 : decode cX1_isLightestOfItsEnds 55 = .ok (.aload_n 0, 1) := by decide +kernel
theorem dX1_isLightestOfItsEnds_56 : decode cX1_isLightestOfItsEnds 56 = .ok (.iload_n 1, 1) := by decide +kernel
theorem dX1_isLightestOfItsEnds_57 : decode cX1_isLightestOfItsEnds 57 = .ok (.iload_n 2, 1) := by decide +kernel
theorem dX1_isLightestOfItsEnds_58 : decode cX1_isLightestOfItsEnds 58 = .ok (.invokevirtual 81, 3) := by decide +kernel
theorem dX1_isLightestOfItsEnds_61 : decode cX1_isLightestOfItsEnds 61 = .ok (.ifCond .eq 5, 3) := by decide +kernel
theorem dX1_isLightestOfItsEnds_64 : decode cX1_isLightestOfItsEnds 64 = .ok (.iconst 0, 1) := by decide +kernel
theorem dX1_isLightestOfItsEnds_65 : decode cX1_isLightestOfItsEnds 65 = .ok (.ireturn, 1) := by decide +kernel
theorem dX1_isLightestOfItsEnds_66 : decode cX1_isLightestOfItsEnds 66 = .ok (.iinc 2 1, 3) := by decide +kernel
theorem dX1_isLightestOfItsEnds_69 : decode cX1_isLightestOfItsEnds 69 = .ok (.goto (-67), 3) := by decide +kernel
theorem dX1_isLightestOfItsEnds_72 : decode cX1_isLightestOfItsEnds 72 = .ok (.iconst 1, 1) := by decide +kernel
theorem dX1_isLightestOfItsEnds_73 : decode cX1_isLightestOfItsEnds 73 = .ok (.ireturn, 1) := by decide +kernel
theorem kX1_81 : lkK (gS, X) RX1 81 mX3_haveSameEnds 2 ∧ Cond.instanceMethod yX3_haveSameEnds ∈ g_ws (gS, X) ∧ Cond.selects RX3 yX3_haveSameEnds yX3_haveSameEnds ∈ g_ws (gS, X) ∧ yX3_haveSameEnds.cls = RX3 := ⟨⟨tb_good, (tb_t (k := 487) (w := Cond.methodLink RX1 81 yX3_haveSameEnds) (by decide +kernel)), (tb_t (k := 10) (w := Cond.initialized RX3) (by decide +kernel)), (tb_t (k := 490) (w := Cond.code yX3_haveSameEnds cX3_haveSameEnds 3 (some .boolean)) (by decide +kernel)), by decide +kernel, by decide⟩, (tb_t (k := 488) (w := Cond.instanceMethod yX3_haveSameEnds) (by decide +kernel)), (tb_t (k := 489) (w := Cond.selects RX3 yX3_haveSameEnds yX3_haveSameEnds) (by decide +kernel)), rfl⟩
theorem dX1_drawPart_0 : decode cX1_drawPart 0 = .ok (.aload_n 0, 1) := by decide +kernel
theorem dX1_drawPart_1 : decode cX1_drawPart 1 = .ok (.iload_n 2, 1) := by decide +kernel
theorem dX1_drawPart_2 : decode cX1_drawPart 2 = .ok (.invokestatic 85, 3) := by decide +kernel
theorem dX1_drawPart_5 : decode cX1_drawPart 5 = .ok (.aload_n 1, 1) := by decide +kernel
theorem dX1_drawPart_6 : decode cX1_drawPart 6 = .ok (.getfield 61, 3) := by decide +kernel
theorem dX1_drawPart_9 : decode cX1_drawPart 9 = .ok (.invokevirtual 62, 3) := by decide +kernel
theorem dX1_drawPart_12 : decode cX1_drawPart 12 = .ok (.iconst 1, 1) := by decide +kernel
theorem dX1_drawPart_13 : decode cX1_drawPart 13 = .ok (.istore_n 3, 1) := by decide +kernel
theorem dX1_drawPart_14 : decode cX1_drawPart 14 = .ok (.iconst 0, 1) := by decide +kernel
theorem dX1_drawPart_15 : decode cX1_drawPart 15 = .ok (.istore 4, 2) := by decide +kernel
theorem dX1_drawPart_17 : decode cX1_drawPart 17 = .ok (.iload 4, 2) := by decide +kernel
theorem dX1_drawPart_19 : decode cX1_drawPart 19 = .ok (.aload_n 1, 1) := by decide +kernel
theorem dX1_drawPart_20 : decode cX1_drawPart 20 = .ok (.getfield 44, 3) := by decide +kernel
theorem dX1_drawPart_23 : decode cX1_drawPart 23 = .ok (.if_icmp .ge 84, 3) := by decide +kernel
theorem dX1_drawPart_26 : decode cX1_drawPart 26 = .ok (.aload_n 1, 1) := by decide +kernel
theorem dX1_drawPart_27 : decode cX1_drawPart 27 = .ok (.getfield 71, 3) := by decide +kernel
theorem dX1_drawPart_30 : decode cX1_drawPart 30 = .ok (.iload 4, 2) := by decide +kernel
theorem dX1_drawPart_32 : decode cX1_drawPart 32 = .ok (.iaload, 1) := by decide +kernel
theorem dX1_drawPart_33 : decode cX1_drawPart 33 = .ok (.istore 5, 2) := by decide +kernel
theorem dX1_drawPart_35 : decode cX1_drawPart 35 = .ok (.aload_n 1, 1) := by decide +kernel
theorem dX1_drawPart_36 : decode cX1_drawPart 36 = .ok (.getfield 70, 3) := by decide +kernel
theorem dX1_drawPart_39 : decode cX1_drawPart 39 = .ok (.iload 4, 2) := by decide +kernel
theorem dX1_drawPart_41 : decode cX1_drawPart 41 = .ok (.iaload, 1) := by decide +kernel
theorem dX1_drawPart_42 : decode cX1_drawPart 42 = .ok (.istore 6, 2) := by decide +kernel
theorem dX1_drawPart_44 : decode cX1_drawPart 44 = .ok (.iload_n 2, 1) := by decide +kernel
theorem dX1_drawPart_45 : decode cX1_drawPart 45 = .ok (.iload 5, 2) := by decide +kernel
theorem dX1_drawPart_47 : decode cX1_drawPart 47 = .ok (.ishr, 1) := by decide +kernel
theorem dX1_drawPart_48 : decode cX1_drawPart 48 = .ok (.iload_n 2, 1) := by decide +kernel
theorem dX1_drawPart_49 : decode cX1_drawPart 49 = .ok (.iload 6, 2) := by decide +kernel
theorem dX1_drawPart_51 : decode cX1_drawPart 51 = .ok (.ishr, 1) := by decide +kernel
theorem dX1_drawPart_52 : decode cX1_drawPart 52 = .ok (.iand, 1) := by decide +kernel
theorem dX1_drawPart_53 : decode cX1_drawPart 53 = .ok (.iconst 1, 1) := by decide +kernel
theorem dX1_drawPart_54 : decode cX1_drawPart 54 = .ok (.iand, 1) := by decide +kernel
theorem dX1_drawPart_55 : decode cX1_drawPart 55 = .ok (.ifCond .eq 46, 3) := by decide +kernel
theorem dX1_drawPart_58 : decode cX1_drawPart 58 = .ok (.aload_n 0, 1) := by decide +kernel
theorem dX1_drawPart_59 : decode cX1_drawPart 59 = .ok (.iload_n 2, 1) := by decide +kernel
theorem dX1_drawPart_60 : decode cX1_drawPart 60 = .ok (.iload 5, 2) := by decide +kernel
theorem dX1_drawPart_62 : decode cX1_drawPart 62 = .ok (.invokestatic 91, 3) := by decide +kernel
theorem dX1_drawPart_65 : decode cX1_drawPart 65 = .ok (.iload_n 2, 1) := by decide +kernel
theorem dX1_drawPart_66 : decode cX1_drawPart 66 = .ok (.iload 6, 2) := by decide +kernel
theorem dX1_drawPart_68 : decode cX1_drawPart 68 = .ok (.invokestatic 91, 3) := by decide +kernel
theorem dX1_drawPart_71 : decode cX1_drawPart 71 = .ok (.aload_n 1, 1) := by decide +kernel
theorem dX1_drawPart_72 : decode cX1_drawPart 72 = .ok (.getfield 72, 3) := by decide +kernel
theorem dX1_drawPart_75 : decode cX1_drawPart 75 = .ok (.iload 4, 2) := by decide +kernel
theorem dX1_drawPart_77 : decode cX1_drawPart 77 = .ok (.iaload, 1) := by decide +kernel
theorem dX1_drawPart_78 : decode cX1_drawPart 78 = .ok (.aload_n 1, 1) := by decide +kernel
theorem dX1_drawPart_79 : decode cX1_drawPart 79 = .ok (.getfield 73, 3) := by decide +kernel
theorem dX1_drawPart_82 : decode cX1_drawPart 82 = .ok (.iload 4, 2) := by decide +kernel
theorem dX1_drawPart_84 : decode cX1_drawPart 84 = .ok (.iaload, 1) := by decide +kernel
theorem dX1_drawPart_85 : decode cX1_drawPart 85 = .ok (.invokevirtual 74, 3) := by decide +kernel
theorem dX1_drawPart_88 : decode cX1_drawPart 88 = .ok (.ifCond .eq 11, 3) := by decide +kernel
theorem dX1_drawPart_91 : decode cX1_drawPart 91 = .ok (.iload_n 3, 1) := by decide +kernel
theorem dX1_drawPart_92 : decode cX1_drawPart 92 = .ok (.ifCond .eq 7, 3) := by decide +kernel
theorem dX1_drawPart_95 : decode cX1_drawPart 95 = .ok (.iconst 1, 1) := by decide +kernel
theorem dX1_drawPart_96 : decode cX1_drawPart 96 = .ok (.goto 4, 3) := by decide +kernel
theorem dX1_drawPart_99 : decode cX1_drawPart 99 = .ok (.iconst 0, 1) := by decide +kernel
theorem dX1_drawPart_100 : decode cX1_drawPart 100 = .ok (.istore_n 3, 1) := by decide +kernel
theorem dX1_drawPart_101 : decode cX1_drawPart 101 = .ok (.iinc 4 1, 3) := by decide +kernel
theorem dX1_drawPart_104 : decode cX1_drawPart 104 = .ok (.goto (-87), 3) := by decide +kernel
theorem dX1_drawPart_107 : decode cX1_drawPart 107 = .ok (.iload_n 3, 1) := by decide +kernel
theorem dX1_drawPart_108 : decode cX1_drawPart 108 = .ok (.ireturn, 1) := by decide +kernel
theorem kX1_85 : lkK (gS, X) RX1 85 mJ6_bitCount_0f7a4 1 ∧ Cond.static yJ6_bitCount_0f7a4 ∈ g_ws (gS, X) := ⟨⟨tb_good, (tb_t (k := 436) (w := Cond.methodLink RX1 85 yJ6_bitCount_0f7a4) (by decide +kernel)), (tb_t (k := 14) (w := Cond.initialized RJ6) (by decide +kernel)), (tb_t (k := 438) (w := Cond.code yJ6_bitCount_0f7a4 cJ6_bitCount_0f7a4 1 (some .int)) (by decide +kernel)), by decide +kernel, by decide⟩, (tb_t (k := 437) (w := Cond.static yJ6_bitCount_0f7a4) (by decide +kernel))⟩
theorem kX1_91 : lkK (gS, X) RX1 91 mX1_rank 2 ∧ Cond.static yX1_rank ∈ g_ws (gS, X) := ⟨⟨tb_good, (tb_t (k := 443) (w := Cond.methodLink RX1 91 yX1_rank) (by decide +kernel)), (tb_t (k := 2) (w := Cond.initialized RX1) (by decide +kernel)), (tb_t (k := 445) (w := Cond.code yX1_rank cX1_rank 2 (some .int)) (by decide +kernel)), by decide +kernel, by decide⟩, (tb_t (k := 444) (w := Cond.static yX1_rank) (by decide +kernel))⟩
theorem dX1_rank_0 : decode cX1_rank 0 = .ok (.iload_n 0, 1) := by decide +kernel
theorem dX1_rank_1 : decode cX1_rank 1 = .ok (.iconst 1, 1) := by decide +kernel
theorem dX1_rank_2 : decode cX1_rank 2 = .ok (.iload_n 1, 1) := by decide +kernel
theorem dX1_rank_3 : decode cX1_rank 3 = .ok (.ishl, 1) := by decide +kernel
theorem dX1_rank_4 : decode cX1_rank 4 = .ok (.iconst 1, 1) := by decide +kernel
theorem dX1_rank_5 : decode cX1_rank 5 = .ok (.isub, 1) := by decide +kernel
theorem dX1_rank_6 : decode cX1_rank 6 = .ok (.iand, 1) := by decide +kernel
theorem dX1_rank_7 : decode cX1_rank 7 = .ok (.invokestatic 85, 3) := by decide +kernel
theorem dX1_rank_10 : decode cX1_rank 10 = .ok (.ireturn, 1) := by decide +kernel
theorem dX1_drawSquared_0 : decode cX1_drawSquared 0 = .ok (.aload_n 0, 1) := by decide +kernel
theorem dX1_drawSquared_1 : decode cX1_drawSquared 1 = .ok (.aload_n 1, 1) := by decide +kernel
theorem dX1_drawSquared_2 : decode cX1_drawSquared 2 = .ok (.getfield 60, 3) := by decide +kernel
theorem dX1_drawSquared_5 : decode cX1_drawSquared 5 = .ok (.aload_n 1, 1) := by decide +kernel
theorem dX1_drawSquared_6 : decode cX1_drawSquared 6 = .ok (.getfield 61, 3) := by decide +kernel
theorem dX1_drawSquared_9 : decode cX1_drawSquared 9 = .ok (.invokevirtual 62, 3) := by decide +kernel
theorem dX1_drawSquared_12 : decode cX1_drawSquared 12 = .ok (.aload_n 0, 1) := by decide +kernel
theorem dX1_drawSquared_13 : decode cX1_drawSquared 13 = .ok (.aload_n 1, 1) := by decide +kernel
theorem dX1_drawSquared_14 : decode cX1_drawSquared 14 = .ok (.invokevirtual 95, 3) := by decide +kernel
theorem dX1_drawSquared_17 : decode cX1_drawSquared 17 = .ok (.iconst 0, 1) := by decide +kernel
theorem dX1_drawSquared_18 : decode cX1_drawSquared 18 = .ok (.istore_n 2, 1) := by decide +kernel
theorem dX1_drawSquared_19 : decode cX1_drawSquared 19 = .ok (.iload_n 2, 1) := by decide +kernel
theorem dX1_drawSquared_20 : decode cX1_drawSquared 20 = .ok (.aload_n 0, 1) := by decide +kernel
theorem dX1_drawSquared_21 : decode cX1_drawSquared 21 = .ok (.getfield 9, 3) := by decide +kernel
theorem dX1_drawSquared_24 : decode cX1_drawSquared 24 = .ok (.if_icmp .ge 69, 3) := by decide +kernel
theorem dX1_drawSquared_27 : decode cX1_drawSquared 27 = .ok (.aload_n 0, 1) := by decide +kernel
theorem dX1_drawSquared_28 : decode cX1_drawSquared 28 = .ok (.getfield 15, 3) := by decide +kernel
theorem dX1_drawSquared_31 : decode cX1_drawSquared 31 = .ok (.ifCond .eq 7, 3) := by decide +kernel
theorem dX1_drawSquared_34 : decode cX1_drawSquared 34 = .ok (.iconst 0, 1) := by decide +kernel
theorem dX1_drawSquared_35 : decode cX1_drawSquared 35 = .ok (.goto 4, 3) := by decide +kernel
theorem dX1_drawSquared_38 : decode cX1_drawSquared 38 = .ok (.iload_n 2, 1) := by decide +kernel
theorem dX1_drawSquared_39 : decode cX1_drawSquared 39 = .ok (.istore_n 3, 1) := by decide +kernel
theorem dX1_drawSquared_40 : decode cX1_drawSquared 40 = .ok (.iload_n 3, 1) := by decide +kernel
theorem dX1_drawSquared_41 : decode cX1_drawSquared 41 = .ok (.aload_n 0, 1) := by decide +kernel
theorem dX1_drawSquared_42 : decode cX1_drawSquared 42 = .ok (.getfield 9, 3) := by decide +kernel
theorem dX1_drawSquared_45 : decode cX1_drawSquared 45 = .ok (.if_icmp .ge 42, 3) := by decide +kernel
theorem dX1_drawSquared_48 : decode cX1_drawSquared 48 = .ok (.aload_n 0, 1) := by decide +kernel
theorem dX1_drawSquared_49 : decode cX1_drawSquared 49 = .ok (.iload_n 2, 1) := by decide +kernel
theorem dX1_drawSquared_50 : decode cX1_drawSquared 50 = .ok (.iload_n 3, 1) := by decide +kernel
theorem dX1_drawSquared_51 : decode cX1_drawSquared 51 = .ok (.invokevirtual 99, 3) := by decide +kernel
theorem dX1_drawSquared_54 : decode cX1_drawSquared 54 = .ok (.istore 4, 2) := by decide +kernel
theorem dX1_drawSquared_56 : decode cX1_drawSquared 56 = .ok (.iload 4, 2) := by decide +kernel
theorem dX1_drawSquared_58 : decode cX1_drawSquared 58 = .ok (.sipush 5000, 3) := by decide +kernel
theorem dX1_drawSquared_61 : decode cX1_drawSquared 61 = .ok (.if_icmp .ge 20, 3) := by decide +kernel
theorem dX1_drawSquared_64 : decode cX1_drawSquared 64 = .ok (.aload_n 0, 1) := by decide +kernel
theorem dX1_drawSquared_65 : decode cX1_drawSquared 65 = .ok (.iload_n 2, 1) := by decide +kernel
theorem dX1_drawSquared_66 : decode cX1_drawSquared 66 = .ok (.iload_n 3, 1) := by decide +kernel
theorem dX1_drawSquared_67 : decode cX1_drawSquared 67 = .ok (.iload 4, 2) := by decide +kernel
theorem dX1_drawSquared_69 : decode cX1_drawSquared 69 = .ok (.invokestatic 102, 3) := by decide +kernel
theorem dX1_drawSquared_72 : decode cX1_drawSquared 72 = .ok (.iconst 0, 1) := by decide +kernel
theorem dX1_drawSquared_73 : decode cX1_drawSquared 73 = .ok (.invokevirtual 74, 3) := by decide +kernel
theorem dX1_drawSquared_76 : decode cX1_drawSquared 76 = .ok (.ifCond .ne 5, 3) := by decide +kernel
theorem dX1_drawSquared_79 : decode cX1_drawSquared 79 = .ok (.iconst 0, 1) := by decide +kernel
theorem dX1_drawSquared_80 : decode cX1_drawSquared 80 = .ok (.ireturn, 1) := by decide +kernel
theorem dX1_drawSquared_81 : decode cX1_drawSquared 81 = .ok (.iinc 3 1, 3) := by decide +kernel
theorem dX1_drawSquared_84 : decode cX1_drawSquared 84 = .ok (.goto (-44), 3) := by decide +kernel
theorem dX1_drawSquared_87 : decode cX1_drawSquared 87 = .ok (.iinc 2 1, 3) := by decide +kernel
theorem dX1_drawSquared_90 : decode cX1_drawSquared 90 = .ok (.goto (-71), 3) := by decide +kernel
theorem dX1_drawSquared_93 : decode cX1_drawSquared 93 = .ok (.iconst 1, 1) := by decide +kernel
theorem dX1_drawSquared_94 : decode cX1_drawSquared 94 = .ok (.ireturn, 1) := by decide +kernel
theorem kX1_95 : lkK (gS, X) RX1 95 mX1_fillLightest 1 ∧ Cond.instanceMethod yX1_fillLightest ∈ g_ws (gS, X) ∧ Cond.selects RX1 yX1_fillLightest yX1_fillLightest ∈ g_ws (gS, X) ∧ yX1_fillLightest.cls = RX1 := ⟨⟨tb_good, (tb_t (k := 451) (w := Cond.methodLink RX1 95 yX1_fillLightest) (by decide +kernel)), (tb_t (k := 2) (w := Cond.initialized RX1) (by decide +kernel)), (tb_t (k := 454) (w := Cond.code yX1_fillLightest cX1_fillLightest 4 none) (by decide +kernel)), by decide +kernel, by decide⟩, (tb_t (k := 453) (w := Cond.instanceMethod yX1_fillLightest) (by decide +kernel)), (tb_p (k := 10) (q := (yX1_fillLightest, 8)) (by decide +kernel)), rfl⟩
theorem kX1_99 : lkK (gS, X) RX1 99 mX1_lightestOfTwo 2 ∧ Cond.instanceMethod yX1_lightestOfTwo ∈ g_ws (gS, X) ∧ Cond.selects RX1 yX1_lightestOfTwo yX1_lightestOfTwo ∈ g_ws (gS, X) ∧ yX1_lightestOfTwo.cls = RX1 := ⟨⟨tb_good, (tb_t (k := 459) (w := Cond.methodLink RX1 99 yX1_lightestOfTwo) (by decide +kernel)), (tb_t (k := 2) (w := Cond.initialized RX1) (by decide +kernel)), (tb_t (k := 462) (w := Cond.code yX1_lightestOfTwo cX1_lightestOfTwo 7 (some .int)) (by decide +kernel)), by decide +kernel, by decide⟩, (tb_t (k := 461) (w := Cond.instanceMethod yX1_lightestOfTwo) (by decide +kernel)), (tb_p (k := 11) (q := (yX1_lightestOfTwo, 8)) (by decide +kernel)), rfl⟩
theorem kX1_102 : lkK (gS, X) RX1 102 mX1_clamp 1 ∧ Cond.static yX1_clamp ∈ g_ws (gS, X) := ⟨⟨tb_good, (tb_t (k := 463) (w := Cond.methodLink RX1 102 yX1_clamp) (by decide +kernel)), (tb_t (k := 2) (w := Cond.initialized RX1) (by decide +kernel)), (tb_t (k := 465) (w := Cond.code yX1_clamp cX1_clamp 1 (some .int)) (by decide +kernel)), by decide +kernel, by decide⟩, (tb_t (k := 464) (w := Cond.static yX1_clamp) (by decide +kernel))⟩
theorem dX1_fillLightest_0 : decode cX1_fillLightest 0 = .ok (.aload_n 0, 1) := by decide +kernel
theorem dX1_fillLightest_1 : decode cX1_fillLightest 1 = .ok (.getfield 35, 3) := by decide +kernel
theorem dX1_fillLightest_4 : decode cX1_fillLightest 4 = .ok (.sipush 5000, 3) := by decide +kernel
theorem dX1_fillLightest_7 : decode cX1_fillLightest 7 = .ok (.invokestatic 105, 3) := by decide +kernel
theorem dX1_fillLightest_10 : decode cX1_fillLightest 10 = .ok (.iconst 0, 1) := by decide +kernel
theorem dX1_fillLightest_11 : decode cX1_fillLightest 11 = .ok (.istore_n 2, 1) := by decide +kernel
theorem dX1_fillLightest_12 : decode cX1_fillLightest 12 = .ok (.iload_n 2, 1) := by decide +kernel
theorem dX1_fillLightest_13 : decode cX1_fillLightest 13 = .ok (.aload_n 1, 1) := by decide +kernel
theorem dX1_fillLightest_14 : decode cX1_fillLightest 14 = .ok (.getfield 111, 3) := by decide +kernel
theorem dX1_fillLightest_17 : decode cX1_fillLightest 17 = .ok (.if_icmp .ge 52, 3) := by decide +kernel
theorem dX1_fillLightest_20 : decode cX1_fillLightest 20 = .ok (.aload_n 1, 1) := by decide +kernel
theorem dX1_fillLightest_21 : decode cX1_fillLightest 21 = .ok (.getfield 114, 3) := by decide +kernel
theorem dX1_fillLightest_24 : decode cX1_fillLightest 24 = .ok (.iload_n 2, 1) := by decide +kernel
theorem dX1_fillLightest_25 : decode cX1_fillLightest 25 = .ok (.iaload, 1) := by decide +kernel
theorem dX1_fillLightest_26 : decode cX1_fillLightest 26 = .ok (.bipush 16, 2) := by decide +kernel
theorem dX1_fillLightest_28 : decode cX1_fillLightest 28 = .ok (.imul, 1) := by decide +kernel
theorem dX1_fillLightest_29 : decode cX1_fillLightest 29 = .ok (.aload_n 1, 1) := by decide +kernel
theorem dX1_fillLightest_30 : decode cX1_fillLightest 30 = .ok (.getfield 117, 3) := by decide +kernel
theorem dX1_fillLightest_33 : decode cX1_fillLightest 33 = .ok (.iload_n 2, 1) := by decide +kernel
theorem dX1_fillLightest_34 : decode cX1_fillLightest 34 = .ok (.iaload, 1) := by decide +kernel
theorem dX1_fillLightest_35 : decode cX1_fillLightest 35 = .ok (.iadd, 1) := by decide +kernel
theorem dX1_fillLightest_36 : decode cX1_fillLightest 36 = .ok (.istore_n 3, 1) := by decide +kernel
theorem dX1_fillLightest_37 : decode cX1_fillLightest 37 = .ok (.aload_n 0, 1) := by decide +kernel
theorem dX1_fillLightest_38 : decode cX1_fillLightest 38 = .ok (.getfield 35, 3) := by decide +kernel
theorem dX1_fillLightest_41 : decode cX1_fillLightest 41 = .ok (.iload_n 3, 1) := by decide +kernel
theorem dX1_fillLightest_42 : decode cX1_fillLightest 42 = .ok (.aload_n 0, 1) := by decide +kernel
theorem dX1_fillLightest_43 : decode cX1_fillLightest 43 = .ok (.getfield 35, 3) := by decide +kernel
theorem dX1_fillLightest_46 : decode cX1_fillLightest 46 = .ok (.iload_n 3, 1) := by decide +kernel
theorem dX1_fillLightest_47 : decode cX1_fillLightest 47 = .ok (.iaload, 1) := by decide +kernel
theorem dX1_fillLightest_48 : decode cX1_fillLightest 48 = .ok (.aload_n 1, 1) := by decide +kernel
theorem dX1_fillLightest_49 : decode cX1_fillLightest 49 = .ok (.getfield 72, 3) := by decide +kernel
theorem dX1_fillLightest_52 : decode cX1_fillLightest 52 = .ok (.aload_n 1, 1) := by decide +kernel
theorem dX1_fillLightest_53 : decode cX1_fillLightest 53 = .ok (.getfield 120, 3) := by decide +kernel
theorem dX1_fillLightest_56 : decode cX1_fillLightest 56 = .ok (.iload_n 2, 1) := by decide +kernel
theorem dX1_fillLightest_57 : decode cX1_fillLightest 57 = .ok (.iaload, 1) := by decide +kernel
theorem dX1_fillLightest_58 : decode cX1_fillLightest 58 = .ok (.iaload, 1) := by decide +kernel
theorem dX1_fillLightest_59 : decode cX1_fillLightest 59 = .ok (.invokestatic 123, 3) := by decide +kernel
theorem dX1_fillLightest_62 : decode cX1_fillLightest 62 = .ok (.iastore, 1) := by decide +kernel
theorem dX1_fillLightest_63 : decode cX1_fillLightest 63 = .ok (.iinc 2 1, 3) := by decide +kernel
theorem dX1_fillLightest_66 : decode cX1_fillLightest 66 = .ok (.goto (-54), 3) := by decide +kernel
theorem dX1_fillLightest_69 : decode cX1_fillLightest 69 = .ok (.return_, 1) := by decide +kernel
theorem kX1_105 : lkK (gS, X) RX1 105 mJ7_fill_53178 2 ∧ Cond.static yJ7_fill_53178 ∈ g_ws (gS, X) := ⟨⟨tb_good, (tb_t (k := 455) (w := Cond.methodLink RX1 105 yJ7_fill_53178) (by decide +kernel)), (tb_t (k := 11) (w := Cond.initialized RJ7) (by decide +kernel)), (tb_t (k := 457) (w := Cond.code yJ7_fill_53178 cJ7_fill_53178 4 none) (by decide +kernel)), by decide +kernel, by decide⟩, (tb_t (k := 456) (w := Cond.static yJ7_fill_53178) (by decide +kernel))⟩
theorem fX1_111 : lkF (gS, X) RX1 111 3 7 "GraphEngine$Graph" RX3 TX3 14 := ⟨rfl, inX3, by decide, (tb_t (k := 321) (w := Cond.fieldLink RX1 111 "GraphEngine$Graph" "goings" "I") (by decide +kernel)), Or.inl rfl⟩
theorem fX1_114 : lkF (gS, X) RX1 114 3 8 "GraphEngine$Graph" RX3 TX3 14 := ⟨rfl, inX3, by decide, (tb_t (k := 326) (w := Cond.fieldLink RX1 114 "GraphEngine$Graph" "tail" "[I") (by decide +kernel)), Or.inl rfl⟩
theorem fX1_117 : lkF (gS, X) RX1 117 3 9 "GraphEngine$Graph" RX3 TX3 14 := ⟨rfl, inX3, by decide, (tb_t (k := 331) (w := Cond.fieldLink RX1 117 "GraphEngine$Graph" "head" "[I") (by decide +kernel)), Or.inl rfl⟩
theorem fX1_120 : lkF (gS, X) RX1 120 3 10 "GraphEngine$Graph" RX3 TX3 14 := ⟨rfl, inX3, by decide, (tb_t (k := 336) (w := Cond.fieldLink RX1 120 "GraphEngine$Graph" "by" "[I") (by decide +kernel)), Or.inl rfl⟩
theorem kX1_123 : lkK (gS, X) RX1 123 mJ9_min_7cf53 2 ∧ Cond.static yJ9_min_7cf53 ∈ g_ws (gS, X) := ⟨⟨tb_good, (tb_t (k := 458) (w := Cond.methodLink RX1 123 yJ9_min_7cf53) (by decide +kernel)), (tb_t (k := 12) (w := Cond.initialized RJ9) (by decide +kernel)), (tb_t (k := 269) (w := Cond.code yJ9_min_7cf53 cJ9_min_7cf53 2 (some .int)) (by decide +kernel)), by decide +kernel, by decide⟩, (tb_t (k := 268) (w := Cond.static yJ9_min_7cf53) (by decide +kernel))⟩
theorem dX1_lightestOfTwo_0 : decode cX1_lightestOfTwo 0 = .ok (.sipush 5000, 3) := by decide +kernel
theorem dX1_lightestOfTwo_3 : decode cX1_lightestOfTwo 3 = .ok (.istore_n 3, 1) := by decide +kernel
theorem dX1_lightestOfTwo_4 : decode cX1_lightestOfTwo 4 = .ok (.iconst 0, 1) := by decide +kernel
theorem dX1_lightestOfTwo_5 : decode cX1_lightestOfTwo 5 = .ok (.istore 4, 2) := by decide +kernel
theorem dX1_lightestOfTwo_7 : decode cX1_lightestOfTwo 7 = .ok (.iload 4, 2) := by decide +kernel
theorem dX1_lightestOfTwo_9 : decode cX1_lightestOfTwo 9 = .ok (.aload_n 0, 1) := by decide +kernel
theorem dX1_lightestOfTwo_10 : decode cX1_lightestOfTwo 10 = .ok (.getfield 9, 3) := by decide +kernel
theorem dX1_lightestOfTwo_13 : decode cX1_lightestOfTwo 13 = .ok (.if_icmp .ge 63, 3) := by decide +kernel
theorem dX1_lightestOfTwo_16 : decode cX1_lightestOfTwo 16 = .ok (.aload_n 0, 1) := by decide +kernel
theorem dX1_lightestOfTwo_17 : decode cX1_lightestOfTwo 17 = .ok (.getfield 35, 3) := by decide +kernel
theorem dX1_lightestOfTwo_20 : decode cX1_lightestOfTwo 20 = .ok (.iload_n 1, 1) := by decide +kernel
theorem dX1_lightestOfTwo_21 : decode cX1_lightestOfTwo 21 = .ok (.bipush 16, 2) := by decide +kernel
theorem dX1_lightestOfTwo_23 : decode cX1_lightestOfTwo 23 = .ok (.imul, 1) := by decide +kernel
theorem dX1_lightestOfTwo_24 : decode cX1_lightestOfTwo 24 = .ok (.iload 4, 2) := by decide +kernel
theorem dX1_lightestOfTwo_26 : decode cX1_lightestOfTwo 26 = .ok (.iadd, 1) := by decide +kernel
theorem dX1_lightestOfTwo_27 : decode cX1_lightestOfTwo 27 = .ok (.iaload, 1) := by decide +kernel
theorem dX1_lightestOfTwo_28 : decode cX1_lightestOfTwo 28 = .ok (.istore 5, 2) := by decide +kernel
theorem dX1_lightestOfTwo_30 : decode cX1_lightestOfTwo 30 = .ok (.aload_n 0, 1) := by decide +kernel
theorem dX1_lightestOfTwo_31 : decode cX1_lightestOfTwo 31 = .ok (.getfield 35, 3) := by decide +kernel
theorem dX1_lightestOfTwo_34 : decode cX1_lightestOfTwo 34 = .ok (.iload 4, 2) := by decide +kernel
theorem dX1_lightestOfTwo_36 : decode cX1_lightestOfTwo 36 = .ok (.bipush 16, 2) := by decide +kernel
theorem dX1_lightestOfTwo_38 : decode cX1_lightestOfTwo 38 = .ok (.imul, 1) := by decide +kernel
theorem dX1_lightestOfTwo_39 : decode cX1_lightestOfTwo 39 = .ok (.iload_n 2, 1) := by decide +kernel
theorem dX1_lightestOfTwo_40 : decode cX1_lightestOfTwo 40 = .ok (.iadd, 1) := by decide +kernel
theorem dX1_lightestOfTwo_41 : decode cX1_lightestOfTwo 41 = .ok (.iaload, 1) := by decide +kernel
theorem dX1_lightestOfTwo_42 : decode cX1_lightestOfTwo 42 = .ok (.istore 6, 2) := by decide +kernel
theorem dX1_lightestOfTwo_44 : decode cX1_lightestOfTwo 44 = .ok (.iload 5, 2) := by decide +kernel
theorem dX1_lightestOfTwo_46 : decode cX1_lightestOfTwo 46 = .ok (.sipush 5000, 3) := by decide +kernel
theorem dX1_lightestOfTwo_49 : decode cX1_lightestOfTwo 49 = .ok (.if_icmp .ge 21, 3) := by decide +kernel
theorem dX1_lightestOfTwo_52 : decode cX1_lightestOfTwo 52 = .ok (.iload 6, 2) := by decide +kernel
theorem dX1_lightestOfTwo_54 : decode cX1_lightestOfTwo 54 = .ok (.sipush 5000, 3) := by decide +kernel
theorem dX1_lightestOfTwo_57 : decode cX1_lightestOfTwo 57 = .ok (.if_icmp .ge 13, 3) := by decide +kernel
theorem dX1_lightestOfTwo_60 : decode cX1_lightestOfTwo 60 = .ok (.iload_n 3, 1) := by decide +kernel
theorem dX1_lightestOfTwo_61 : decode cX1_lightestOfTwo 61 = .ok (.iload 5, 2) := by decide +kernel
theorem dX1_lightestOfTwo_63 : decode cX1_lightestOfTwo 63 = .ok (.iload 6, 2) := by decide +kernel
theorem dX1_lightestOfTwo_65 : decode cX1_lightestOfTwo 65 = .ok (.iadd, 1) := by decide +kernel
theorem dX1_lightestOfTwo_66 : decode cX1_lightestOfTwo 66 = .ok (.invokestatic 123, 3) := by decide +kernel
theorem dX1_lightestOfTwo_69 : decode cX1_lightestOfTwo 69 = .ok (.istore_n 3, 1) := by decide +kernel
theorem dX1_lightestOfTwo_70 : decode cX1_lightestOfTwo 70 = .ok (.iinc 4 1, 3) := by decide +kernel
theorem dX1_lightestOfTwo_73 : decode cX1_lightestOfTwo 73 = .ok (.goto (-66), 3) := by decide +kernel
theorem dX1_lightestOfTwo_76 : decode cX1_lightestOfTwo 76 = .ok (.iload_n 3, 1) := by decide +kernel
theorem dX1_lightestOfTwo_77 : decode cX1_lightestOfTwo 77 = .ok (.ireturn, 1) := by decide +kernel
theorem dX1_clamp_0 : decode cX1_clamp 0 = .ok (.sipush (-1000), 3) := by decide +kernel
theorem dX1_clamp_3 : decode cX1_clamp 3 = .ok (.sipush 1000, 3) := by decide +kernel
theorem dX1_clamp_6 : decode cX1_clamp 6 = .ok (.iload_n 0, 1) := by decide +kernel
theorem dX1_clamp_7 : decode cX1_clamp 7 = .ok (.invokestatic 123, 3) := by decide +kernel
theorem dX1_clamp_10 : decode cX1_clamp 10 = .ok (.invokestatic 128, 3) := by decide +kernel
theorem dX1_clamp_13 : decode cX1_clamp 13 = .ok (.ireturn, 1) := by decide +kernel
theorem kX1_128 : lkK (gS, X) RX1 128 mJ9_max_7cf53 2 ∧ Cond.static yJ9_max_7cf53 ∈ g_ws (gS, X) := ⟨⟨tb_good, (tb_t (k := 466) (w := Cond.methodLink RX1 128 yJ9_max_7cf53) (by decide +kernel)), (tb_t (k := 12) (w := Cond.initialized RJ9) (by decide +kernel)), (tb_t (k := 468) (w := Cond.code yJ9_max_7cf53 cJ9_max_7cf53 2 (some .int)) (by decide +kernel)), by decide +kernel, by decide⟩, (tb_t (k := 467) (w := Cond.static yJ9_max_7cf53) (by decide +kernel))⟩
theorem dX1_drawLines_0 : decode cX1_drawLines 0 = .ok (.aload_n 0, 1) := by decide +kernel
theorem dX1_drawLines_1 : decode cX1_drawLines 1 = .ok (.aload_n 1, 1) := by decide +kernel
theorem dX1_drawLines_2 : decode cX1_drawLines 2 = .ok (.getfield 44, 3) := by decide +kernel
theorem dX1_drawLines_5 : decode cX1_drawLines 5 = .ok (.aload_n 1, 1) := by decide +kernel
theorem dX1_drawLines_6 : decode cX1_drawLines 6 = .ok (.getfield 61, 3) := by decide +kernel
theorem dX1_drawLines_9 : decode cX1_drawLines 9 = .ok (.invokevirtual 62, 3) := by decide +kernel
theorem dX1_drawLines_12 : decode cX1_drawLines 12 = .ok (.iconst 0, 1) := by decide +kernel
theorem dX1_drawLines_13 : decode cX1_drawLines 13 = .ok (.istore_n 2, 1) := by decide +kernel
theorem dX1_drawLines_14 : decode cX1_drawLines 14 = .ok (.iload_n 2, 1) := by decide +kernel
theorem dX1_drawLines_15 : decode cX1_drawLines 15 = .ok (.aload_n 1, 1) := by decide +kernel
theorem dX1_drawLines_16 : decode cX1_drawLines 16 = .ok (.getfield 44, 3) := by decide +kernel
theorem dX1_drawLines_19 : decode cX1_drawLines 19 = .ok (.if_icmp .ge 94, 3) := by decide +kernel
theorem dX1_drawLines_22 : decode cX1_drawLines 22 = .ok (.aload_n 0, 1) := by decide +kernel
theorem dX1_drawLines_23 : decode cX1_drawLines 23 = .ok (.getfield 15, 3) := by decide +kernel
theorem dX1_drawLines_26 : decode cX1_drawLines 26 = .ok (.ifCond .eq 7, 3) := by decide +kernel
theorem dX1_drawLines_29 : decode cX1_drawLines 29 = .ok (.iconst 0, 1) := by decide +kernel
theorem dX1_drawLines_30 : decode cX1_drawLines 30 = .ok (.goto 6, 3) := by decide +kernel
theorem dX1_drawLines_33 : decode cX1_drawLines 33 = .ok (.iload_n 2, 1) := by decide +kernel
theorem dX1_drawLines_34 : decode cX1_drawLines 34 = .ok (.iconst 1, 1) := by decide +kernel
theorem dX1_drawLines_35 : decode cX1_drawLines 35 = .ok (.iadd, 1) := by decide +kernel
theorem dX1_drawLines_36 : decode cX1_drawLines 36 = .ok (.istore_n 3, 1) := by decide +kernel
theorem dX1_drawLines_37 : decode cX1_drawLines 37 = .ok (.iload_n 3, 1) := by decide +kernel
theorem dX1_drawLines_38 : decode cX1_drawLines 38 = .ok (.aload_n 1, 1) := by decide +kernel
theorem dX1_drawLines_39 : decode cX1_drawLines 39 = .ok (.getfield 44, 3) := by decide +kernel
theorem dX1_drawLines_42 : decode cX1_drawLines 42 = .ok (.if_icmp .ge 65, 3) := by decide +kernel
theorem dX1_drawLines_45 : decode cX1_drawLines 45 = .ok (.aload_n 0, 1) := by decide +kernel
theorem dX1_drawLines_46 : decode cX1_drawLines 46 = .ok (.getfield 15, 3) := by decide +kernel
theorem dX1_drawLines_49 : decode cX1_drawLines 49 = .ok (.ifCond .eq 26, 3) := by decide +kernel
theorem dX1_drawLines_52 : decode cX1_drawLines 52 = .ok (.aload_n 1, 1) := by decide +kernel
theorem dX1_drawLines_53 : decode cX1_drawLines 53 = .ok (.getfield 70, 3) := by decide +kernel
theorem dX1_drawLines_56 : decode cX1_drawLines 56 = .ok (.iload_n 2, 1) := by decide +kernel
theorem dX1_drawLines_57 : decode cX1_drawLines 57 = .ok (.iaload, 1) := by decide +kernel
theorem dX1_drawLines_58 : decode cX1_drawLines 58 = .ok (.aload_n 1, 1) := by decide +kernel
theorem dX1_drawLines_59 : decode cX1_drawLines 59 = .ok (.getfield 71, 3) := by decide +kernel
theorem dX1_drawLines_62 : decode cX1_drawLines 62 = .ok (.iload_n 3, 1) := by decide +kernel
theorem dX1_drawLines_63 : decode cX1_drawLines 63 = .ok (.iaload, 1) := by decide +kernel
theorem dX1_drawLines_64 : decode cX1_drawLines 64 = .ok (.if_icmp .ne 7, 3) := by decide +kernel
theorem dX1_drawLines_67 : decode cX1_drawLines 67 = .ok (.iconst 1, 1) := by decide +kernel
theorem dX1_drawLines_68 : decode cX1_drawLines 68 = .ok (.goto 13, 3) := by decide +kernel
theorem dX1_drawLines_71 : decode cX1_drawLines 71 = .ok (.iconst 0, 1) := by decide +kernel
theorem dX1_drawLines_72 : decode cX1_drawLines 72 = .ok (.goto 9, 3) := by decide +kernel
theorem dX1_drawLines_75 : decode cX1_drawLines 75 = .ok (.aload_n 1, 1) := by decide +kernel
theorem dX1_drawLines_76 : decode cX1_drawLines 76 = .ok (.iload_n 2, 1) := by decide +kernel
theorem dX1_drawLines_77 : decode cX1_drawLines 77 = .ok (.iload_n 3, 1) := by decide +kernel
theorem dX1_drawLines_78 : decode cX1_drawLines 78 = .ok (.invokevirtual 131, 3) := by decide +kernel
theorem dX1_drawLines_81 : decode cX1_drawLines 81 = .ok (.istore 4, 2) := by decide +kernel
theorem dX1_drawLines_83 : decode cX1_drawLines 83 = .ok (.iload 4, 2) := by decide +kernel
theorem dX1_drawLines_85 : decode cX1_drawLines 85 = .ok (.ifCond .eq 16, 3) := by decide +kernel
theorem dX1_drawLines_88 : decode cX1_drawLines 88 = .ok (.aload_n 0, 1) := by decide +kernel
theorem dX1_drawLines_89 : decode cX1_drawLines 89 = .ok (.iload_n 2, 1) := by decide +kernel
theorem dX1_drawLines_90 : decode cX1_drawLines 90 = .ok (.iload_n 3, 1) := by decide +kernel
theorem dX1_drawLines_91 : decode cX1_drawLines 91 = .ok (.iconst 0, 1) := by decide +kernel
theorem dX1_drawLines_92 : decode cX1_drawLines 92 = .ok (.iconst 0, 1) := by decide +kernel
theorem dX1_drawLines_93 : decode cX1_drawLines 93 = .ok (.invokevirtual 74, 3) := by decide +kernel
theorem dX1_drawLines_96 : decode cX1_drawLines 96 = .ok (.ifCond .ne 5, 3) := by decide +kernel
theorem dX1_drawLines_99 : decode cX1_drawLines 99 = .ok (.iconst 0, 1) := by decide +kernel
theorem dX1_drawLines_100 : decode cX1_drawLines 100 = .ok (.ireturn, 1) := by decide +kernel
theorem dX1_drawLines_101 : decode cX1_drawLines 101 = .ok (.iinc 3 1, 3) := by decide +kernel
theorem dX1_drawLines_104 : decode cX1_drawLines 104 = .ok (.goto (-67), 3) := by decide +kernel
theorem dX1_drawLines_107 : decode cX1_drawLines 107 = .ok (.iinc 2 1, 3) := by decide +kernel
theorem dX1_drawLines_110 : decode cX1_drawLines 110 = .ok (.goto (-96), 3) := by decide +kernel
theorem dX1_drawLines_113 : decode cX1_drawLines 113 = .ok (.iconst 1, 1) := by decide +kernel
theorem dX1_drawLines_114 : decode cX1_drawLines 114 = .ok (.ireturn, 1) := by decide +kernel
theorem kX1_131 : lkK (gS, X) RX1 131 mX3_shareNode 2 ∧ Cond.instanceMethod yX3_shareNode ∈ g_ws (gS, X) ∧ Cond.selects RX3 yX3_shareNode yX3_shareNode ∈ g_ws (gS, X) ∧ yX3_shareNode.cls = RX3 := ⟨⟨tb_good, (tb_t (k := 473) (w := Cond.methodLink RX1 131 yX3_shareNode) (by decide +kernel)), (tb_t (k := 10) (w := Cond.initialized RX3) (by decide +kernel)), (tb_t (k := 476) (w := Cond.code yX3_shareNode cX3_shareNode 3 (some .boolean)) (by decide +kernel)), by decide +kernel, by decide⟩, (tb_t (k := 474) (w := Cond.instanceMethod yX3_shareNode) (by decide +kernel)), (tb_t (k := 475) (w := Cond.selects RX3 yX3_shareNode yX3_shareNode) (by decide +kernel)), rfl⟩
theorem dX1_drawBoth_0 : decode cX1_drawBoth 0 = .ok (.aload_n 0, 1) := by decide +kernel
theorem dX1_drawBoth_1 : decode cX1_drawBoth 1 = .ok (.aload_n 1, 1) := by decide +kernel
theorem dX1_drawBoth_2 : decode cX1_drawBoth 2 = .ok (.getfield 60, 3) := by decide +kernel
theorem dX1_drawBoth_5 : decode cX1_drawBoth 5 = .ok (.aload_n 2, 1) := by decide +kernel
theorem dX1_drawBoth_6 : decode cX1_drawBoth 6 = .ok (.getfield 60, 3) := by decide +kernel
theorem dX1_drawBoth_9 : decode cX1_drawBoth 9 = .ok (.iadd, 1) := by decide +kernel
theorem dX1_drawBoth_10 : decode cX1_drawBoth 10 = .ok (.aload_n 1, 1) := by decide +kernel
theorem dX1_drawBoth_11 : decode cX1_drawBoth 11 = .ok (.getfield 61, 3) := by decide +kernel
theorem dX1_drawBoth_14 : decode cX1_drawBoth 14 = .ok (.invokevirtual 62, 3) := by decide +kernel
theorem dX1_drawBoth_17 : decode cX1_drawBoth 17 = .ok (.iconst 0, 1) := by decide +kernel
theorem dX1_drawBoth_18 : decode cX1_drawBoth 18 = .ok (.istore_n 3, 1) := by decide +kernel
theorem dX1_drawBoth_19 : decode cX1_drawBoth 19 = .ok (.iload_n 3, 1) := by decide +kernel
theorem dX1_drawBoth_20 : decode cX1_drawBoth 20 = .ok (.aload_n 1, 1) := by decide +kernel
theorem dX1_drawBoth_21 : decode cX1_drawBoth 21 = .ok (.getfield 44, 3) := by decide +kernel
theorem dX1_drawBoth_24 : decode cX1_drawBoth 24 = .ok (.if_icmp .ge 38, 3) := by decide +kernel
theorem dX1_drawBoth_27 : decode cX1_drawBoth 27 = .ok (.aload_n 0, 1) := by decide +kernel
theorem dX1_drawBoth_28 : decode cX1_drawBoth 28 = .ok (.aload_n 1, 1) := by decide +kernel
theorem dX1_drawBoth_29 : decode cX1_drawBoth 29 = .ok (.getfield 71, 3) := by decide +kernel
theorem dX1_drawBoth_32 : decode cX1_drawBoth 32 = .ok (.iload_n 3, 1) := by decide +kernel
theorem dX1_drawBoth_33 : decode cX1_drawBoth 33 = .ok (.iaload, 1) := by decide +kernel
theorem dX1_drawBoth_34 : decode cX1_drawBoth 34 = .ok (.aload_n 1, 1) := by decide +kernel
theorem dX1_drawBoth_35 : decode cX1_drawBoth 35 = .ok (.getfield 70, 3) := by decide +kernel
theorem dX1_drawBoth_38 : decode cX1_drawBoth 38 = .ok (.iload_n 3, 1) := by decide +kernel
theorem dX1_drawBoth_39 : decode cX1_drawBoth 39 = .ok (.iaload, 1) := by decide +kernel
theorem dX1_drawBoth_40 : decode cX1_drawBoth 40 = .ok (.aload_n 1, 1) := by decide +kernel
theorem dX1_drawBoth_41 : decode cX1_drawBoth 41 = .ok (.getfield 72, 3) := by decide +kernel
theorem dX1_drawBoth_44 : decode cX1_drawBoth 44 = .ok (.iload_n 3, 1) := by decide +kernel
theorem dX1_drawBoth_45 : decode cX1_drawBoth 45 = .ok (.iaload, 1) := by decide +kernel
theorem dX1_drawBoth_46 : decode cX1_drawBoth 46 = .ok (.aload_n 1, 1) := by decide +kernel
theorem dX1_drawBoth_47 : decode cX1_drawBoth 47 = .ok (.getfield 73, 3) := by decide +kernel
theorem dX1_drawBoth_50 : decode cX1_drawBoth 50 = .ok (.iload_n 3, 1) := by decide +kernel
theorem dX1_drawBoth_51 : decode cX1_drawBoth 51 = .ok (.iaload, 1) := by decide +kernel
theorem dX1_drawBoth_52 : decode cX1_drawBoth 52 = .ok (.invokevirtual 74, 3) := by decide +kernel
theorem dX1_drawBoth_55 : decode cX1_drawBoth 55 = .ok (.pop, 1) := by decide +kernel
theorem dX1_drawBoth_56 : decode cX1_drawBoth 56 = .ok (.iinc 3 1, 3) := by decide +kernel
theorem dX1_drawBoth_59 : decode cX1_drawBoth 59 = .ok (.goto (-40), 3) := by decide +kernel
theorem dX1_drawBoth_62 : decode cX1_drawBoth 62 = .ok (.iconst 0, 1) := by decide +kernel
theorem dX1_drawBoth_63 : decode cX1_drawBoth 63 = .ok (.istore_n 3, 1) := by decide +kernel
theorem dX1_drawBoth_64 : decode cX1_drawBoth 64 = .ok (.iload_n 3, 1) := by decide +kernel
theorem dX1_drawBoth_65 : decode cX1_drawBoth 65 = .ok (.aload_n 2, 1) := by decide +kernel
theorem dX1_drawBoth_66 : decode cX1_drawBoth 66 = .ok (.getfield 44, 3) := by decide +kernel
theorem dX1_drawBoth_69 : decode cX1_drawBoth 69 = .ok (.if_icmp .ge 48, 3) := by decide +kernel
theorem dX1_drawBoth_72 : decode cX1_drawBoth 72 = .ok (.aload_n 0, 1) := by decide +kernel
theorem dX1_drawBoth_73 : decode cX1_drawBoth 73 = .ok (.aload_n 1, 1) := by decide +kernel
theorem dX1_drawBoth_74 : decode cX1_drawBoth 74 = .ok (.getfield 60, 3) := by decide +kernel
theorem dX1_drawBoth_77 : decode cX1_drawBoth 77 = .ok (.aload_n 2, 1) := by decide +kernel
theorem dX1_drawBoth_78 : decode cX1_drawBoth 78 = .ok (.getfield 71, 3) := by decide +kernel
theorem dX1_drawBoth_81 : decode cX1_drawBoth 81 = .ok (.iload_n 3, 1) := by decide +kernel
theorem dX1_drawBoth_82 : decode cX1_drawBoth 82 = .ok (.iaload, 1) := by decide +kernel
theorem dX1_drawBoth_83 : decode cX1_drawBoth 83 = .ok (.iadd, 1) := by decide +kernel
theorem dX1_drawBoth_84 : decode cX1_drawBoth 84 = .ok (.aload_n 1, 1) := by decide +kernel
theorem dX1_drawBoth_85 : decode cX1_drawBoth 85 = .ok (.getfield 60, 3) := by decide +kernel
theorem dX1_drawBoth_88 : decode cX1_drawBoth 88 = .ok (.aload_n 2, 1) := by decide +kernel
theorem dX1_drawBoth_89 : decode cX1_drawBoth 89 = .ok (.getfield 70, 3) := by decide +kernel
theorem dX1_drawBoth_92 : decode cX1_drawBoth 92 = .ok (.iload_n 3, 1) := by decide +kernel
theorem dX1_drawBoth_93 : decode cX1_drawBoth 93 = .ok (.iaload, 1) := by decide +kernel
theorem dX1_drawBoth_94 : decode cX1_drawBoth 94 = .ok (.iadd, 1) := by decide +kernel
theorem dX1_drawBoth_95 : decode cX1_drawBoth 95 = .ok (.aload_n 2, 1) := by decide +kernel
theorem dX1_drawBoth_96 : decode cX1_drawBoth 96 = .ok (.getfield 72, 3) := by decide +kernel
theorem dX1_drawBoth_99 : decode cX1_drawBoth 99 = .ok (.iload_n 3, 1) := by decide +kernel
theorem dX1_drawBoth_100 : decode cX1_drawBoth 100 = .ok (.iaload, 1) := by decide +kernel
theorem dX1_drawBoth_101 : decode cX1_drawBoth 101 = .ok (.aload_n 2, 1) := by decide +kernel
theorem dX1_drawBoth_102 : decode cX1_drawBoth 102 = .ok (.getfield 73, 3) := by decide +kernel
theorem dX1_drawBoth_105 : decode cX1_drawBoth 105 = .ok (.iload_n 3, 1) := by decide +kernel
theorem dX1_drawBoth_106 : decode cX1_drawBoth 106 = .ok (.iaload, 1) := by decide +kernel
theorem dX1_drawBoth_107 : decode cX1_drawBoth 107 = .ok (.invokevirtual 74, 3) := by decide +kernel
theorem dX1_drawBoth_110 : decode cX1_drawBoth 110 = .ok (.pop, 1) := by decide +kernel
theorem dX1_drawBoth_111 : decode cX1_drawBoth 111 = .ok (.iinc 3 1, 3) := by decide +kernel
theorem dX1_drawBoth_114 : decode cX1_drawBoth 114 = .ok (.goto (-50), 3) := by decide +kernel
theorem dX1_drawBoth_117 : decode cX1_drawBoth 117 = .ok (.return_, 1) := by decide +kernel
theorem dX1_drawMelted_0 : decode cX1_drawMelted 0 = .ok (.aload_n 0, 1) := by decide +kernel
theorem dX1_drawMelted_1 : decode cX1_drawMelted 1 = .ok (.aload_n 2, 1) := by decide +kernel
theorem dX1_drawMelted_2 : decode cX1_drawMelted 2 = .ok (.getfield 134, 3) := by decide +kernel
theorem dX1_drawMelted_5 : decode cX1_drawMelted 5 = .ok (.aload_n 1, 1) := by decide +kernel
theorem dX1_drawMelted_6 : decode cX1_drawMelted 6 = .ok (.getfield 61, 3) := by decide +kernel
theorem dX1_drawMelted_9 : decode cX1_drawMelted 9 = .ok (.invokevirtual 62, 3) := by decide +kernel
theorem dX1_drawMelted_12 : decode cX1_drawMelted 12 = .ok (.iconst 0, 1) := by decide +kernel
theorem dX1_drawMelted_13 : decode cX1_drawMelted 13 = .ok (.istore_n 3, 1) := by decide +kernel
theorem dX1_drawMelted_14 : decode cX1_drawMelted 14 = .ok (.iload_n 3, 1) := by decide +kernel
theorem dX1_drawMelted_15 : decode cX1_drawMelted 15 = .ok (.aload_n 1, 1) := by decide +kernel
theorem dX1_drawMelted_16 : decode cX1_drawMelted 16 = .ok (.getfield 44, 3) := by decide +kernel
theorem dX1_drawMelted_19 : decode cX1_drawMelted 19 = .ok (.if_icmp .ge 63, 3) := by decide +kernel
theorem dX1_drawMelted_22 : decode cX1_drawMelted 22 = .ok (.aload_n 2, 1) := by decide +kernel
theorem dX1_drawMelted_23 : decode cX1_drawMelted 23 = .ok (.getfield 139, 3) := by decide +kernel
theorem dX1_drawMelted_26 : decode cX1_drawMelted 26 = .ok (.aload_n 1, 1) := by decide +kernel
theorem dX1_drawMelted_27 : decode cX1_drawMelted 27 = .ok (.getfield 71, 3) := by decide +kernel
theorem dX1_drawMelted_30 : decode cX1_drawMelted 30 = .ok (.iload_n 3, 1) := by decide +kernel
theorem dX1_drawMelted_31 : decode cX1_drawMelted 31 = .ok (.iaload, 1) := by decide +kernel
theorem dX1_drawMelted_32 : decode cX1_drawMelted 32 = .ok (.iaload, 1) := by decide +kernel
theorem dX1_drawMelted_33 : decode cX1_drawMelted 33 = .ok (.istore 4, 2) := by decide +kernel
theorem dX1_drawMelted_35 : decode cX1_drawMelted 35 = .ok (.aload_n 2, 1) := by decide +kernel
theorem dX1_drawMelted_36 : decode cX1_drawMelted 36 = .ok (.getfield 139, 3) := by decide +kernel
theorem dX1_drawMelted_39 : decode cX1_drawMelted 39 = .ok (.aload_n 1, 1) := by decide +kernel
theorem dX1_drawMelted_40 : decode cX1_drawMelted 40 = .ok (.getfield 70, 3) := by decide +kernel
theorem dX1_drawMelted_43 : decode cX1_drawMelted 43 = .ok (.iload_n 3, 1) := by decide +kernel
theorem dX1_drawMelted_44 : decode cX1_drawMelted 44 = .ok (.iaload, 1) := by decide +kernel
theorem dX1_drawMelted_45 : decode cX1_drawMelted 45 = .ok (.iaload, 1) := by decide +kernel
theorem dX1_drawMelted_46 : decode cX1_drawMelted 46 = .ok (.istore 5, 2) := by decide +kernel
theorem dX1_drawMelted_48 : decode cX1_drawMelted 48 = .ok (.iload 4, 2) := by decide +kernel
theorem dX1_drawMelted_50 : decode cX1_drawMelted 50 = .ok (.iload 5, 2) := by decide +kernel
theorem dX1_drawMelted_52 : decode cX1_drawMelted 52 = .ok (.if_icmp .eq 24, 3) := by decide +kernel
theorem dX1_drawMelted_55 : decode cX1_drawMelted 55 = .ok (.aload_n 0, 1) := by decide +kernel
theorem dX1_drawMelted_56 : decode cX1_drawMelted 56 = .ok (.iload 4, 2) := by decide +kernel
theorem dX1_drawMelted_58 : decode cX1_drawMelted 58 = .ok (.iload 5, 2) := by decide +kernel
theorem dX1_drawMelted_60 : decode cX1_drawMelted 60 = .ok (.aload_n 1, 1) := by decide +kernel
theorem dX1_drawMelted_61 : decode cX1_drawMelted 61 = .ok (.getfield 72, 3) := by decide +kernel
theorem dX1_drawMelted_64 : decode cX1_drawMelted 64 = .ok (.iload_n 3, 1) := by decide +kernel
theorem dX1_drawMelted_65 : decode cX1_drawMelted 65 = .ok (.iaload, 1) := by decide +kernel
theorem dX1_drawMelted_66 : decode cX1_drawMelted 66 = .ok (.aload_n 1, 1) := by decide +kernel
theorem dX1_drawMelted_67 : decode cX1_drawMelted 67 = .ok (.getfield 73, 3) := by decide +kernel
theorem dX1_drawMelted_70 : decode cX1_drawMelted 70 = .ok (.iload_n 3, 1) := by decide +kernel
theorem dX1_drawMelted_71 : decode cX1_drawMelted 71 = .ok (.iaload, 1) := by decide +kernel
theorem dX1_drawMelted_72 : decode cX1_drawMelted 72 = .ok (.invokevirtual 74, 3) := by decide +kernel
theorem dX1_drawMelted_75 : decode cX1_drawMelted 75 = .ok (.pop, 1) := by decide +kernel
theorem dX1_drawMelted_76 : decode cX1_drawMelted 76 = .ok (.iinc 3 1, 3) := by decide +kernel
theorem dX1_drawMelted_79 : decode cX1_drawMelted 79 = .ok (.goto (-65), 3) := by decide +kernel
theorem dX1_drawMelted_82 : decode cX1_drawMelted 82 = .ok (.return_, 1) := by decide +kernel
theorem fX1_134 : lkF (gS, X) RX1 134 5 1 "GraphEngine$Parts" RX5 TX5 4 := ⟨rfl, inX5, by decide, (tb_t (k := 738) (w := Cond.fieldLink RX1 134 "GraphEngine$Parts" "size" "I") (by decide +kernel)), Or.inl rfl⟩
theorem fX1_139 : lkF (gS, X) RX1 139 5 2 "GraphEngine$Parts" RX5 TX5 4 := ⟨rfl, inX5, by decide, (tb_t (k := 741) (w := Cond.fieldLink RX1 139 "GraphEngine$Parts" "number" "[I") (by decide +kernel)), Or.inl rfl⟩
theorem dX2_most_0 : decode cX2_most 0 = .ok (.aload_n 0, 1) := by decide +kernel
theorem dX2_most_1 : decode cX2_most 1 = .ok (.getfield 9, 3) := by decide +kernel
theorem dX2_most_4 : decode cX2_most 4 = .ok (.iconst 0, 1) := by decide +kernel
theorem dX2_most_5 : decode cX2_most 5 = .ok (.invokestatic 37, 3) := by decide +kernel
theorem dX2_most_8 : decode cX2_most 8 = .ok (.iconst 0, 1) := by decide +kernel
theorem dX2_most_9 : decode cX2_most 9 = .ok (.istore 5, 2) := by decide +kernel
theorem dX2_most_11 : decode cX2_most 11 = .ok (.iload 5, 2) := by decide +kernel
theorem dX2_most_13 : decode cX2_most 13 = .ok (.aload_n 1, 1) := by decide +kernel
theorem dX2_most_14 : decode cX2_most 14 = .ok (.getfield 43, 3) := by decide +kernel
theorem dX2_most_17 : decode cX2_most 17 = .ok (.if_icmp .ge 63, 3) := by decide +kernel
theorem dX2_most_20 : decode cX2_most 20 = .ok (.iload_n 2, 1) := by decide +kernel
theorem dX2_most_21 : decode cX2_most 21 = .ok (.ifCond .eq 7, 3) := by decide +kernel
theorem dX2_most_24 : decode cX2_most 24 = .ok (.iconst 1, 1) := by decide +kernel
theorem dX2_most_25 : decode cX2_most 25 = .ok (.goto 19, 3) := by decide +kernel
theorem dX2_most_28 : decode cX2_most 28 = .ok (.iconst 0, 1) := by decide +kernel
theorem dX2_most_29 : decode cX2_most 29 = .ok (.aload_n 1, 1) := by decide +kernel
theorem dX2_most_30 : decode cX2_most 30 = .ok (.getfield 49, 3) := by decide +kernel
theorem dX2_most_33 : decode cX2_most 33 = .ok (.aload_n 1, 1) := by decide +kernel
theorem dX2_most_34 : decode cX2_most 34 = .ok (.getfield 52, 3) := by decide +kernel
theorem dX2_most_37 : decode cX2_most 37 = .ok (.iload 5, 2) := by decide +kernel
theorem dX2_most_39 : decode cX2_most 39 = .ok (.iaload, 1) := by decide +kernel
theorem dX2_most_40 : decode cX2_most 40 = .ok (.iaload, 1) := by decide +kernel
theorem dX2_most_41 : decode cX2_most 41 = .ok (.invokestatic 55, 3) := by decide +kernel
theorem dX2_most_44 : decode cX2_most 44 = .ok (.istore 6, 2) := by decide +kernel
theorem dX2_most_46 : decode cX2_most 46 = .ok (.aload_n 0, 1) := by decide +kernel
theorem dX2_most_47 : decode cX2_most 47 = .ok (.getfield 9, 3) := by decide +kernel
theorem dX2_most_50 : decode cX2_most 50 = .ok (.aload_n 1, 1) := by decide +kernel
theorem dX2_most_51 : decode cX2_most 51 = .ok (.getfield 61, 3) := by decide +kernel
theorem dX2_most_54 : decode cX2_most 54 = .ok (.iload 5, 2) := by decide +kernel
theorem dX2_most_56 : decode cX2_most 56 = .ok (.iaload, 1) := by decide +kernel
theorem dX2_most_57 : decode cX2_most 57 = .ok (.bipush 16, 2) := by decide +kernel
theorem dX2_most_59 : decode cX2_most 59 = .ok (.imul, 1) := by decide +kernel
theorem dX2_most_60 : decode cX2_most 60 = .ok (.aload_n 1, 1) := by decide +kernel
theorem dX2_most_61 : decode cX2_most 61 = .ok (.getfield 64, 3) := by decide +kernel
theorem dX2_most_64 : decode cX2_most 64 = .ok (.iload 5, 2) := by decide +kernel
theorem dX2_most_66 : decode cX2_most 66 = .ok (.iaload, 1) := by decide +kernel
theorem dX2_most_67 : decode cX2_most 67 = .ok (.iadd, 1) := by decide +kernel
theorem dX2_most_68 : decode cX2_most 68 = .ok (.dup2, 1) := by decide +kernel
theorem dX2_most_69 : decode cX2_most 69 = .ok (.iaload, 1) := by decide +kernel
theorem dX2_most_70 : decode cX2_most 70 = .ok (.iload 6, 2) := by decide +kernel
theorem dX2_most_72 : decode cX2_most 72 = .ok (.iadd, 1) := by decide +kernel
theorem dX2_most_73 : decode cX2_most 73 = .ok (.iastore, 1) := by decide +kernel
theorem dX2_most_74 : decode cX2_most 74 = .ok (.iinc 5 1, 3) := by decide +kernel
theorem dX2_most_77 : decode cX2_most 77 = .ok (.goto (-66), 3) := by decide +kernel
theorem dX2_most_80 : decode cX2_most 80 = .ok (.lconst 0, 1) := by decide +kernel
theorem dX2_most_81 : decode cX2_most 81 = .ok (.lstore 5, 2) := by decide +kernel
theorem dX2_most_83 : decode cX2_most 83 = .ok (.iconst 0, 1) := by decide +kernel
theorem dX2_most_84 : decode cX2_most 84 = .ok (.istore 7, 2) := by decide +kernel
theorem dX2_most_86 : decode cX2_most 86 = .ok (.iload 7, 2) := by decide +kernel
theorem dX2_most_88 : decode cX2_most 88 = .ok (.ldc 67, 2) := by decide +kernel
theorem dX2_most_90 : decode cX2_most 90 = .ok (.if_icmp .ge 36, 3) := by decide +kernel
theorem dX2_most_93 : decode cX2_most 93 = .ok (.aload_n 0, 1) := by decide +kernel
theorem dX2_most_94 : decode cX2_most 94 = .ok (.aload_n 1, 1) := by decide +kernel
theorem dX2_most_95 : decode cX2_most 95 = .ok (.getfield 68, 3) := by decide +kernel
theorem dX2_most_98 : decode cX2_most 98 = .ok (.iload_n 3, 1) := by decide +kernel
theorem dX2_most_99 : decode cX2_most 99 = .ok (.iload 4, 2) := by decide +kernel
theorem dX2_most_101 : decode cX2_most 101 = .ok (.invokevirtual 71, 3) := by decide +kernel
theorem dX2_most_104 : decode cX2_most 104 = .ok (.ifCond .eq 22, 3) := by decide +kernel
theorem dX2_most_107 : decode cX2_most 107 = .ok (.lload 5, 2) := by decide +kernel
theorem dX2_most_109 : decode cX2_most 109 = .ok (.aload_n 0, 1) := by decide +kernel
theorem dX2_most_110 : decode cX2_most 110 = .ok (.iload_n 3, 1) := by decide +kernel
theorem dX2_most_111 : decode cX2_most 111 = .ok (.iload 4, 2) := by decide +kernel
theorem dX2_most_113 : decode cX2_most 113 = .ok (.invokevirtual 75, 3) := by decide +kernel
theorem dX2_most_116 : decode cX2_most 116 = .ok (.i2l, 1) := by decide +kernel
theorem dX2_most_117 : decode cX2_most 117 = .ok (.ladd, 1) := by decide +kernel
theorem dX2_most_118 : decode cX2_most 118 = .ok (.lstore 5, 2) := by decide +kernel
theorem dX2_most_120 : decode cX2_most 120 = .ok (.iinc 7 1, 3) := by decide +kernel
theorem dX2_most_123 : decode cX2_most 123 = .ok (.goto (-37), 3) := by decide +kernel
theorem dX2_most_126 : decode cX2_most 126 = .ok (.lload 5, 2) := by decide +kernel
theorem dX2_most_128 : decode cX2_most 128 = .ok (.lreturn, 1) := by decide +kernel
theorem kX2_37 : lkK (gS, X) RX2 37 mJ7_fill_53178 2 ∧ Cond.static yJ7_fill_53178 ∈ g_ws (gS, X) := ⟨⟨tb_good, (tb_t (k := 1092) (w := Cond.methodLink RX2 37 yJ7_fill_53178) (by decide +kernel)), (tb_t (k := 11) (w := Cond.initialized RJ7) (by decide +kernel)), (tb_t (k := 457) (w := Cond.code yJ7_fill_53178 cJ7_fill_53178 4 none) (by decide +kernel)), by decide +kernel, by decide⟩, (tb_t (k := 456) (w := Cond.static yJ7_fill_53178) (by decide +kernel))⟩
theorem fX2_43 : lkF (gS, X) RX2 43 3 7 "GraphEngine$Graph" RX3 TX3 14 := ⟨rfl, inX3, by decide, (tb_t (k := 318) (w := Cond.fieldLink RX2 43 "GraphEngine$Graph" "goings" "I") (by decide +kernel)), Or.inl rfl⟩
theorem fX2_49 : lkF (gS, X) RX2 49 3 5 "GraphEngine$Graph" RX3 TX3 14 := ⟨rfl, inX3, by decide, (tb_t (k := 307) (w := Cond.fieldLink RX2 49 "GraphEngine$Graph" "weight" "[I") (by decide +kernel)), Or.inl rfl⟩
theorem fX2_52 : lkF (gS, X) RX2 52 3 10 "GraphEngine$Graph" RX3 TX3 14 := ⟨rfl, inX3, by decide, (tb_t (k := 333) (w := Cond.fieldLink RX2 52 "GraphEngine$Graph" "by" "[I") (by decide +kernel)), Or.inl rfl⟩
theorem kX2_55 : lkK (gS, X) RX2 55 mJ9_max_7cf53 2 ∧ Cond.static yJ9_max_7cf53 ∈ g_ws (gS, X) := ⟨⟨tb_good, (tb_t (k := 1093) (w := Cond.methodLink RX2 55 yJ9_max_7cf53) (by decide +kernel)), (tb_t (k := 12) (w := Cond.initialized RJ9) (by decide +kernel)), (tb_t (k := 468) (w := Cond.code yJ9_max_7cf53 cJ9_max_7cf53 2 (some .int)) (by decide +kernel)), by decide +kernel, by decide⟩, (tb_t (k := 467) (w := Cond.static yJ9_max_7cf53) (by decide +kernel))⟩
theorem fX2_61 : lkF (gS, X) RX2 61 3 8 "GraphEngine$Graph" RX3 TX3 14 := ⟨rfl, inX3, by decide, (tb_t (k := 323) (w := Cond.fieldLink RX2 61 "GraphEngine$Graph" "tail" "[I") (by decide +kernel)), Or.inl rfl⟩
theorem fX2_64 : lkF (gS, X) RX2 64 3 9 "GraphEngine$Graph" RX3 TX3 14 := ⟨rfl, inX3, by decide, (tb_t (k := 328) (w := Cond.fieldLink RX2 64 "GraphEngine$Graph" "head" "[I") (by decide +kernel)), Or.inl rfl⟩
theorem kX2_67 : Cond.constant RX2 67 60001 ∈ g_ws (gS, X) := (tb_t (k := 1094) (w := Cond.constant RX2 67 60001) (by decide +kernel))
theorem fX2_68 : lkF (gS, X) RX2 68 3 0 "GraphEngine$Graph" RX3 TX3 14 := ⟨rfl, inX3, by decide, (tb_t (k := 360) (w := Cond.fieldLink RX2 68 "GraphEngine$Graph" "nodes" "I") (by decide +kernel)), Or.inr (tb_t (k := 351) (w := Cond.sameField "GraphEngine$Graph" "GraphEngine$Thing" "nodes" "I") (by decide +kernel))⟩
theorem kX2_71 : lkK (gS, X) RX2 71 mX2_findPath 3 ∧ Cond.instanceMethod yX2_findPath ∈ g_ws (gS, X) ∧ Cond.selects RX2 yX2_findPath yX2_findPath ∈ g_ws (gS, X) ∧ yX2_findPath.cls = RX2 := ⟨⟨tb_good, (tb_t (k := 1095) (w := Cond.methodLink RX2 71 yX2_findPath) (by decide +kernel)), (tb_t (k := 6) (w := Cond.initialized RX2) (by decide +kernel)), (tb_t (k := 1098) (w := Cond.code yX2_findPath cX2_findPath 9 (some .boolean)) (by decide +kernel)), by decide +kernel, by decide⟩, (tb_t (k := 1097) (w := Cond.instanceMethod yX2_findPath) (by decide +kernel)), (tb_p (k := 71) (q := (yX2_findPath, 10)) (by decide +kernel)), rfl⟩
theorem kX2_75 : lkK (gS, X) RX2 75 mX2_push 2 ∧ Cond.instanceMethod yX2_push ∈ g_ws (gS, X) ∧ Cond.selects RX2 yX2_push yX2_push ∈ g_ws (gS, X) ∧ yX2_push.cls = RX2 := ⟨⟨tb_good, (tb_t (k := 1099) (w := Cond.methodLink RX2 75 yX2_push) (by decide +kernel)), (tb_t (k := 6) (w := Cond.initialized RX2) (by decide +kernel)), (tb_t (k := 1102) (w := Cond.code yX2_push cX2_push 6 (some .int)) (by decide +kernel)), by decide +kernel, by decide⟩, (tb_t (k := 1101) (w := Cond.instanceMethod yX2_push) (by decide +kernel)), (tb_p (k := 72) (q := (yX2_push, 10)) (by decide +kernel)), rfl⟩
theorem dX2_cut_0 : decode cX2_cut 0 = .ok (.aload_n 0, 1) := by decide +kernel
theorem dX2_cut_1 : decode cX2_cut 1 = .ok (.aload_n 1, 1) := by decide +kernel
theorem dX2_cut_2 : decode cX2_cut 2 = .ok (.iconst 0, 1) := by decide +kernel
theorem dX2_cut_3 : decode cX2_cut 3 = .ok (.iload_n 2, 1) := by decide +kernel
theorem dX2_cut_4 : decode cX2_cut 4 = .ok (.iload_n 3, 1) := by decide +kernel
theorem dX2_cut_5 : decode cX2_cut 5 = .ok (.invokevirtual 78, 3) := by decide +kernel
theorem dX2_cut_8 : decode cX2_cut 8 = .ok (.pop2, 1) := by decide +kernel
theorem dX2_cut_9 : decode cX2_cut 9 = .ok (.aload_n 0, 1) := by decide +kernel
theorem dX2_cut_10 : decode cX2_cut 10 = .ok (.getfield 82, 3) := by decide +kernel
theorem dX2_cut_13 : decode cX2_cut 13 = .ok (.ireturn, 1) := by decide +kernel
theorem kX2_78 : lkK (gS, X) RX2 78 mX2_most 4 ∧ Cond.instanceMethod yX2_most ∈ g_ws (gS, X) ∧ Cond.selects RX2 yX2_most yX2_most ∈ g_ws (gS, X) ∧ yX2_most.cls = RX2 := ⟨⟨tb_good, (tb_t (k := 1109) (w := Cond.methodLink RX2 78 yX2_most) (by decide +kernel)), (tb_t (k := 6) (w := Cond.initialized RX2) (by decide +kernel)), (tb_t (k := 1091) (w := Cond.code yX2_most cX2_most 8 (some .long)) (by decide +kernel)), by decide +kernel, by decide⟩, (tb_t (k := 1089) (w := Cond.instanceMethod yX2_most) (by decide +kernel)), (tb_t (k := 1090) (w := Cond.selects RX2 yX2_most yX2_most) (by decide +kernel)), rfl⟩
theorem fX2_82 : lkF (gS, X) RX2 82 2 3 "GraphEngine$Flows" RX2 TX2 10 := ⟨rfl, inX2, by decide, (tb_t (k := 136) (w := Cond.fieldLink RX2 82 "GraphEngine$Flows" "reached" "I") (by decide +kernel)), Or.inl rfl⟩
theorem dX2_findPath_0 : decode cX2_findPath 0 = .ok (.aload_n 0, 1) := by decide +kernel
theorem dX2_findPath_1 : decode cX2_findPath 1 = .ok (.iconst 1, 1) := by decide +kernel
theorem dX2_findPath_2 : decode cX2_findPath 2 = .ok (.iload_n 2, 1) := by decide +kernel
theorem dX2_findPath_3 : decode cX2_findPath 3 = .ok (.ishl, 1) := by decide +kernel
theorem dX2_findPath_4 : decode cX2_findPath 4 = .ok (.putfield 82, 3) := by decide +kernel
theorem dX2_findPath_7 : decode cX2_findPath 7 = .ok (.aload_n 0, 1) := by decide +kernel
theorem dX2_findPath_8 : decode cX2_findPath 8 = .ok (.getfield 18, 3) := by decide +kernel
theorem dX2_findPath_11 : decode cX2_findPath 11 = .ok (.iconst 0, 1) := by decide +kernel
theorem dX2_findPath_12 : decode cX2_findPath 12 = .ok (.iload_n 2, 1) := by decide +kernel
theorem dX2_findPath_13 : decode cX2_findPath 13 = .ok (.iastore, 1) := by decide +kernel
theorem dX2_findPath_14 : decode cX2_findPath 14 = .ok (.iconst 1, 1) := by decide +kernel
theorem dX2_findPath_15 : decode cX2_findPath 15 = .ok (.istore 4, 2) := by decide +kernel
theorem dX2_findPath_17 : decode cX2_findPath 17 = .ok (.iconst 0, 1) := by decide +kernel
theorem dX2_findPath_18 : decode cX2_findPath 18 = .ok (.istore 5, 2) := by decide +kernel
theorem dX2_findPath_20 : decode cX2_findPath 20 = .ok (.iload 5, 2) := by decide +kernel
theorem dX2_findPath_22 : decode cX2_findPath 22 = .ok (.bipush 16, 2) := by decide +kernel
theorem dX2_findPath_24 : decode cX2_findPath 24 = .ok (.if_icmp .ge 121, 3) := by decide +kernel
theorem dX2_findPath_27 : decode cX2_findPath 27 = .ok (.iload 5, 2) := by decide +kernel
theorem dX2_findPath_29 : decode cX2_findPath 29 = .ok (.iload 4, 2) := by decide +kernel
theorem dX2_findPath_31 : decode cX2_findPath 31 = .ok (.if_icmp .ge 114, 3) := by decide +kernel
theorem dX2_findPath_34 : decode cX2_findPath 34 = .ok (.aload_n 0, 1) := by decide +kernel
theorem dX2_findPath_35 : decode cX2_findPath 35 = .ok (.getfield 18, 3) := by decide +kernel
theorem dX2_findPath_38 : decode cX2_findPath 38 = .ok (.iload 5, 2) := by decide +kernel
theorem dX2_findPath_40 : decode cX2_findPath 40 = .ok (.iaload, 1) := by decide +kernel
theorem dX2_findPath_41 : decode cX2_findPath 41 = .ok (.istore 6, 2) := by decide +kernel
theorem dX2_findPath_43 : decode cX2_findPath 43 = .ok (.iconst 0, 1) := by decide +kernel
theorem dX2_findPath_44 : decode cX2_findPath 44 = .ok (.istore 7, 2) := by decide +kernel
theorem dX2_findPath_46 : decode cX2_findPath 46 = .ok (.iload 7, 2) := by decide +kernel
theorem dX2_findPath_48 : decode cX2_findPath 48 = .ok (.iload_n 1, 1) := by decide +kernel
theorem dX2_findPath_49 : decode cX2_findPath 49 = .ok (.if_icmp .ge 90, 3) := by decide +kernel
theorem dX2_findPath_52 : decode cX2_findPath 52 = .ok (.aload_n 0, 1) := by decide +kernel
theorem dX2_findPath_53 : decode cX2_findPath 53 = .ok (.getfield 82, 3) := by decide +kernel
theorem dX2_findPath_56 : decode cX2_findPath 56 = .ok (.iload 7, 2) := by decide +kernel
theorem dX2_findPath_58 : decode cX2_findPath 58 = .ok (.ishr, 1) := by decide +kernel
theorem dX2_findPath_59 : decode cX2_findPath 59 = .ok (.iconst 1, 1) := by decide +kernel
theorem dX2_findPath_60 : decode cX2_findPath 60 = .ok (.iand, 1) := by decide +kernel
theorem dX2_findPath_61 : decode cX2_findPath 61 = .ok (.ifCond .ne 23, 3) := by decide +kernel
theorem dX2_findPath_64 : decode cX2_findPath 64 = .ok (.aload_n 0, 1) := by decide +kernel
theorem dX2_findPath_65 : decode cX2_findPath 65 = .ok (.getfield 9, 3) := by decide +kernel
theorem dX2_findPath_68 : decode cX2_findPath 68 = .ok (.iload 6, 2) := by decide +kernel
theorem dX2_findPath_70 : decode cX2_findPath 70 = .ok (.bipush 16, 2) := by decide +kernel
theorem dX2_findPath_72 : decode cX2_findPath 72 = .ok (.imul, 1) := by decide +kernel
theorem dX2_findPath_73 : decode cX2_findPath 73 = .ok (.iload 7, 2) := by decide +kernel
theorem dX2_findPath_75 : decode cX2_findPath 75 = .ok (.iadd, 1) := by decide +kernel
theorem dX2_findPath_76 : decode cX2_findPath 76 = .ok (.iaload, 1) := by decide +kernel
theorem dX2_findPath_77 : decode cX2_findPath 77 = .ok (.ifCond .le 7, 3) := by decide +kernel
theorem dX2_findPath_80 : decode cX2_findPath 80 = .ok (.iconst 1, 1) := by decide +kernel
theorem dX2_findPath_81 : decode cX2_findPath 81 = .ok (.goto 4, 3) := by decide +kernel
theorem dX2_findPath_84 : decode cX2_findPath 84 = .ok (.iconst 0, 1) := by decide +kernel
theorem dX2_findPath_85 : decode cX2_findPath 85 = .ok (.istore 8, 2) := by decide +kernel
theorem dX2_findPath_87 : decode cX2_findPath 87 = .ok (.iload 8, 2) := by decide +kernel
theorem dX2_findPath_89 : decode cX2_findPath 89 = .ok (.ifCond .eq 44, 3) := by decide +kernel
theorem dX2_findPath_92 : decode cX2_findPath 92 = .ok (.iload 4, 2) := by decide +kernel
theorem dX2_findPath_94 : decode cX2_findPath 94 = .ok (.bipush 16, 2) := by decide +kernel
theorem dX2_findPath_96 : decode cX2_findPath 96 = .ok (.if_icmp .ge 37, 3) := by decide +kernel
theorem dX2_findPath_99 : decode cX2_findPath 99 = .ok (.aload_n 0, 1) := by decide +kernel
theorem dX2_findPath_100 : decode cX2_findPath 100 = .ok (.dup, 1) := by decide +kernel
theorem dX2_findPath_101 : decode cX2_findPath 101 = .ok (.getfield 82, 3) := by decide +kernel
theorem dX2_findPath_104 : decode cX2_findPath 104 = .ok (.iconst 1, 1) := by decide +kernel
theorem dX2_findPath_105 : decode cX2_findPath 105 = .ok (.iload 7, 2) := by decide +kernel
theorem dX2_findPath_107 : decode cX2_findPath 107 = .ok (.ishl, 1) := by decide +kernel
theorem dX2_findPath_108 : decode cX2_findPath 108 = .ok (.ior, 1) := by decide +kernel
theorem dX2_findPath_109 : decode cX2_findPath 109 = .ok (.putfield 82, 3) := by decide +kernel
theorem dX2_findPath_112 : decode cX2_findPath 112 = .ok (.aload_n 0, 1) := by decide +kernel
theorem dX2_findPath_113 : decode cX2_findPath 113 = .ok (.getfield 15, 3) := by decide +kernel
theorem dX2_findPath_116 : decode cX2_findPath 116 = .ok (.iload 7, 2) := by decide +kernel
theorem dX2_findPath_118 : decode cX2_findPath 118 = .ok (.iload 6, 2) := by decide +kernel
theorem dX2_findPath_120 : decode cX2_findPath 120 = .ok (.iastore, 1) := by decide +kernel
theorem dX2_findPath_121 : decode cX2_findPath 121 = .ok (.aload_n 0, 1) := by decide +kernel
theorem dX2_findPath_122 : decode cX2_findPath 122 = .ok (.getfield 18, 3) := by decide +kernel
theorem dX2_findPath_125 : decode cX2_findPath 125 = .ok (.iload 4, 2) := by decide +kernel
theorem dX2_findPath_127 : decode cX2_findPath 127 = .ok (.iload 7, 2) := by decide +kernel
theorem dX2_findPath_129 : decode cX2_findPath 129 = .ok (.iastore, 1) := by decide +kernel
theorem dX2_findPath_130 : decode cX2_findPath 130 = .ok (.iinc 4 1, 3) := by decide +kernel
theorem dX2_findPath_133 : decode cX2_findPath 133 = .ok (.iinc 7 1, 3) := by decide +kernel
theorem dX2_findPath_136 : decode cX2_findPath 136 = .ok (.goto (-90), 3) := by decide +kernel
theorem dX2_findPath_139 : decode cX2_findPath 139 = .ok (.iinc 5 1, 3) := by decide +kernel
theorem dX2_findPath_142 : decode cX2_findPath 142 = .ok (.goto (-122), 3) := by decide +kernel
theorem dX2_findPath_145 : decode cX2_findPath 145 = .ok (.aload_n 0, 1) := by decide +kernel
theorem dX2_findPath_146 : decode cX2_findPath 146 = .ok (.getfield 82, 3) := by decide +kernel
theorem dX2_findPath_149 : decode cX2_findPath 149 = .ok (.iload_n 3, 1) := by decide +kernel
theorem dX2_findPath_150 : decode cX2_findPath 150 = .ok (.ishr, 1) := by decide +kernel
theorem dX2_findPath_151 : decode cX2_findPath 151 = .ok (.iconst 1, 1) := by decide +kernel
theorem dX2_findPath_152 : decode cX2_findPath 152 = .ok (.iand, 1) := by decide +kernel
theorem dX2_findPath_153 : decode cX2_findPath 153 = .ok (.ifCond .eq 7, 3) := by decide +kernel
theorem dX2_findPath_156 : decode cX2_findPath 156 = .ok (.iconst 1, 1) := by decide +kernel
theorem dX2_findPath_157 : decode cX2_findPath 157 = .ok (.goto 4, 3) := by decide +kernel
theorem dX2_findPath_160 : decode cX2_findPath 160 = .ok (.iconst 0, 1) := by decide +kernel
theorem dX2_findPath_161 : decode cX2_findPath 161 = .ok (.ireturn, 1) := by decide +kernel
theorem dX2_push_0 : decode cX2_push 0 = .ok (.ldc 85, 2) := by decide +kernel
theorem dX2_push_2 : decode cX2_push 2 = .ok (.istore_n 3, 1) := by decide +kernel
theorem dX2_push_3 : decode cX2_push 3 = .ok (.iload_n 2, 1) := by decide +kernel
theorem dX2_push_4 : decode cX2_push 4 = .ok (.istore 4, 2) := by decide +kernel
theorem dX2_push_6 : decode cX2_push 6 = .ok (.iconst 0, 1) := by decide +kernel
theorem dX2_push_7 : decode cX2_push 7 = .ok (.istore 5, 2) := by decide +kernel
theorem dX2_push_9 : decode cX2_push 9 = .ok (.iload 5, 2) := by decide +kernel
theorem dX2_push_11 : decode cX2_push 11 = .ok (.bipush 16, 2) := by decide +kernel
theorem dX2_push_13 : decode cX2_push 13 = .ok (.if_icmp .ge 47, 3) := by decide +kernel
theorem dX2_push_16 : decode cX2_push 16 = .ok (.iload 4, 2) := by decide +kernel
theorem dX2_push_18 : decode cX2_push 18 = .ok (.iload_n 1, 1) := by decide +kernel
theorem dX2_push_19 : decode cX2_push 19 = .ok (.if_icmp .eq 41, 3) := by decide +kernel
theorem dX2_push_22 : decode cX2_push 22 = .ok (.iload_n 3, 1) := by decide +kernel
theorem dX2_push_23 : decode cX2_push 23 = .ok (.aload_n 0, 1) := by decide +kernel
theorem dX2_push_24 : decode cX2_push 24 = .ok (.getfield 9, 3) := by decide +kernel
theorem dX2_push_27 : decode cX2_push 27 = .ok (.aload_n 0, 1) := by decide +kernel
theorem dX2_push_28 : decode cX2_push 28 = .ok (.getfield 15, 3) := by decide +kernel
theorem dX2_push_31 : decode cX2_push 31 = .ok (.iload 4, 2) := by decide +kernel
theorem dX2_push_33 : decode cX2_push 33 = .ok (.iaload, 1) := by decide +kernel
theorem dX2_push_34 : decode cX2_push 34 = .ok (.bipush 16, 2) := by decide +kernel
theorem dX2_push_36 : decode cX2_push 36 = .ok (.imul, 1) := by decide +kernel
theorem dX2_push_37 : decode cX2_push 37 = .ok (.iload 4, 2) := by decide +kernel
theorem dX2_push_39 : decode cX2_push 39 = .ok (.iadd, 1) := by decide +kernel
theorem dX2_push_40 : decode cX2_push 40 = .ok (.iaload, 1) := by decide +kernel
theorem dX2_push_41 : decode cX2_push 41 = .ok (.invokestatic 86, 3) := by decide +kernel
theorem dX2_push_44 : decode cX2_push 44 = .ok (.istore_n 3, 1) := by decide +kernel
theorem dX2_push_45 : decode cX2_push 45 = .ok (.aload_n 0, 1) := by decide +kernel
theorem dX2_push_46 : decode cX2_push 46 = .ok (.getfield 15, 3) := by decide +kernel
theorem dX2_push_49 : decode cX2_push 49 = .ok (.iload 4, 2) := by decide +kernel
theorem dX2_push_51 : decode cX2_push 51 = .ok (.iaload, 1) := by decide +kernel
theorem dX2_push_52 : decode cX2_push 52 = .ok (.istore 4, 2) := by decide +kernel
theorem dX2_push_54 : decode cX2_push 54 = .ok (.iinc 5 1, 3) := by decide +kernel
theorem dX2_push_57 : decode cX2_push 57 = .ok (.goto (-48), 3) := by decide +kernel
theorem dX2_push_60 : decode cX2_push 60 = .ok (.iload_n 2, 1) := by decide +kernel
theorem dX2_push_61 : decode cX2_push 61 = .ok (.istore 4, 2) := by decide +kernel
theorem dX2_push_63 : decode cX2_push 63 = .ok (.iconst 0, 1) := by decide +kernel
theorem dX2_push_64 : decode cX2_push 64 = .ok (.istore 5, 2) := by decide +kernel
theorem dX2_push_66 : decode cX2_push 66 = .ok (.iload 5, 2) := by decide +kernel
theorem dX2_push_68 : decode cX2_push 68 = .ok (.bipush 16, 2) := by decide +kernel
theorem dX2_push_70 : decode cX2_push 70 = .ok (.if_icmp .ge 68, 3) := by decide +kernel
theorem dX2_push_73 : decode cX2_push 73 = .ok (.iload 4, 2) := by decide +kernel
theorem dX2_push_75 : decode cX2_push 75 = .ok (.iload_n 1, 1) := by decide +kernel
theorem dX2_push_76 : decode cX2_push 76 = .ok (.if_icmp .eq 62, 3) := by decide +kernel
theorem dX2_push_79 : decode cX2_push 79 = .ok (.aload_n 0, 1) := by decide +kernel
theorem dX2_push_80 : decode cX2_push 80 = .ok (.getfield 9, 3) := by decide +kernel
theorem dX2_push_83 : decode cX2_push 83 = .ok (.aload_n 0, 1) := by decide +kernel
theorem dX2_push_84 : decode cX2_push 84 = .ok (.getfield 15, 3) := by decide +kernel
theorem dX2_push_87 : decode cX2_push 87 = .ok (.iload 4, 2) := by decide +kernel
theorem dX2_push_89 : decode cX2_push 89 = .ok (.iaload, 1) := by decide +kernel
theorem dX2_push_90 : decode cX2_push 90 = .ok (.bipush 16, 2) := by decide +kernel
theorem dX2_push_92 : decode cX2_push 92 = .ok (.imul, 1) := by decide +kernel
theorem dX2_push_93 : decode cX2_push 93 = .ok (.iload 4, 2) := by decide +kernel
theorem dX2_push_95 : decode cX2_push 95 = .ok (.iadd, 1) := by decide +kernel
theorem dX2_push_96 : decode cX2_push 96 = .ok (.dup2, 1) := by decide +kernel
theorem dX2_push_97 : decode cX2_push 97 = .ok (.iaload, 1) := by decide +kernel
theorem dX2_push_98 : decode cX2_push 98 = .ok (.iload_n 3, 1) := by decide +kernel
theorem dX2_push_99 : decode cX2_push 99 = .ok (.isub, 1) := by decide +kernel
theorem dX2_push_100 : decode cX2_push 100 = .ok (.iastore, 1) := by decide +kernel
theorem dX2_push_101 : decode cX2_push 101 = .ok (.aload_n 0, 1) := by decide +kernel
theorem dX2_push_102 : decode cX2_push 102 = .ok (.getfield 9, 3) := by decide +kernel
theorem dX2_push_105 : decode cX2_push 105 = .ok (.iload 4, 2) := by decide +kernel
theorem dX2_push_107 : decode cX2_push 107 = .ok (.bipush 16, 2) := by decide +kernel
theorem dX2_push_109 : decode cX2_push 109 = .ok (.imul, 1) := by decide +kernel
theorem dX2_push_110 : decode cX2_push 110 = .ok (.aload_n 0, 1) := by decide +kernel
theorem dX2_push_111 : decode cX2_push 111 = .ok (.getfield 15, 3) := by decide +kernel
theorem dX2_push_114 : decode cX2_push 114 = .ok (.iload 4, 2) := by decide +kernel
theorem dX2_push_116 : decode cX2_push 116 = .ok (.iaload, 1) := by decide +kernel
theorem dX2_push_117 : decode cX2_push 117 = .ok (.iadd, 1) := by decide +kernel
theorem dX2_push_118 : decode cX2_push 118 = .ok (.dup2, 1) := by decide +kernel
theorem dX2_push_119 : decode cX2_push 119 = .ok (.iaload, 1) := by decide +kernel
theorem dX2_push_120 : decode cX2_push 120 = .ok (.iload_n 3, 1) := by decide +kernel
theorem dX2_push_121 : decode cX2_push 121 = .ok (.iadd, 1) := by decide +kernel
theorem dX2_push_122 : decode cX2_push 122 = .ok (.iastore, 1) := by decide +kernel
theorem dX2_push_123 : decode cX2_push 123 = .ok (.aload_n 0, 1) := by decide +kernel
theorem dX2_push_124 : decode cX2_push 124 = .ok (.getfield 15, 3) := by decide +kernel
theorem dX2_push_127 : decode cX2_push 127 = .ok (.iload 4, 2) := by decide +kernel
theorem dX2_push_129 : decode cX2_push 129 = .ok (.iaload, 1) := by decide +kernel
theorem dX2_push_130 : decode cX2_push 130 = .ok (.istore 4, 2) := by decide +kernel
theorem dX2_push_132 : decode cX2_push 132 = .ok (.iinc 5 1, 3) := by decide +kernel
theorem dX2_push_135 : decode cX2_push 135 = .ok (.goto (-69), 3) := by decide +kernel
theorem dX2_push_138 : decode cX2_push 138 = .ok (.iload_n 3, 1) := by decide +kernel
theorem dX2_push_139 : decode cX2_push 139 = .ok (.ireturn, 1) := by decide +kernel
theorem kX2_85 : Cond.constant RX2 85 1073741824 ∈ g_ws (gS, X) := (tb_t (k := 1103) (w := Cond.constant RX2 85 1073741824) (by decide +kernel))
theorem kX2_86 : lkK (gS, X) RX2 86 mJ9_min_7cf53 2 ∧ Cond.static yJ9_min_7cf53 ∈ g_ws (gS, X) := ⟨⟨tb_good, (tb_t (k := 1104) (w := Cond.methodLink RX2 86 yJ9_min_7cf53) (by decide +kernel)), (tb_t (k := 12) (w := Cond.initialized RJ9) (by decide +kernel)), (tb_t (k := 269) (w := Cond.code yJ9_min_7cf53 cJ9_min_7cf53 2 (some .int)) (by decide +kernel)), by decide +kernel, by decide⟩, (tb_t (k := 268) (w := Cond.static yJ9_min_7cf53) (by decide +kernel))⟩
theorem dX2_price_0 : decode cX2_price 0 = .ok (.aload_n 0, 1) := by decide +kernel
theorem dX2_price_1 : decode cX2_price 1 = .ok (.iconst 0, 1) := by decide +kernel
theorem dX2_price_2 : decode cX2_price 2 = .ok (.putfield 89, 3) := by decide +kernel
theorem dX2_price_5 : decode cX2_price 5 = .ok (.iconst 0, 1) := by decide +kernel
theorem dX2_price_6 : decode cX2_price 6 = .ok (.istore 4, 2) := by decide +kernel
theorem dX2_price_8 : decode cX2_price 8 = .ok (.iload 4, 2) := by decide +kernel
theorem dX2_price_10 : decode cX2_price 10 = .ok (.aload_n 1, 1) := by decide +kernel
theorem dX2_price_11 : decode cX2_price 11 = .ok (.getfield 43, 3) := by decide +kernel
theorem dX2_price_14 : decode cX2_price 14 = .ok (.if_icmp .ge 112, 3) := by decide +kernel
theorem dX2_price_17 : decode cX2_price 17 = .ok (.aload_n 1, 1) := by decide +kernel
theorem dX2_price_18 : decode cX2_price 18 = .ok (.getfield 52, 3) := by decide +kernel
theorem dX2_price_21 : decode cX2_price 21 = .ok (.iload 4, 2) := by decide +kernel
theorem dX2_price_23 : decode cX2_price 23 = .ok (.iaload, 1) := by decide +kernel
theorem dX2_price_24 : decode cX2_price 24 = .ok (.istore 5, 2) := by decide +kernel
theorem dX2_price_26 : decode cX2_price 26 = .ok (.aload_n 1, 1) := by decide +kernel
theorem dX2_price_27 : decode cX2_price 27 = .ok (.getfield 49, 3) := by decide +kernel
theorem dX2_price_30 : decode cX2_price 30 = .ok (.iload 5, 2) := by decide +kernel
theorem dX2_price_32 : decode cX2_price 32 = .ok (.iaload, 1) := by decide +kernel
theorem dX2_price_33 : decode cX2_price 33 = .ok (.ifCond .le 87, 3) := by decide +kernel
theorem dX2_price_36 : decode cX2_price 36 = .ok (.aload_n 1, 1) := by decide +kernel
theorem dX2_price_37 : decode cX2_price 37 = .ok (.getfield 61, 3) := by decide +kernel
theorem dX2_price_40 : decode cX2_price 40 = .ok (.iload 4, 2) := by decide +kernel
theorem dX2_price_42 : decode cX2_price 42 = .ok (.iaload, 1) := by decide +kernel
theorem dX2_price_43 : decode cX2_price 43 = .ok (.aload_n 1, 1) := by decide +kernel
theorem dX2_price_44 : decode cX2_price 44 = .ok (.getfield 64, 3) := by decide +kernel
theorem dX2_price_47 : decode cX2_price 47 = .ok (.iload 4, 2) := by decide +kernel
theorem dX2_price_49 : decode cX2_price 49 = .ok (.iaload, 1) := by decide +kernel
theorem dX2_price_50 : decode cX2_price 50 = .ok (.if_icmp .eq 70, 3) := by decide +kernel
theorem dX2_price_53 : decode cX2_price 53 = .ok (.aload_n 0, 1) := by decide +kernel
theorem dX2_price_54 : decode cX2_price 54 = .ok (.aload_n 1, 1) := by decide +kernel
theorem dX2_price_55 : decode cX2_price 55 = .ok (.getfield 61, 3) := by decide +kernel
theorem dX2_price_58 : decode cX2_price 58 = .ok (.iload 4, 2) := by decide +kernel
theorem dX2_price_60 : decode cX2_price 60 = .ok (.iaload, 1) := by decide +kernel
theorem dX2_price_61 : decode cX2_price 61 = .ok (.aload_n 1, 1) := by decide +kernel
theorem dX2_price_62 : decode cX2_price 62 = .ok (.getfield 64, 3) := by decide +kernel
theorem dX2_price_65 : decode cX2_price 65 = .ok (.iload 4, 2) := by decide +kernel
theorem dX2_price_67 : decode cX2_price 67 = .ok (.iaload, 1) := by decide +kernel
theorem dX2_price_68 : decode cX2_price 68 = .ok (.aload_n 1, 1) := by decide +kernel
theorem dX2_price_69 : decode cX2_price 69 = .ok (.getfield 49, 3) := by decide +kernel
theorem dX2_price_72 : decode cX2_price 72 = .ok (.iload 5, 2) := by decide +kernel
theorem dX2_price_74 : decode cX2_price 74 = .ok (.iaload, 1) := by decide +kernel
theorem dX2_price_75 : decode cX2_price 75 = .ok (.iconst 0, 1) := by decide +kernel
theorem dX2_price_76 : decode cX2_price 76 = .ok (.aload_n 1, 1) := by decide +kernel
theorem dX2_price_77 : decode cX2_price 77 = .ok (.getfield 92, 3) := by decide +kernel
theorem dX2_price_80 : decode cX2_price 80 = .ok (.iload 5, 2) := by decide +kernel
theorem dX2_price_82 : decode cX2_price 82 = .ok (.iaload, 1) := by decide +kernel
theorem dX2_price_83 : decode cX2_price 83 = .ok (.invokestatic 55, 3) := by decide +kernel
theorem dX2_price_86 : decode cX2_price 86 = .ok (.invokevirtual 95, 3) := by decide +kernel
theorem dX2_price_89 : decode cX2_price 89 = .ok (.aload_n 0, 1) := by decide +kernel
theorem dX2_price_90 : decode cX2_price 90 = .ok (.aload_n 1, 1) := by decide +kernel
theorem dX2_price_91 : decode cX2_price 91 = .ok (.getfield 64, 3) := by decide +kernel
theorem dX2_price_94 : decode cX2_price 94 = .ok (.iload 4, 2) := by decide +kernel
theorem dX2_price_96 : decode cX2_price 96 = .ok (.iaload, 1) := by decide +kernel
theorem dX2_price_97 : decode cX2_price 97 = .ok (.aload_n 1, 1) := by decide +kernel
theorem dX2_price_98 : decode cX2_price 98 = .ok (.getfield 61, 3) := by decide +kernel
theorem dX2_price_101 : decode cX2_price 101 = .ok (.iload 4, 2) := by decide +kernel
theorem dX2_price_103 : decode cX2_price 103 = .ok (.iaload, 1) := by decide +kernel
theorem dX2_price_104 : decode cX2_price 104 = .ok (.iconst 0, 1) := by decide +kernel
theorem dX2_price_105 : decode cX2_price 105 = .ok (.iconst 0, 1) := by decide +kernel
theorem dX2_price_106 : decode cX2_price 106 = .ok (.aload_n 1, 1) := by decide +kernel
theorem dX2_price_107 : decode cX2_price 107 = .ok (.getfield 92, 3) := by decide +kernel
theorem dX2_price_110 : decode cX2_price 110 = .ok (.iload 5, 2) := by decide +kernel
theorem dX2_price_112 : decode cX2_price 112 = .ok (.iaload, 1) := by decide +kernel
theorem dX2_price_113 : decode cX2_price 113 = .ok (.invokestatic 55, 3) := by decide +kernel
theorem dX2_price_116 : decode cX2_price 116 = .ok (.ineg, 1) := by decide +kernel
theorem dX2_price_117 : decode cX2_price 117 = .ok (.invokevirtual 95, 3) := by decide +kernel
theorem dX2_price_120 : decode cX2_price 120 = .ok (.iinc 4 1, 3) := by decide +kernel
theorem dX2_price_123 : decode cX2_price 123 = .ok (.goto (-115), 3) := by decide +kernel
theorem dX2_price_126 : decode cX2_price 126 = .ok (.lconst 0, 1) := by decide +kernel
theorem dX2_price_127 : decode cX2_price 127 = .ok (.lstore 4, 2) := by decide +kernel
theorem dX2_price_129 : decode cX2_price 129 = .ok (.iconst 0, 1) := by decide +kernel
theorem dX2_price_130 : decode cX2_price 130 = .ok (.istore 6, 2) := by decide +kernel
theorem dX2_price_132 : decode cX2_price 132 = .ok (.iload 6, 2) := by decide +kernel
theorem dX2_price_134 : decode cX2_price 134 = .ok (.ldc 67, 2) := by decide +kernel
theorem dX2_price_136 : decode cX2_price 136 = .ok (.if_icmp .ge 40, 3) := by decide +kernel
theorem dX2_price_139 : decode cX2_price 139 = .ok (.aload_n 0, 1) := by decide +kernel
theorem dX2_price_140 : decode cX2_price 140 = .ok (.aload_n 1, 1) := by decide +kernel
theorem dX2_price_141 : decode cX2_price 141 = .ok (.getfield 68, 3) := by decide +kernel
theorem dX2_price_144 : decode cX2_price 144 = .ok (.iload_n 2, 1) := by decide +kernel
theorem dX2_price_145 : decode cX2_price 145 = .ok (.iload_n 3, 1) := by decide +kernel
theorem dX2_price_146 : decode cX2_price 146 = .ok (.invokevirtual 99, 3) := by decide +kernel
theorem dX2_price_149 : decode cX2_price 149 = .ok (.ifCond .eq 27, 3) := by decide +kernel
theorem dX2_price_152 : decode cX2_price 152 = .ok (.lload 4, 2) := by decide +kernel
theorem dX2_price_154 : decode cX2_price 154 = .ok (.aload_n 0, 1) := by decide +kernel
theorem dX2_price_155 : decode cX2_price 155 = .ok (.iload_n 2, 1) := by decide +kernel
theorem dX2_price_156 : decode cX2_price 156 = .ok (.iload_n 3, 1) := by decide +kernel
theorem dX2_price_157 : decode cX2_price 157 = .ok (.invokevirtual 102, 3) := by decide +kernel
theorem dX2_price_160 : decode cX2_price 160 = .ok (.aload_n 0, 1) := by decide +kernel
theorem dX2_price_161 : decode cX2_price 161 = .ok (.getfield 33, 3) := by decide +kernel
theorem dX2_price_164 : decode cX2_price 164 = .ok (.iload_n 3, 1) := by decide +kernel
theorem dX2_price_165 : decode cX2_price 165 = .ok (.laload, 1) := by decide +kernel
theorem dX2_price_166 : decode cX2_price 166 = .ok (.lmul, 1) := by decide +kernel
theorem dX2_price_167 : decode cX2_price 167 = .ok (.ladd, 1) := by decide +kernel
theorem dX2_price_168 : decode cX2_price 168 = .ok (.lstore 4, 2) := by decide +kernel
theorem dX2_price_170 : decode cX2_price 170 = .ok (.iinc 6 1, 3) := by decide +kernel
theorem dX2_price_173 : decode cX2_price 173 = .ok (.goto (-41), 3) := by decide +kernel
theorem dX2_price_176 : decode cX2_price 176 = .ok (.lload 4, 2) := by decide +kernel
theorem dX2_price_178 : decode cX2_price 178 = .ok (.lreturn, 1) := by decide +kernel
theorem fX2_89 : lkF (gS, X) RX2 89 2 4 "GraphEngine$Flows" RX2 TX2 10 := ⟨rfl, inX2, by decide, (tb_t (k := 137) (w := Cond.fieldLink RX2 89 "GraphEngine$Flows" "links" "I") (by decide +kernel)), Or.inl rfl⟩
theorem fX2_92 : lkF (gS, X) RX2 92 3 6 "GraphEngine$Graph" RX3 TX3 14 := ⟨rfl, inX3, by decide, (tb_t (k := 315) (w := Cond.fieldLink RX2 92 "GraphEngine$Graph" "cost" "[I") (by decide +kernel)), Or.inl rfl⟩
theorem kX2_95 : lkK (gS, X) RX2 95 mX2_addLink 4 ∧ Cond.instanceMethod yX2_addLink ∈ g_ws (gS, X) ∧ Cond.selects RX2 yX2_addLink yX2_addLink ∈ g_ws (gS, X) ∧ yX2_addLink.cls = RX2 := ⟨⟨tb_good, (tb_t (k := 1114) (w := Cond.methodLink RX2 95 yX2_addLink) (by decide +kernel)), (tb_t (k := 6) (w := Cond.initialized RX2) (by decide +kernel)), (tb_t (k := 1117) (w := Cond.code yX2_addLink cX2_addLink 6 none) (by decide +kernel)), by decide +kernel, by decide⟩, (tb_t (k := 1116) (w := Cond.instanceMethod yX2_addLink) (by decide +kernel)), (tb_p (k := 73) (q := (yX2_addLink, 10)) (by decide +kernel)), rfl⟩
theorem kX2_99 : lkK (gS, X) RX2 99 mX2_findCheapest 3 ∧ Cond.instanceMethod yX2_findCheapest ∈ g_ws (gS, X) ∧ Cond.selects RX2 yX2_findCheapest yX2_findCheapest ∈ g_ws (gS, X) ∧ yX2_findCheapest.cls = RX2 := ⟨⟨tb_good, (tb_t (k := 1118) (w := Cond.methodLink RX2 99 yX2_findCheapest) (by decide +kernel)), (tb_t (k := 6) (w := Cond.initialized RX2) (by decide +kernel)), (tb_t (k := 1121) (w := Cond.code yX2_findCheapest cX2_findCheapest 9 (some .boolean)) (by decide +kernel)), by decide +kernel, by decide⟩, (tb_t (k := 1120) (w := Cond.instanceMethod yX2_findCheapest) (by decide +kernel)), (tb_p (k := 74) (q := (yX2_findCheapest, 10)) (by decide +kernel)), rfl⟩
theorem kX2_102 : lkK (gS, X) RX2 102 mX2_pushLinks 2 ∧ Cond.instanceMethod yX2_pushLinks ∈ g_ws (gS, X) ∧ Cond.selects RX2 yX2_pushLinks yX2_pushLinks ∈ g_ws (gS, X) ∧ yX2_pushLinks.cls = RX2 := ⟨⟨tb_good, (tb_t (k := 1124) (w := Cond.methodLink RX2 102 yX2_pushLinks) (by decide +kernel)), (tb_t (k := 6) (w := Cond.initialized RX2) (by decide +kernel)), (tb_t (k := 1127) (w := Cond.code yX2_pushLinks cX2_pushLinks 7 (some .long)) (by decide +kernel)), by decide +kernel, by decide⟩, (tb_t (k := 1126) (w := Cond.instanceMethod yX2_pushLinks) (by decide +kernel)), (tb_p (k := 75) (q := (yX2_pushLinks, 10)) (by decide +kernel)), rfl⟩
theorem dX2_addLink_0 : decode cX2_addLink 0 = .ok (.aload_n 0, 1) := by decide +kernel
theorem dX2_addLink_1 : decode cX2_addLink 1 = .ok (.getfield 89, 3) := by decide +kernel
theorem dX2_addLink_4 : decode cX2_addLink 4 = .ok (.istore 5, 2) := by decide +kernel
theorem dX2_addLink_6 : decode cX2_addLink 6 = .ok (.iload 5, 2) := by decide +kernel
theorem dX2_addLink_8 : decode cX2_addLink 8 = .ok (.ifCond .lt 52, 3) := by decide +kernel
theorem dX2_addLink_11 : decode cX2_addLink 11 = .ok (.iload 5, 2) := by decide +kernel
theorem dX2_addLink_13 : decode cX2_addLink 13 = .ok (.sipush 240, 3) := by decide +kernel
theorem dX2_addLink_16 : decode cX2_addLink 16 = .ok (.if_icmp .ge 44, 3) := by decide +kernel
theorem dX2_addLink_19 : decode cX2_addLink 19 = .ok (.aload_n 0, 1) := by decide +kernel
theorem dX2_addLink_20 : decode cX2_addLink 20 = .ok (.getfield 21, 3) := by decide +kernel
theorem dX2_addLink_23 : decode cX2_addLink 23 = .ok (.iload 5, 2) := by decide +kernel
theorem dX2_addLink_25 : decode cX2_addLink 25 = .ok (.iload_n 1, 1) := by decide +kernel
theorem dX2_addLink_26 : decode cX2_addLink 26 = .ok (.iastore, 1) := by decide +kernel
theorem dX2_addLink_27 : decode cX2_addLink 27 = .ok (.aload_n 0, 1) := by decide +kernel
theorem dX2_addLink_28 : decode cX2_addLink 28 = .ok (.getfield 24, 3) := by decide +kernel
theorem dX2_addLink_31 : decode cX2_addLink 31 = .ok (.iload 5, 2) := by decide +kernel
theorem dX2_addLink_33 : decode cX2_addLink 33 = .ok (.iload_n 2, 1) := by decide +kernel
theorem dX2_addLink_34 : decode cX2_addLink 34 = .ok (.iastore, 1) := by decide +kernel
theorem dX2_addLink_35 : decode cX2_addLink 35 = .ok (.aload_n 0, 1) := by decide +kernel
theorem dX2_addLink_36 : decode cX2_addLink 36 = .ok (.getfield 27, 3) := by decide +kernel
theorem dX2_addLink_39 : decode cX2_addLink 39 = .ok (.iload 5, 2) := by decide +kernel
theorem dX2_addLink_41 : decode cX2_addLink 41 = .ok (.iload_n 3, 1) := by decide +kernel
theorem dX2_addLink_42 : decode cX2_addLink 42 = .ok (.iastore, 1) := by decide +kernel
theorem dX2_addLink_43 : decode cX2_addLink 43 = .ok (.aload_n 0, 1) := by decide +kernel
theorem dX2_addLink_44 : decode cX2_addLink 44 = .ok (.getfield 30, 3) := by decide +kernel
theorem dX2_addLink_47 : decode cX2_addLink 47 = .ok (.iload 5, 2) := by decide +kernel
theorem dX2_addLink_49 : decode cX2_addLink 49 = .ok (.iload 4, 2) := by decide +kernel
theorem dX2_addLink_51 : decode cX2_addLink 51 = .ok (.iastore, 1) := by decide +kernel
theorem dX2_addLink_52 : decode cX2_addLink 52 = .ok (.aload_n 0, 1) := by decide +kernel
theorem dX2_addLink_53 : decode cX2_addLink 53 = .ok (.iload 5, 2) := by decide +kernel
theorem dX2_addLink_55 : decode cX2_addLink 55 = .ok (.iconst 1, 1) := by decide +kernel
theorem dX2_addLink_56 : decode cX2_addLink 56 = .ok (.iadd, 1) := by decide +kernel
theorem dX2_addLink_57 : decode cX2_addLink 57 = .ok (.putfield 89, 3) := by decide +kernel
theorem dX2_addLink_60 : decode cX2_addLink 60 = .ok (.return_, 1) := by decide +kernel
theorem dX2_findCheapest_0 : decode cX2_findCheapest 0 = .ok (.aload_n 0, 1) := by decide +kernel
theorem dX2_findCheapest_1 : decode cX2_findCheapest 1 = .ok (.getfield 33, 3) := by decide +kernel
theorem dX2_findCheapest_4 : decode cX2_findCheapest 4 = .ok (.ldc2_w 106, 3) := by decide +kernel
theorem dX2_findCheapest_7 : decode cX2_findCheapest 7 = .ok (.invokestatic 108, 3) := by decide +kernel
theorem dX2_findCheapest_10 : decode cX2_findCheapest 10 = .ok (.aload_n 0, 1) := by decide +kernel
theorem dX2_findCheapest_11 : decode cX2_findCheapest 11 = .ok (.getfield 33, 3) := by decide +kernel
theorem dX2_findCheapest_14 : decode cX2_findCheapest 14 = .ok (.iload_n 2, 1) := by decide +kernel
theorem dX2_findCheapest_15 : decode cX2_findCheapest 15 = .ok (.lconst 0, 1) := by decide +kernel
theorem dX2_findCheapest_16 : decode cX2_findCheapest 16 = .ok (.lastore, 1) := by decide +kernel
theorem dX2_findCheapest_17 : decode cX2_findCheapest 17 = .ok (.iconst 1, 1) := by decide +kernel
theorem dX2_findCheapest_18 : decode cX2_findCheapest 18 = .ok (.istore 4, 2) := by decide +kernel
theorem dX2_findCheapest_20 : decode cX2_findCheapest 20 = .ok (.iconst 0, 1) := by decide +kernel
theorem dX2_findCheapest_21 : decode cX2_findCheapest 21 = .ok (.istore 5, 2) := by decide +kernel
theorem dX2_findCheapest_23 : decode cX2_findCheapest 23 = .ok (.iload 5, 2) := by decide +kernel
theorem dX2_findCheapest_25 : decode cX2_findCheapest 25 = .ok (.iload_n 1, 1) := by decide +kernel
theorem dX2_findCheapest_26 : decode cX2_findCheapest 26 = .ok (.if_icmp .ge 136, 3) := by decide +kernel
theorem dX2_findCheapest_29 : decode cX2_findCheapest 29 = .ok (.iload 4, 2) := by decide +kernel
theorem dX2_findCheapest_31 : decode cX2_findCheapest 31 = .ok (.ifCond .eq 131, 3) := by decide +kernel
theorem dX2_findCheapest_34 : decode cX2_findCheapest 34 = .ok (.iconst 0, 1) := by decide +kernel
theorem dX2_findCheapest_35 : decode cX2_findCheapest 35 = .ok (.istore 4, 2) := by decide +kernel
theorem dX2_findCheapest_37 : decode cX2_findCheapest 37 = .ok (.iconst 0, 1) := by decide +kernel
theorem dX2_findCheapest_38 : decode cX2_findCheapest 38 = .ok (.istore 6, 2) := by decide +kernel
theorem dX2_findCheapest_40 : decode cX2_findCheapest 40 = .ok (.iload 6, 2) := by decide +kernel
theorem dX2_findCheapest_42 : decode cX2_findCheapest 42 = .ok (.aload_n 0, 1) := by decide +kernel
theorem dX2_findCheapest_43 : decode cX2_findCheapest 43 = .ok (.getfield 89, 3) := by decide +kernel
theorem dX2_findCheapest_46 : decode cX2_findCheapest 46 = .ok (.if_icmp .ge 110, 3) := by decide +kernel
theorem dX2_findCheapest_49 : decode cX2_findCheapest 49 = .ok (.aload_n 0, 1) := by decide +kernel
theorem dX2_findCheapest_50 : decode cX2_findCheapest 50 = .ok (.getfield 33, 3) := by decide +kernel
theorem dX2_findCheapest_53 : decode cX2_findCheapest 53 = .ok (.aload_n 0, 1) := by decide +kernel
theorem dX2_findCheapest_54 : decode cX2_findCheapest 54 = .ok (.getfield 21, 3) := by decide +kernel
theorem dX2_findCheapest_57 : decode cX2_findCheapest 57 = .ok (.iload 6, 2) := by decide +kernel
theorem dX2_findCheapest_59 : decode cX2_findCheapest 59 = .ok (.iaload, 1) := by decide +kernel
theorem dX2_findCheapest_60 : decode cX2_findCheapest 60 = .ok (.laload, 1) := by decide +kernel
theorem dX2_findCheapest_61 : decode cX2_findCheapest 61 = .ok (.aload_n 0, 1) := by decide +kernel
theorem dX2_findCheapest_62 : decode cX2_findCheapest 62 = .ok (.getfield 30, 3) := by decide +kernel
theorem dX2_findCheapest_65 : decode cX2_findCheapest 65 = .ok (.iload 6, 2) := by decide +kernel
theorem dX2_findCheapest_67 : decode cX2_findCheapest 67 = .ok (.iaload, 1) := by decide +kernel
theorem dX2_findCheapest_68 : decode cX2_findCheapest 68 = .ok (.i2l, 1) := by decide +kernel
theorem dX2_findCheapest_69 : decode cX2_findCheapest 69 = .ok (.ladd, 1) := by decide +kernel
theorem dX2_findCheapest_70 : decode cX2_findCheapest 70 = .ok (.lstore 7, 2) := by decide +kernel
theorem dX2_findCheapest_72 : decode cX2_findCheapest 72 = .ok (.aload_n 0, 1) := by decide +kernel
theorem dX2_findCheapest_73 : decode cX2_findCheapest 73 = .ok (.getfield 27, 3) := by decide +kernel
theorem dX2_findCheapest_76 : decode cX2_findCheapest 76 = .ok (.iload 6, 2) := by decide +kernel
theorem dX2_findCheapest_78 : decode cX2_findCheapest 78 = .ok (.iaload, 1) := by decide +kernel
theorem dX2_findCheapest_79 : decode cX2_findCheapest 79 = .ok (.ifCond .le 71, 3) := by decide +kernel
theorem dX2_findCheapest_82 : decode cX2_findCheapest 82 = .ok (.aload_n 0, 1) := by decide +kernel
theorem dX2_findCheapest_83 : decode cX2_findCheapest 83 = .ok (.getfield 33, 3) := by decide +kernel
theorem dX2_findCheapest_86 : decode cX2_findCheapest 86 = .ok (.aload_n 0, 1) := by decide +kernel
theorem dX2_findCheapest_87 : decode cX2_findCheapest 87 = .ok (.getfield 21, 3) := by decide +kernel
theorem dX2_findCheapest_90 : decode cX2_findCheapest 90 = .ok (.iload 6, 2) := by decide +kernel
theorem dX2_findCheapest_92 : decode cX2_findCheapest 92 = .ok (.iaload, 1) := by decide +kernel
theorem dX2_findCheapest_93 : decode cX2_findCheapest 93 = .ok (.laload, 1) := by decide +kernel
theorem dX2_findCheapest_94 : decode cX2_findCheapest 94 = .ok (.ldc2_w 106, 3) := by decide +kernel
theorem dX2_findCheapest_97 : decode cX2_findCheapest 97 = .ok (.lcmp, 1) := by decide +kernel
theorem dX2_findCheapest_98 : decode cX2_findCheapest 98 = .ok (.ifCond .ge 52, 3) := by decide +kernel
theorem dX2_findCheapest_101 : decode cX2_findCheapest 101 = .ok (.lload 7, 2) := by decide +kernel
theorem dX2_findCheapest_103 : decode cX2_findCheapest 103 = .ok (.aload_n 0, 1) := by decide +kernel
theorem dX2_findCheapest_104 : decode cX2_findCheapest 104 = .ok (.getfield 33, 3) := by decide +kernel
theorem dX2_findCheapest_107 : decode cX2_findCheapest 107 = .ok (.aload_n 0, 1) := by decide +kernel
theorem dX2_findCheapest_108 : decode cX2_findCheapest 108 = .ok (.getfield 24, 3) := by decide +kernel
theorem dX2_findCheapest_111 : decode cX2_findCheapest 111 = .ok (.iload 6, 2) := by decide +kernel
theorem dX2_findCheapest_113 : decode cX2_findCheapest 113 = .ok (.iaload, 1) := by decide +kernel
theorem dX2_findCheapest_114 : decode cX2_findCheapest 114 = .ok (.laload, 1) := by decide +kernel
theorem dX2_findCheapest_115 : decode cX2_findCheapest 115 = .ok (.lcmp, 1) := by decide +kernel
theorem dX2_findCheapest_116 : decode cX2_findCheapest 116 = .ok (.ifCond .ge 34, 3) := by decide +kernel
theorem dX2_findCheapest_119 : decode cX2_findCheapest 119 = .ok (.aload_n 0, 1) := by decide +kernel
theorem dX2_findCheapest_120 : decode cX2_findCheapest 120 = .ok (.getfield 33, 3) := by decide +kernel
theorem dX2_findCheapest_123 : decode cX2_findCheapest 123 = .ok (.aload_n 0, 1) := by decide +kernel
theorem dX2_findCheapest_124 : decode cX2_findCheapest 124 = .ok (.getfield 24, 3) := by decide +kernel
theorem dX2_findCheapest_127 : decode cX2_findCheapest 127 = .ok (.iload 6, 2) := by decide +kernel
theorem dX2_findCheapest_129 : decode cX2_findCheapest 129 = .ok (.iaload, 1) := by decide +kernel
theorem dX2_findCheapest_130 : decode cX2_findCheapest 130 = .ok (.lload 7, 2) := by decide +kernel
theorem dX2_findCheapest_132 : decode cX2_findCheapest 132 = .ok (.lastore, 1) := by decide +kernel
theorem dX2_findCheapest_133 : decode cX2_findCheapest 133 = .ok (.aload_n 0, 1) := by decide +kernel
theorem dX2_findCheapest_134 : decode cX2_findCheapest 134 = .ok (.getfield 15, 3) := by decide +kernel
theorem dX2_findCheapest_137 : decode cX2_findCheapest 137 = .ok (.aload_n 0, 1) := by decide +kernel
theorem dX2_findCheapest_138 : decode cX2_findCheapest 138 = .ok (.getfield 24, 3) := by decide +kernel
theorem dX2_findCheapest_141 : decode cX2_findCheapest 141 = .ok (.iload 6, 2) := by decide +kernel
theorem dX2_findCheapest_143 : decode cX2_findCheapest 143 = .ok (.iaload, 1) := by decide +kernel
theorem dX2_findCheapest_144 : decode cX2_findCheapest 144 = .ok (.iload 6, 2) := by decide +kernel
theorem dX2_findCheapest_146 : decode cX2_findCheapest 146 = .ok (.iastore, 1) := by decide +kernel
theorem dX2_findCheapest_147 : decode cX2_findCheapest 147 = .ok (.iconst 1, 1) := by decide +kernel
theorem dX2_findCheapest_148 : decode cX2_findCheapest 148 = .ok (.istore 4, 2) := by decide +kernel
theorem dX2_findCheapest_150 : decode cX2_findCheapest 150 = .ok (.iinc 6 1, 3) := by decide +kernel
theorem dX2_findCheapest_153 : decode cX2_findCheapest 153 = .ok (.goto (-113), 3) := by decide +kernel
theorem dX2_findCheapest_156 : decode cX2_findCheapest 156 = .ok (.iinc 5 1, 3) := by decide +kernel
theorem dX2_findCheapest_159 : decode cX2_findCheapest 159 = .ok (.goto (-136), 3) := by decide +kernel
theorem dX2_findCheapest_162 : decode cX2_findCheapest 162 = .ok (.aload_n 0, 1) := by decide +kernel
theorem dX2_findCheapest_163 : decode cX2_findCheapest 163 = .ok (.getfield 33, 3) := by decide +kernel
theorem dX2_findCheapest_166 : decode cX2_findCheapest 166 = .ok (.iload_n 3, 1) := by decide +kernel
theorem dX2_findCheapest_167 : decode cX2_findCheapest 167 = .ok (.laload, 1) := by decide +kernel
theorem dX2_findCheapest_168 : decode cX2_findCheapest 168 = .ok (.ldc2_w 106, 3) := by decide +kernel
theorem dX2_findCheapest_171 : decode cX2_findCheapest 171 = .ok (.lcmp, 1) := by decide +kernel
theorem dX2_findCheapest_172 : decode cX2_findCheapest 172 = .ok (.ifCond .ge 7, 3) := by decide +kernel
theorem dX2_findCheapest_175 : decode cX2_findCheapest 175 = .ok (.iconst 1, 1) := by decide +kernel
theorem dX2_findCheapest_176 : decode cX2_findCheapest 176 = .ok (.goto 4, 3) := by decide +kernel
theorem dX2_findCheapest_179 : decode cX2_findCheapest 179 = .ok (.iconst 0, 1) := by decide +kernel
theorem dX2_findCheapest_180 : decode cX2_findCheapest 180 = .ok (.ireturn, 1) := by decide +kernel
theorem kX2_106 : Cond.constantLong RX2 106 1099511627776 ∈ g_ws (gS, X) := (tb_t (k := 1122) (w := Cond.constantLong RX2 106 1099511627776) (by decide +kernel))
theorem kX2_108 : lkK (gS, X) RX2 108 mJ7_fill_d0a16 2 ∧ Cond.static yJ7_fill_d0a16 ∈ g_ws (gS, X) := ⟨⟨tb_good, (tb_t (k := 1123) (w := Cond.methodLink RX2 108 yJ7_fill_d0a16) (by decide +kernel)), (tb_t (k := 11) (w := Cond.initialized RJ7) (by decide +kernel)), (tb_t (k := 565) (w := Cond.code yJ7_fill_d0a16 cJ7_fill_d0a16 5 none) (by decide +kernel)), by decide +kernel, by decide⟩, (tb_t (k := 564) (w := Cond.static yJ7_fill_d0a16) (by decide +kernel))⟩
theorem dX2_pushLinks_0 : decode cX2_pushLinks 0 = .ok (.ldc 85, 2) := by decide +kernel
theorem dX2_pushLinks_2 : decode cX2_pushLinks 2 = .ok (.istore_n 3, 1) := by decide +kernel
theorem dX2_pushLinks_3 : decode cX2_pushLinks 3 = .ok (.iload_n 2, 1) := by decide +kernel
theorem dX2_pushLinks_4 : decode cX2_pushLinks 4 = .ok (.istore 4, 2) := by decide +kernel
theorem dX2_pushLinks_6 : decode cX2_pushLinks 6 = .ok (.iconst 0, 1) := by decide +kernel
theorem dX2_pushLinks_7 : decode cX2_pushLinks 7 = .ok (.istore 5, 2) := by decide +kernel
theorem dX2_pushLinks_9 : decode cX2_pushLinks 9 = .ok (.iload 5, 2) := by decide +kernel
theorem dX2_pushLinks_11 : decode cX2_pushLinks 11 = .ok (.bipush 16, 2) := by decide +kernel
theorem dX2_pushLinks_13 : decode cX2_pushLinks 13 = .ok (.if_icmp .ge 46, 3) := by decide +kernel
theorem dX2_pushLinks_16 : decode cX2_pushLinks 16 = .ok (.iload 4, 2) := by decide +kernel
theorem dX2_pushLinks_18 : decode cX2_pushLinks 18 = .ok (.iload_n 1, 1) := by decide +kernel
theorem dX2_pushLinks_19 : decode cX2_pushLinks 19 = .ok (.if_icmp .eq 40, 3) := by decide +kernel
theorem dX2_pushLinks_22 : decode cX2_pushLinks 22 = .ok (.iload_n 3, 1) := by decide +kernel
theorem dX2_pushLinks_23 : decode cX2_pushLinks 23 = .ok (.aload_n 0, 1) := by decide +kernel
theorem dX2_pushLinks_24 : decode cX2_pushLinks 24 = .ok (.getfield 27, 3) := by decide +kernel
theorem dX2_pushLinks_27 : decode cX2_pushLinks 27 = .ok (.aload_n 0, 1) := by decide +kernel
theorem dX2_pushLinks_28 : decode cX2_pushLinks 28 = .ok (.getfield 15, 3) := by decide +kernel
theorem dX2_pushLinks_31 : decode cX2_pushLinks 31 = .ok (.iload 4, 2) := by decide +kernel
theorem dX2_pushLinks_33 : decode cX2_pushLinks 33 = .ok (.iaload, 1) := by decide +kernel
theorem dX2_pushLinks_34 : decode cX2_pushLinks 34 = .ok (.iaload, 1) := by decide +kernel
theorem dX2_pushLinks_35 : decode cX2_pushLinks 35 = .ok (.invokestatic 86, 3) := by decide +kernel
theorem dX2_pushLinks_38 : decode cX2_pushLinks 38 = .ok (.istore_n 3, 1) := by decide +kernel
theorem dX2_pushLinks_39 : decode cX2_pushLinks 39 = .ok (.aload_n 0, 1) := by decide +kernel
theorem dX2_pushLinks_40 : decode cX2_pushLinks 40 = .ok (.getfield 21, 3) := by decide +kernel
theorem dX2_pushLinks_43 : decode cX2_pushLinks 43 = .ok (.aload_n 0, 1) := by decide +kernel
theorem dX2_pushLinks_44 : decode cX2_pushLinks 44 = .ok (.getfield 15, 3) := by decide +kernel
theorem dX2_pushLinks_47 : decode cX2_pushLinks 47 = .ok (.iload 4, 2) := by decide +kernel
theorem dX2_pushLinks_49 : decode cX2_pushLinks 49 = .ok (.iaload, 1) := by decide +kernel
theorem dX2_pushLinks_50 : decode cX2_pushLinks 50 = .ok (.iaload, 1) := by decide +kernel
theorem dX2_pushLinks_51 : decode cX2_pushLinks 51 = .ok (.istore 4, 2) := by decide +kernel
theorem dX2_pushLinks_53 : decode cX2_pushLinks 53 = .ok (.iinc 5 1, 3) := by decide +kernel
theorem dX2_pushLinks_56 : decode cX2_pushLinks 56 = .ok (.goto (-47), 3) := by decide +kernel
theorem dX2_pushLinks_59 : decode cX2_pushLinks 59 = .ok (.iload_n 2, 1) := by decide +kernel
theorem dX2_pushLinks_60 : decode cX2_pushLinks 60 = .ok (.istore 4, 2) := by decide +kernel
theorem dX2_pushLinks_62 : decode cX2_pushLinks 62 = .ok (.iconst 0, 1) := by decide +kernel
theorem dX2_pushLinks_63 : decode cX2_pushLinks 63 = .ok (.istore 5, 2) := by decide +kernel
theorem dX2_pushLinks_65 : decode cX2_pushLinks 65 = .ok (.iload 5, 2) := by decide +kernel
theorem dX2_pushLinks_67 : decode cX2_pushLinks 67 = .ok (.bipush 16, 2) := by decide +kernel
theorem dX2_pushLinks_69 : decode cX2_pushLinks 69 = .ok (.if_icmp .ge 57, 3) := by decide +kernel
theorem dX2_pushLinks_72 : decode cX2_pushLinks 72 = .ok (.iload 4, 2) := by decide +kernel
theorem dX2_pushLinks_74 : decode cX2_pushLinks 74 = .ok (.iload_n 1, 1) := by decide +kernel
theorem dX2_pushLinks_75 : decode cX2_pushLinks 75 = .ok (.if_icmp .eq 51, 3) := by decide +kernel
theorem dX2_pushLinks_78 : decode cX2_pushLinks 78 = .ok (.aload_n 0, 1) := by decide +kernel
theorem dX2_pushLinks_79 : decode cX2_pushLinks 79 = .ok (.getfield 15, 3) := by decide +kernel
theorem dX2_pushLinks_82 : decode cX2_pushLinks 82 = .ok (.iload 4, 2) := by decide +kernel
theorem dX2_pushLinks_84 : decode cX2_pushLinks 84 = .ok (.iaload, 1) := by decide +kernel
theorem dX2_pushLinks_85 : decode cX2_pushLinks 85 = .ok (.istore 6, 2) := by decide +kernel
theorem dX2_pushLinks_87 : decode cX2_pushLinks 87 = .ok (.aload_n 0, 1) := by decide +kernel
theorem dX2_pushLinks_88 : decode cX2_pushLinks 88 = .ok (.getfield 27, 3) := by decide +kernel
theorem dX2_pushLinks_91 : decode cX2_pushLinks 91 = .ok (.iload 6, 2) := by decide +kernel
theorem dX2_pushLinks_93 : decode cX2_pushLinks 93 = .ok (.dup2, 1) := by decide +kernel
theorem dX2_pushLinks_94 : decode cX2_pushLinks 94 = .ok (.iaload, 1) := by decide +kernel
theorem dX2_pushLinks_95 : decode cX2_pushLinks 95 = .ok (.iload_n 3, 1) := by decide +kernel
theorem dX2_pushLinks_96 : decode cX2_pushLinks 96 = .ok (.isub, 1) := by decide +kernel
theorem dX2_pushLinks_97 : decode cX2_pushLinks 97 = .ok (.iastore, 1) := by decide +kernel
theorem dX2_pushLinks_98 : decode cX2_pushLinks 98 = .ok (.aload_n 0, 1) := by decide +kernel
theorem dX2_pushLinks_99 : decode cX2_pushLinks 99 = .ok (.getfield 27, 3) := by decide +kernel
theorem dX2_pushLinks_102 : decode cX2_pushLinks 102 = .ok (.iload 6, 2) := by decide +kernel
theorem dX2_pushLinks_104 : decode cX2_pushLinks 104 = .ok (.iconst 1, 1) := by decide +kernel
theorem dX2_pushLinks_105 : decode cX2_pushLinks 105 = .ok (.ixor, 1) := by decide +kernel
theorem dX2_pushLinks_106 : decode cX2_pushLinks 106 = .ok (.dup2, 1) := by decide +kernel
theorem dX2_pushLinks_107 : decode cX2_pushLinks 107 = .ok (.iaload, 1) := by decide +kernel
theorem dX2_pushLinks_108 : decode cX2_pushLinks 108 = .ok (.iload_n 3, 1) := by decide +kernel
theorem dX2_pushLinks_109 : decode cX2_pushLinks 109 = .ok (.iadd, 1) := by decide +kernel
theorem dX2_pushLinks_110 : decode cX2_pushLinks 110 = .ok (.iastore, 1) := by decide +kernel
theorem dX2_pushLinks_111 : decode cX2_pushLinks 111 = .ok (.aload_n 0, 1) := by decide +kernel
theorem dX2_pushLinks_112 : decode cX2_pushLinks 112 = .ok (.getfield 21, 3) := by decide +kernel
theorem dX2_pushLinks_115 : decode cX2_pushLinks 115 = .ok (.iload 6, 2) := by decide +kernel
theorem dX2_pushLinks_117 : decode cX2_pushLinks 117 = .ok (.iaload, 1) := by decide +kernel
theorem dX2_pushLinks_118 : decode cX2_pushLinks 118 = .ok (.istore 4, 2) := by decide +kernel
theorem dX2_pushLinks_120 : decode cX2_pushLinks 120 = .ok (.iinc 5 1, 3) := by decide +kernel
theorem dX2_pushLinks_123 : decode cX2_pushLinks 123 = .ok (.goto (-58), 3) := by decide +kernel
theorem dX2_pushLinks_126 : decode cX2_pushLinks 126 = .ok (.iload_n 3, 1) := by decide +kernel
theorem dX2_pushLinks_127 : decode cX2_pushLinks 127 = .ok (.i2l, 1) := by decide +kernel
theorem dX2_pushLinks_128 : decode cX2_pushLinks 128 = .ok (.lreturn, 1) := by decide +kernel
theorem dX4_greatest_0 : decode cX4_greatest 0 = .ok (.aload_n 0, 1) := by decide +kernel
theorem dX4_greatest_1 : decode cX4_greatest 1 = .ok (.getfield 9, 3) := by decide +kernel
theorem dX4_greatest_4 : decode cX4_greatest 4 = .ok (.iconst (-1), 1) := by decide +kernel
theorem dX4_greatest_5 : decode cX4_greatest 5 = .ok (.invokestatic 24, 3) := by decide +kernel
theorem dX4_greatest_8 : decode cX4_greatest 8 = .ok (.iconst 0, 1) := by decide +kernel
theorem dX4_greatest_9 : decode cX4_greatest 9 = .ok (.istore_n 2, 1) := by decide +kernel
theorem dX4_greatest_10 : decode cX4_greatest 10 = .ok (.iconst 0, 1) := by decide +kernel
theorem dX4_greatest_11 : decode cX4_greatest 11 = .ok (.istore_n 3, 1) := by decide +kernel
theorem dX4_greatest_12 : decode cX4_greatest 12 = .ok (.iload_n 3, 1) := by decide +kernel
theorem dX4_greatest_13 : decode cX4_greatest 13 = .ok (.aload_n 1, 1) := by decide +kernel
theorem dX4_greatest_14 : decode cX4_greatest 14 = .ok (.getfield 30, 3) := by decide +kernel
theorem dX4_greatest_17 : decode cX4_greatest 17 = .ok (.if_icmp .ge 44, 3) := by decide +kernel
theorem dX4_greatest_20 : decode cX4_greatest 20 = .ok (.aload_n 0, 1) := by decide +kernel
theorem dX4_greatest_21 : decode cX4_greatest 21 = .ok (.getfield 9, 3) := by decide +kernel
theorem dX4_greatest_24 : decode cX4_greatest 24 = .ok (.iload_n 3, 1) := by decide +kernel
theorem dX4_greatest_25 : decode cX4_greatest 25 = .ok (.iaload, 1) := by decide +kernel
theorem dX4_greatest_26 : decode cX4_greatest 26 = .ok (.ifCond .ge 29, 3) := by decide +kernel
theorem dX4_greatest_29 : decode cX4_greatest 29 = .ok (.aload_n 0, 1) := by decide +kernel
theorem dX4_greatest_30 : decode cX4_greatest 30 = .ok (.aload_n 1, 1) := by decide +kernel
theorem dX4_greatest_31 : decode cX4_greatest 31 = .ok (.getfield 36, 3) := by decide +kernel
theorem dX4_greatest_34 : decode cX4_greatest 34 = .ok (.iload_n 3, 1) := by decide +kernel
theorem dX4_greatest_35 : decode cX4_greatest 35 = .ok (.iconst 0, 1) := by decide +kernel
theorem dX4_greatest_36 : decode cX4_greatest 36 = .ok (.invokevirtual 39, 3) := by decide +kernel
theorem dX4_greatest_39 : decode cX4_greatest 39 = .ok (.istore 4, 2) := by decide +kernel
theorem dX4_greatest_41 : decode cX4_greatest 41 = .ok (.iload 4, 2) := by decide +kernel
theorem dX4_greatest_43 : decode cX4_greatest 43 = .ok (.ifCond .lt 12, 3) := by decide +kernel
theorem dX4_greatest_46 : decode cX4_greatest 46 = .ok (.aload_n 0, 1) := by decide +kernel
theorem dX4_greatest_47 : decode cX4_greatest 47 = .ok (.iload 4, 2) := by decide +kernel
theorem dX4_greatest_49 : decode cX4_greatest 49 = .ok (.invokevirtual 43, 3) := by decide +kernel
theorem dX4_greatest_52 : decode cX4_greatest 52 = .ok (.iinc 2 1, 3) := by decide +kernel
theorem dX4_greatest_55 : decode cX4_greatest 55 = .ok (.iinc 3 1, 3) := by decide +kernel
theorem dX4_greatest_58 : decode cX4_greatest 58 = .ok (.goto (-46), 3) := by decide +kernel
theorem dX4_greatest_61 : decode cX4_greatest 61 = .ok (.iload_n 2, 1) := by decide +kernel
theorem dX4_greatest_62 : decode cX4_greatest 62 = .ok (.ireturn, 1) := by decide +kernel
theorem kX4_24 : lkK (gS, X) RX4 24 mJ7_fill_53178 2 ∧ Cond.static yJ7_fill_53178 ∈ g_ws (gS, X) := ⟨⟨tb_good, (tb_t (k := 1018) (w := Cond.methodLink RX4 24 yJ7_fill_53178) (by decide +kernel)), (tb_t (k := 11) (w := Cond.initialized RJ7) (by decide +kernel)), (tb_t (k := 457) (w := Cond.code yJ7_fill_53178 cJ7_fill_53178 4 none) (by decide +kernel)), by decide +kernel, by decide⟩, (tb_t (k := 456) (w := Cond.static yJ7_fill_53178) (by decide +kernel))⟩
theorem fX4_30 : lkF (gS, X) RX4 30 3 0 "GraphEngine$Graph" RX3 TX3 14 := ⟨rfl, inX3, by decide, (tb_t (k := 359) (w := Cond.fieldLink RX4 30 "GraphEngine$Graph" "nodes" "I") (by decide +kernel)), Or.inr (tb_t (k := 351) (w := Cond.sameField "GraphEngine$Graph" "GraphEngine$Thing" "nodes" "I") (by decide +kernel))⟩
theorem fX4_36 : lkF (gS, X) RX4 36 3 13 "GraphEngine$Graph" RX3 TX3 14 := ⟨rfl, inX3, by decide, (tb_t (k := 347) (w := Cond.fieldLink RX4 36 "GraphEngine$Graph" "joined" "[I") (by decide +kernel)), Or.inl rfl⟩
theorem kX4_39 : lkK (gS, X) RX4 39 mX4_search 3 ∧ Cond.instanceMethod yX4_search ∈ g_ws (gS, X) ∧ Cond.selects RX4 yX4_search yX4_search ∈ g_ws (gS, X) ∧ yX4_search.cls = RX4 := ⟨⟨tb_good, (tb_t (k := 1019) (w := Cond.methodLink RX4 39 yX4_search) (by decide +kernel)), (tb_t (k := 5) (w := Cond.initialized RX4) (by decide +kernel)), (tb_t (k := 1022) (w := Cond.code yX4_search cX4_search 7 (some .int)) (by decide +kernel)), by decide +kernel, by decide⟩, (tb_t (k := 1021) (w := Cond.instanceMethod yX4_search) (by decide +kernel)), (tb_p (k := 61) (q := (yX4_search, 6)) (by decide +kernel)), rfl⟩
theorem kX4_43 : lkK (gS, X) RX4 43 mX4_flip 1 ∧ Cond.instanceMethod yX4_flip ∈ g_ws (gS, X) ∧ Cond.selects RX4 yX4_flip yX4_flip ∈ g_ws (gS, X) ∧ yX4_flip.cls = RX4 := ⟨⟨tb_good, (tb_t (k := 1039) (w := Cond.methodLink RX4 43 yX4_flip) (by decide +kernel)), (tb_t (k := 5) (w := Cond.initialized RX4) (by decide +kernel)), (tb_t (k := 1042) (w := Cond.code yX4_flip cX4_flip 6 none) (by decide +kernel)), by decide +kernel, by decide⟩, (tb_t (k := 1041) (w := Cond.instanceMethod yX4_flip) (by decide +kernel)), (tb_p (k := 66) (q := (yX4_flip, 6)) (by decide +kernel)), rfl⟩
theorem dX4_missed_0 : decode cX4_missed 0 = .ok (.aload_n 0, 1) := by decide +kernel
theorem dX4_missed_1 : decode cX4_missed 1 = .ok (.aload_n 1, 1) := by decide +kernel
theorem dX4_missed_2 : decode cX4_missed 2 = .ok (.invokevirtual 47, 3) := by decide +kernel
theorem dX4_missed_5 : decode cX4_missed 5 = .ok (.pop, 1) := by decide +kernel
theorem dX4_missed_6 : decode cX4_missed 6 = .ok (.iconst 0, 1) := by decide +kernel
theorem dX4_missed_7 : decode cX4_missed 7 = .ok (.istore_n 2, 1) := by decide +kernel
theorem dX4_missed_8 : decode cX4_missed 8 = .ok (.iconst 0, 1) := by decide +kernel
theorem dX4_missed_9 : decode cX4_missed 9 = .ok (.istore_n 3, 1) := by decide +kernel
theorem dX4_missed_10 : decode cX4_missed 10 = .ok (.iload_n 3, 1) := by decide +kernel
theorem dX4_missed_11 : decode cX4_missed 11 = .ok (.aload_n 1, 1) := by decide +kernel
theorem dX4_missed_12 : decode cX4_missed 12 = .ok (.getfield 30, 3) := by decide +kernel
theorem dX4_missed_15 : decode cX4_missed 15 = .ok (.if_icmp .ge 73, 3) := by decide +kernel
theorem dX4_missed_18 : decode cX4_missed 18 = .ok (.aload_n 0, 1) := by decide +kernel
theorem dX4_missed_19 : decode cX4_missed 19 = .ok (.getfield 9, 3) := by decide +kernel
theorem dX4_missed_22 : decode cX4_missed 22 = .ok (.iload_n 3, 1) := by decide +kernel
theorem dX4_missed_23 : decode cX4_missed 23 = .ok (.iaload, 1) := by decide +kernel
theorem dX4_missed_24 : decode cX4_missed 24 = .ok (.istore 4, 2) := by decide +kernel
theorem dX4_missed_26 : decode cX4_missed 26 = .ok (.iload 4, 2) := by decide +kernel
theorem dX4_missed_28 : decode cX4_missed 28 = .ok (.ifCond .ge 12, 3) := by decide +kernel
theorem dX4_missed_31 : decode cX4_missed 31 = .ok (.iload_n 2, 1) := by decide +kernel
theorem dX4_missed_32 : decode cX4_missed 32 = .ok (.iconst 1, 1) := by decide +kernel
theorem dX4_missed_33 : decode cX4_missed 33 = .ok (.iload_n 3, 1) := by decide +kernel
theorem dX4_missed_34 : decode cX4_missed 34 = .ok (.ishl, 1) := by decide +kernel
theorem dX4_missed_35 : decode cX4_missed 35 = .ok (.ior, 1) := by decide +kernel
theorem dX4_missed_36 : decode cX4_missed 36 = .ok (.istore_n 2, 1) := by decide +kernel
theorem dX4_missed_37 : decode cX4_missed 37 = .ok (.goto 45, 3) := by decide +kernel
theorem dX4_missed_40 : decode cX4_missed 40 = .ok (.aload_n 0, 1) := by decide +kernel
theorem dX4_missed_41 : decode cX4_missed 41 = .ok (.getfield 9, 3) := by decide +kernel
theorem dX4_missed_44 : decode cX4_missed 44 = .ok (.iload 4, 2) := by decide +kernel
theorem dX4_missed_46 : decode cX4_missed 46 = .ok (.iconst (-1), 1) := by decide +kernel
theorem dX4_missed_47 : decode cX4_missed 47 = .ok (.iastore, 1) := by decide +kernel
theorem dX4_missed_48 : decode cX4_missed 48 = .ok (.iload_n 2, 1) := by decide +kernel
theorem dX4_missed_49 : decode cX4_missed 49 = .ok (.aload_n 0, 1) := by decide +kernel
theorem dX4_missed_50 : decode cX4_missed 50 = .ok (.aload_n 1, 1) := by decide +kernel
theorem dX4_missed_51 : decode cX4_missed 51 = .ok (.getfield 36, 3) := by decide +kernel
theorem dX4_missed_54 : decode cX4_missed 54 = .ok (.iload 4, 2) := by decide +kernel
theorem dX4_missed_56 : decode cX4_missed 56 = .ok (.iconst 1, 1) := by decide +kernel
theorem dX4_missed_57 : decode cX4_missed 57 = .ok (.iload_n 3, 1) := by decide +kernel
theorem dX4_missed_58 : decode cX4_missed 58 = .ok (.ishl, 1) := by decide +kernel
theorem dX4_missed_59 : decode cX4_missed 59 = .ok (.invokevirtual 39, 3) := by decide +kernel
theorem dX4_missed_62 : decode cX4_missed 62 = .ok (.ifCond .lt 9, 3) := by decide +kernel
theorem dX4_missed_65 : decode cX4_missed 65 = .ok (.iconst 1, 1) := by decide +kernel
theorem dX4_missed_66 : decode cX4_missed 66 = .ok (.iload_n 3, 1) := by decide +kernel
theorem dX4_missed_67 : decode cX4_missed 67 = .ok (.ishl, 1) := by decide +kernel
theorem dX4_missed_68 : decode cX4_missed 68 = .ok (.goto 4, 3) := by decide +kernel
theorem dX4_missed_71 : decode cX4_missed 71 = .ok (.iconst 0, 1) := by decide +kernel
theorem dX4_missed_72 : decode cX4_missed 72 = .ok (.ior, 1) := by decide +kernel
theorem dX4_missed_73 : decode cX4_missed 73 = .ok (.istore_n 2, 1) := by decide +kernel
theorem dX4_missed_74 : decode cX4_missed 74 = .ok (.aload_n 0, 1) := by decide +kernel
theorem dX4_missed_75 : decode cX4_missed 75 = .ok (.getfield 9, 3) := by decide +kernel
theorem dX4_missed_78 : decode cX4_missed 78 = .ok (.iload 4, 2) := by decide +kernel
theorem dX4_missed_80 : decode cX4_missed 80 = .ok (.iload_n 3, 1) := by decide +kernel
theorem dX4_missed_81 : decode cX4_missed 81 = .ok (.iastore, 1) := by decide +kernel
theorem dX4_missed_82 : decode cX4_missed 82 = .ok (.iinc 3 1, 3) := by decide +kernel
theorem dX4_missed_85 : decode cX4_missed 85 = .ok (.goto (-75), 3) := by decide +kernel
theorem dX4_missed_88 : decode cX4_missed 88 = .ok (.iload_n 2, 1) := by decide +kernel
theorem dX4_missed_89 : decode cX4_missed 89 = .ok (.ireturn, 1) := by decide +kernel
theorem kX4_47 : lkK (gS, X) RX4 47 mX4_greatest 1 ∧ Cond.instanceMethod yX4_greatest ∈ g_ws (gS, X) ∧ Cond.selects RX4 yX4_greatest yX4_greatest ∈ g_ws (gS, X) ∧ yX4_greatest.cls = RX4 := ⟨⟨tb_good, (tb_t (k := 1047) (w := Cond.methodLink RX4 47 yX4_greatest) (by decide +kernel)), (tb_t (k := 5) (w := Cond.initialized RX4) (by decide +kernel)), (tb_t (k := 1017) (w := Cond.code yX4_greatest cX4_greatest 5 (some .int)) (by decide +kernel)), by decide +kernel, by decide⟩, (tb_t (k := 1015) (w := Cond.instanceMethod yX4_greatest) (by decide +kernel)), (tb_t (k := 1016) (w := Cond.selects RX4 yX4_greatest yX4_greatest) (by decide +kernel)), rfl⟩
theorem dX4_search_0 : decode cX4_search 0 = .ok (.aload_n 0, 1) := by decide +kernel
theorem dX4_search_1 : decode cX4_search 1 = .ok (.getfield 15, 3) := by decide +kernel
theorem dX4_search_4 : decode cX4_search 4 = .ok (.iconst (-1), 1) := by decide +kernel
theorem dX4_search_5 : decode cX4_search 5 = .ok (.invokestatic 24, 3) := by decide +kernel
theorem dX4_search_8 : decode cX4_search 8 = .ok (.iconst 0, 1) := by decide +kernel
theorem dX4_search_9 : decode cX4_search 9 = .ok (.istore 4, 2) := by decide +kernel
theorem dX4_search_11 : decode cX4_search 11 = .ok (.iload 4, 2) := by decide +kernel
theorem dX4_search_13 : decode cX4_search 13 = .ok (.bipush 16, 2) := by decide +kernel
theorem dX4_search_15 : decode cX4_search 15 = .ok (.if_icmp .ge 18, 3) := by decide +kernel
theorem dX4_search_18 : decode cX4_search 18 = .ok (.aload_n 0, 1) := by decide +kernel
theorem dX4_search_19 : decode cX4_search 19 = .ok (.getfield 18, 3) := by decide +kernel
theorem dX4_search_22 : decode cX4_search 22 = .ok (.iload 4, 2) := by decide +kernel
theorem dX4_search_24 : decode cX4_search 24 = .ok (.iload 4, 2) := by decide +kernel
theorem dX4_search_26 : decode cX4_search 26 = .ok (.iastore, 1) := by decide +kernel
theorem dX4_search_27 : decode cX4_search 27 = .ok (.iinc 4 1, 3) := by decide +kernel
theorem dX4_search_30 : decode cX4_search 30 = .ok (.goto (-19), 3) := by decide +kernel
theorem dX4_search_33 : decode cX4_search 33 = .ok (.aload_n 0, 1) := by decide +kernel
theorem dX4_search_34 : decode cX4_search 34 = .ok (.iconst 0, 1) := by decide +kernel
theorem dX4_search_35 : decode cX4_search 35 = .ok (.putfield 51, 3) := by decide +kernel
theorem dX4_search_38 : decode cX4_search 38 = .ok (.aload_n 0, 1) := by decide +kernel
theorem dX4_search_39 : decode cX4_search 39 = .ok (.iconst 0, 1) := by decide +kernel
theorem dX4_search_40 : decode cX4_search 40 = .ok (.putfield 54, 3) := by decide +kernel
theorem dX4_search_43 : decode cX4_search 43 = .ok (.aload_n 0, 1) := by decide +kernel
theorem dX4_search_44 : decode cX4_search 44 = .ok (.iload_n 2, 1) := by decide +kernel
theorem dX4_search_45 : decode cX4_search 45 = .ok (.invokevirtual 57, 3) := by decide +kernel
theorem dX4_search_48 : decode cX4_search 48 = .ok (.iconst 0, 1) := by decide +kernel
theorem dX4_search_49 : decode cX4_search 49 = .ok (.istore 4, 2) := by decide +kernel
theorem dX4_search_51 : decode cX4_search 51 = .ok (.iload 4, 2) := by decide +kernel
theorem dX4_search_53 : decode cX4_search 53 = .ok (.bipush 16, 2) := by decide +kernel
theorem dX4_search_55 : decode cX4_search 55 = .ok (.if_icmp .ge 173, 3) := by decide +kernel
theorem dX4_search_58 : decode cX4_search 58 = .ok (.iload 4, 2) := by decide +kernel
theorem dX4_search_60 : decode cX4_search 60 = .ok (.aload_n 0, 1) := by decide +kernel
theorem dX4_search_61 : decode cX4_search 61 = .ok (.getfield 51, 3) := by decide +kernel
theorem dX4_search_64 : decode cX4_search 64 = .ok (.if_icmp .ge 164, 3) := by decide +kernel
theorem dX4_search_67 : decode cX4_search 67 = .ok (.aload_n 0, 1) := by decide +kernel
theorem dX4_search_68 : decode cX4_search 68 = .ok (.getfield 21, 3) := by decide +kernel
theorem dX4_search_71 : decode cX4_search 71 = .ok (.iload 4, 2) := by decide +kernel
theorem dX4_search_73 : decode cX4_search 73 = .ok (.iaload, 1) := by decide +kernel
theorem dX4_search_74 : decode cX4_search 74 = .ok (.istore 5, 2) := by decide +kernel
theorem dX4_search_76 : decode cX4_search 76 = .ok (.iconst 0, 1) := by decide +kernel
theorem dX4_search_77 : decode cX4_search 77 = .ok (.istore 6, 2) := by decide +kernel
theorem dX4_search_79 : decode cX4_search 79 = .ok (.iload 6, 2) := by decide +kernel
theorem dX4_search_81 : decode cX4_search 81 = .ok (.aload_n 1, 1) := by decide +kernel
theorem dX4_search_82 : decode cX4_search 82 = .ok (.arraylength, 1) := by decide +kernel
theorem dX4_search_83 : decode cX4_search 83 = .ok (.if_icmp .ge 139, 3) := by decide +kernel
theorem dX4_search_86 : decode cX4_search 86 = .ok (.aload_n 1, 1) := by decide +kernel
theorem dX4_search_87 : decode cX4_search 87 = .ok (.iload 5, 2) := by decide +kernel
theorem dX4_search_89 : decode cX4_search 89 = .ok (.iaload, 1) := by decide +kernel
theorem dX4_search_90 : decode cX4_search 90 = .ok (.iload_n 3, 1) := by decide +kernel
theorem dX4_search_91 : decode cX4_search 91 = .ok (.iconst (-1), 1) := by decide +kernel
theorem dX4_search_92 : decode cX4_search 92 = .ok (.ixor, 1) := by decide +kernel
theorem dX4_search_93 : decode cX4_search 93 = .ok (.iand, 1) := by decide +kernel
theorem dX4_search_94 : decode cX4_search 94 = .ok (.iload 6, 2) := by decide +kernel
theorem dX4_search_96 : decode cX4_search 96 = .ok (.ishr, 1) := by decide +kernel
theorem dX4_search_97 : decode cX4_search 97 = .ok (.iconst 1, 1) := by decide +kernel
theorem dX4_search_98 : decode cX4_search 98 = .ok (.iand, 1) := by decide +kernel
theorem dX4_search_99 : decode cX4_search 99 = .ok (.ifCond .eq 117, 3) := by decide +kernel
theorem dX4_search_102 : decode cX4_search 102 = .ok (.aload_n 0, 1) := by decide +kernel
theorem dX4_search_103 : decode cX4_search 103 = .ok (.getfield 18, 3) := by decide +kernel
theorem dX4_search_106 : decode cX4_search 106 = .ok (.iload 5, 2) := by decide +kernel
theorem dX4_search_108 : decode cX4_search 108 = .ok (.iaload, 1) := by decide +kernel
theorem dX4_search_109 : decode cX4_search 109 = .ok (.aload_n 0, 1) := by decide +kernel
theorem dX4_search_110 : decode cX4_search 110 = .ok (.getfield 18, 3) := by decide +kernel
theorem dX4_search_113 : decode cX4_search 113 = .ok (.iload 6, 2) := by decide +kernel
theorem dX4_search_115 : decode cX4_search 115 = .ok (.iaload, 1) := by decide +kernel
theorem dX4_search_116 : decode cX4_search 116 = .ok (.if_icmp .eq 100, 3) := by decide +kernel
theorem dX4_search_119 : decode cX4_search 119 = .ok (.aload_n 0, 1) := by decide +kernel
theorem dX4_search_120 : decode cX4_search 120 = .ok (.getfield 9, 3) := by decide +kernel
theorem dX4_search_123 : decode cX4_search 123 = .ok (.iload 5, 2) := by decide +kernel
theorem dX4_search_125 : decode cX4_search 125 = .ok (.iaload, 1) := by decide +kernel
theorem dX4_search_126 : decode cX4_search 126 = .ok (.iload 6, 2) := by decide +kernel
theorem dX4_search_128 : decode cX4_search 128 = .ok (.if_icmp .eq 88, 3) := by decide +kernel
theorem dX4_search_131 : decode cX4_search 131 = .ok (.iload 6, 2) := by decide +kernel
theorem dX4_search_133 : decode cX4_search 133 = .ok (.iload_n 2, 1) := by decide +kernel
theorem dX4_search_134 : decode cX4_search 134 = .ok (.if_icmp .eq 28, 3) := by decide +kernel
theorem dX4_search_137 : decode cX4_search 137 = .ok (.aload_n 0, 1) := by decide +kernel
theorem dX4_search_138 : decode cX4_search 138 = .ok (.getfield 9, 3) := by decide +kernel
theorem dX4_search_141 : decode cX4_search 141 = .ok (.iload 6, 2) := by decide +kernel
theorem dX4_search_143 : decode cX4_search 143 = .ok (.iaload, 1) := by decide +kernel
theorem dX4_search_144 : decode cX4_search 144 = .ok (.ifCond .lt 29, 3) := by decide +kernel
theorem dX4_search_147 : decode cX4_search 147 = .ok (.aload_n 0, 1) := by decide +kernel
theorem dX4_search_148 : decode cX4_search 148 = .ok (.getfield 15, 3) := by decide +kernel
theorem dX4_search_151 : decode cX4_search 151 = .ok (.aload_n 0, 1) := by decide +kernel
theorem dX4_search_152 : decode cX4_search 152 = .ok (.getfield 9, 3) := by decide +kernel
theorem dX4_search_155 : decode cX4_search 155 = .ok (.iload 6, 2) := by decide +kernel
theorem dX4_search_157 : decode cX4_search 157 = .ok (.iaload, 1) := by decide +kernel
theorem dX4_search_158 : decode cX4_search 158 = .ok (.iaload, 1) := by decide +kernel
theorem dX4_search_159 : decode cX4_search 159 = .ok (.ifCond .lt 14, 3) := by decide +kernel
theorem dX4_search_162 : decode cX4_search 162 = .ok (.aload_n 0, 1) := by decide +kernel
theorem dX4_search_163 : decode cX4_search 163 = .ok (.iload 5, 2) := by decide +kernel
theorem dX4_search_165 : decode cX4_search 165 = .ok (.iload 6, 2) := by decide +kernel
theorem dX4_search_167 : decode cX4_search 167 = .ok (.invokevirtual 60, 3) := by decide +kernel
theorem dX4_search_170 : decode cX4_search 170 = .ok (.goto 46, 3) := by decide +kernel
theorem dX4_search_173 : decode cX4_search 173 = .ok (.aload_n 0, 1) := by decide +kernel
theorem dX4_search_174 : decode cX4_search 174 = .ok (.getfield 15, 3) := by decide +kernel
theorem dX4_search_177 : decode cX4_search 177 = .ok (.iload 6, 2) := by decide +kernel
theorem dX4_search_179 : decode cX4_search 179 = .ok (.iaload, 1) := by decide +kernel
theorem dX4_search_180 : decode cX4_search 180 = .ok (.ifCond .ge 36, 3) := by decide +kernel
theorem dX4_search_183 : decode cX4_search 183 = .ok (.aload_n 0, 1) := by decide +kernel
theorem dX4_search_184 : decode cX4_search 184 = .ok (.getfield 15, 3) := by decide +kernel
theorem dX4_search_187 : decode cX4_search 187 = .ok (.iload 6, 2) := by decide +kernel
theorem dX4_search_189 : decode cX4_search 189 = .ok (.iload 5, 2) := by decide +kernel
theorem dX4_search_191 : decode cX4_search 191 = .ok (.iastore, 1) := by decide +kernel
theorem dX4_search_192 : decode cX4_search 192 = .ok (.aload_n 0, 1) := by decide +kernel
theorem dX4_search_193 : decode cX4_search 193 = .ok (.getfield 9, 3) := by decide +kernel
theorem dX4_search_196 : decode cX4_search 196 = .ok (.iload 6, 2) := by decide +kernel
theorem dX4_search_198 : decode cX4_search 198 = .ok (.iaload, 1) := by decide +kernel
theorem dX4_search_199 : decode cX4_search 199 = .ok (.ifCond .ge 6, 3) := by decide +kernel
theorem dX4_search_202 : decode cX4_search 202 = .ok (.iload 6, 2) := by decide +kernel
theorem dX4_search_204 : decode cX4_search 204 = .ok (.ireturn, 1) := by decide +kernel
theorem dX4_search_205 : decode cX4_search 205 = .ok (.aload_n 0, 1) := by decide +kernel
theorem dX4_search_206 : decode cX4_search 206 = .ok (.aload_n 0, 1) := by decide +kernel
theorem dX4_search_207 : decode cX4_search 207 = .ok (.getfield 9, 3) := by decide +kernel
theorem dX4_search_210 : decode cX4_search 210 = .ok (.iload 6, 2) := by decide +kernel
theorem dX4_search_212 : decode cX4_search 212 = .ok (.iaload, 1) := by decide +kernel
theorem dX4_search_213 : decode cX4_search 213 = .ok (.invokevirtual 57, 3) := by decide +kernel
theorem dX4_search_216 : decode cX4_search 216 = .ok (.iinc 6 1, 3) := by decide +kernel
theorem dX4_search_219 : decode cX4_search 219 = .ok (.goto (-140), 3) := by decide +kernel
theorem dX4_search_222 : decode cX4_search 222 = .ok (.iinc 4 1, 3) := by decide +kernel
theorem dX4_search_225 : decode cX4_search 225 = .ok (.goto (-174), 3) := by decide +kernel
theorem dX4_search_228 : decode cX4_search 228 = .ok (.iconst (-1), 1) := by decide +kernel
theorem dX4_search_229 : decode cX4_search 229 = .ok (.ireturn, 1) := by decide +kernel
theorem fX4_51 : lkF (gS, X) RX4 51 4 4 "GraphEngine$Pairs" RX4 TX4 6 := ⟨rfl, inX4, by decide, (tb_t (k := 112) (w := Cond.fieldLink RX4 51 "GraphEngine$Pairs" "waiting" "I") (by decide +kernel)), Or.inl rfl⟩
theorem fX4_54 : lkF (gS, X) RX4 54 4 5 "GraphEngine$Pairs" RX4 TX4 6 := ⟨rfl, inX4, by decide, (tb_t (k := 113) (w := Cond.fieldLink RX4 54 "GraphEngine$Pairs" "queued" "I") (by decide +kernel)), Or.inl rfl⟩
theorem kX4_57 : lkK (gS, X) RX4 57 mX4_enqueue 1 ∧ Cond.instanceMethod yX4_enqueue ∈ g_ws (gS, X) ∧ Cond.selects RX4 yX4_enqueue yX4_enqueue ∈ g_ws (gS, X) ∧ yX4_enqueue.cls = RX4 := ⟨⟨tb_good, (tb_t (k := 1023) (w := Cond.methodLink RX4 57 yX4_enqueue) (by decide +kernel)), (tb_t (k := 5) (w := Cond.initialized RX4) (by decide +kernel)), (tb_t (k := 1026) (w := Cond.code yX4_enqueue cX4_enqueue 2 none) (by decide +kernel)), by decide +kernel, by decide⟩, (tb_t (k := 1025) (w := Cond.instanceMethod yX4_enqueue) (by decide +kernel)), (tb_p (k := 62) (q := (yX4_enqueue, 6)) (by decide +kernel)), rfl⟩
theorem kX4_60 : lkK (gS, X) RX4 60 mX4_meltRing 2 ∧ Cond.instanceMethod yX4_meltRing ∈ g_ws (gS, X) ∧ Cond.selects RX4 yX4_meltRing yX4_meltRing ∈ g_ws (gS, X) ∧ yX4_meltRing.cls = RX4 := ⟨⟨tb_good, (tb_t (k := 1027) (w := Cond.methodLink RX4 60 yX4_meltRing) (by decide +kernel)), (tb_t (k := 5) (w := Cond.initialized RX4) (by decide +kernel)), (tb_t (k := 1030) (w := Cond.code yX4_meltRing cX4_meltRing 6 none) (by decide +kernel)), by decide +kernel, by decide⟩, (tb_t (k := 1029) (w := Cond.instanceMethod yX4_meltRing) (by decide +kernel)), (tb_p (k := 63) (q := (yX4_meltRing, 6)) (by decide +kernel)), rfl⟩
theorem dX4_enqueue_0 : decode cX4_enqueue 0 = .ok (.aload_n 0, 1) := by decide +kernel
theorem dX4_enqueue_1 : decode cX4_enqueue 1 = .ok (.getfield 54, 3) := by decide +kernel
theorem dX4_enqueue_4 : decode cX4_enqueue 4 = .ok (.iload_n 1, 1) := by decide +kernel
theorem dX4_enqueue_5 : decode cX4_enqueue 5 = .ok (.ishr, 1) := by decide +kernel
theorem dX4_enqueue_6 : decode cX4_enqueue 6 = .ok (.iconst 1, 1) := by decide +kernel
theorem dX4_enqueue_7 : decode cX4_enqueue 7 = .ok (.iand, 1) := by decide +kernel
theorem dX4_enqueue_8 : decode cX4_enqueue 8 = .ok (.ifCond .ne 44, 3) := by decide +kernel
theorem dX4_enqueue_11 : decode cX4_enqueue 11 = .ok (.aload_n 0, 1) := by decide +kernel
theorem dX4_enqueue_12 : decode cX4_enqueue 12 = .ok (.getfield 51, 3) := by decide +kernel
theorem dX4_enqueue_15 : decode cX4_enqueue 15 = .ok (.bipush 16, 2) := by decide +kernel
theorem dX4_enqueue_17 : decode cX4_enqueue 17 = .ok (.if_icmp .ge 35, 3) := by decide +kernel
theorem dX4_enqueue_20 : decode cX4_enqueue 20 = .ok (.aload_n 0, 1) := by decide +kernel
theorem dX4_enqueue_21 : decode cX4_enqueue 21 = .ok (.dup, 1) := by decide +kernel
theorem dX4_enqueue_22 : decode cX4_enqueue 22 = .ok (.getfield 54, 3) := by decide +kernel
theorem dX4_enqueue_25 : decode cX4_enqueue 25 = .ok (.iconst 1, 1) := by decide +kernel
theorem dX4_enqueue_26 : decode cX4_enqueue 26 = .ok (.iload_n 1, 1) := by decide +kernel
theorem dX4_enqueue_27 : decode cX4_enqueue 27 = .ok (.ishl, 1) := by decide +kernel
theorem dX4_enqueue_28 : decode cX4_enqueue 28 = .ok (.ior, 1) := by decide +kernel
theorem dX4_enqueue_29 : decode cX4_enqueue 29 = .ok (.putfield 54, 3) := by decide +kernel
theorem dX4_enqueue_32 : decode cX4_enqueue 32 = .ok (.aload_n 0, 1) := by decide +kernel
theorem dX4_enqueue_33 : decode cX4_enqueue 33 = .ok (.getfield 21, 3) := by decide +kernel
theorem dX4_enqueue_36 : decode cX4_enqueue 36 = .ok (.aload_n 0, 1) := by decide +kernel
theorem dX4_enqueue_37 : decode cX4_enqueue 37 = .ok (.getfield 51, 3) := by decide +kernel
theorem dX4_enqueue_40 : decode cX4_enqueue 40 = .ok (.iload_n 1, 1) := by decide +kernel
theorem dX4_enqueue_41 : decode cX4_enqueue 41 = .ok (.iastore, 1) := by decide +kernel
theorem dX4_enqueue_42 : decode cX4_enqueue 42 = .ok (.aload_n 0, 1) := by decide +kernel
theorem dX4_enqueue_43 : decode cX4_enqueue 43 = .ok (.dup, 1) := by decide +kernel
theorem dX4_enqueue_44 : decode cX4_enqueue 44 = .ok (.getfield 51, 3) := by decide +kernel
theorem dX4_enqueue_47 : decode cX4_enqueue 47 = .ok (.iconst 1, 1) := by decide +kernel
theorem dX4_enqueue_48 : decode cX4_enqueue 48 = .ok (.iadd, 1) := by decide +kernel
theorem dX4_enqueue_49 : decode cX4_enqueue 49 = .ok (.putfield 51, 3) := by decide +kernel
theorem dX4_enqueue_52 : decode cX4_enqueue 52 = .ok (.return_, 1) := by decide +kernel
theorem dX4_meltRing_0 : decode cX4_meltRing 0 = .ok (.aload_n 0, 1) := by decide +kernel
theorem dX4_meltRing_1 : decode cX4_meltRing 1 = .ok (.iload_n 1, 1) := by decide +kernel
theorem dX4_meltRing_2 : decode cX4_meltRing 2 = .ok (.iload_n 2, 1) := by decide +kernel
theorem dX4_meltRing_3 : decode cX4_meltRing 3 = .ok (.invokevirtual 64, 3) := by decide +kernel
theorem dX4_meltRing_6 : decode cX4_meltRing 6 = .ok (.istore_n 3, 1) := by decide +kernel
theorem dX4_meltRing_7 : decode cX4_meltRing 7 = .ok (.iload_n 3, 1) := by decide +kernel
theorem dX4_meltRing_8 : decode cX4_meltRing 8 = .ok (.ifCond .ge 4, 3) := by decide +kernel
theorem dX4_meltRing_11 : decode cX4_meltRing 11 = .ok (.return_, 1) := by decide +kernel
theorem dX4_meltRing_12 : decode cX4_meltRing 12 = .ok (.aload_n 0, 1) := by decide +kernel
theorem dX4_meltRing_13 : decode cX4_meltRing 13 = .ok (.iload_n 1, 1) := by decide +kernel
theorem dX4_meltRing_14 : decode cX4_meltRing 14 = .ok (.iload_n 3, 1) := by decide +kernel
theorem dX4_meltRing_15 : decode cX4_meltRing 15 = .ok (.iload_n 2, 1) := by decide +kernel
theorem dX4_meltRing_16 : decode cX4_meltRing 16 = .ok (.invokevirtual 68, 3) := by decide +kernel
theorem dX4_meltRing_19 : decode cX4_meltRing 19 = .ok (.aload_n 0, 1) := by decide +kernel
theorem dX4_meltRing_20 : decode cX4_meltRing 20 = .ok (.iload_n 2, 1) := by decide +kernel
theorem dX4_meltRing_21 : decode cX4_meltRing 21 = .ok (.iload_n 3, 1) := by decide +kernel
theorem dX4_meltRing_22 : decode cX4_meltRing 22 = .ok (.iload_n 1, 1) := by decide +kernel
theorem dX4_meltRing_23 : decode cX4_meltRing 23 = .ok (.invokevirtual 68, 3) := by decide +kernel
theorem dX4_meltRing_26 : decode cX4_meltRing 26 = .ok (.ior, 1) := by decide +kernel
theorem dX4_meltRing_27 : decode cX4_meltRing 27 = .ok (.istore 4, 2) := by decide +kernel
theorem dX4_meltRing_29 : decode cX4_meltRing 29 = .ok (.iconst 0, 1) := by decide +kernel
theorem dX4_meltRing_30 : decode cX4_meltRing 30 = .ok (.istore 5, 2) := by decide +kernel
theorem dX4_meltRing_32 : decode cX4_meltRing 32 = .ok (.iload 5, 2) := by decide +kernel
theorem dX4_meltRing_34 : decode cX4_meltRing 34 = .ok (.bipush 16, 2) := by decide +kernel
theorem dX4_meltRing_36 : decode cX4_meltRing 36 = .ok (.if_icmp .ge 38, 3) := by decide +kernel
theorem dX4_meltRing_39 : decode cX4_meltRing 39 = .ok (.iload 4, 2) := by decide +kernel
theorem dX4_meltRing_41 : decode cX4_meltRing 41 = .ok (.aload_n 0, 1) := by decide +kernel
theorem dX4_meltRing_42 : decode cX4_meltRing 42 = .ok (.getfield 18, 3) := by decide +kernel
theorem dX4_meltRing_45 : decode cX4_meltRing 45 = .ok (.iload 5, 2) := by decide +kernel
theorem dX4_meltRing_47 : decode cX4_meltRing 47 = .ok (.iaload, 1) := by decide +kernel
theorem dX4_meltRing_48 : decode cX4_meltRing 48 = .ok (.ishr, 1) := by decide +kernel
theorem dX4_meltRing_49 : decode cX4_meltRing 49 = .ok (.iconst 1, 1) := by decide +kernel
theorem dX4_meltRing_50 : decode cX4_meltRing 50 = .ok (.iand, 1) := by decide +kernel
theorem dX4_meltRing_51 : decode cX4_meltRing 51 = .ok (.ifCond .eq 17, 3) := by decide +kernel
theorem dX4_meltRing_54 : decode cX4_meltRing 54 = .ok (.aload_n 0, 1) := by decide +kernel
theorem dX4_meltRing_55 : decode cX4_meltRing 55 = .ok (.getfield 18, 3) := by decide +kernel
theorem dX4_meltRing_58 : decode cX4_meltRing 58 = .ok (.iload 5, 2) := by decide +kernel
theorem dX4_meltRing_60 : decode cX4_meltRing 60 = .ok (.iload_n 3, 1) := by decide +kernel
theorem dX4_meltRing_61 : decode cX4_meltRing 61 = .ok (.iastore, 1) := by decide +kernel
theorem dX4_meltRing_62 : decode cX4_meltRing 62 = .ok (.aload_n 0, 1) := by decide +kernel
theorem dX4_meltRing_63 : decode cX4_meltRing 63 = .ok (.iload 5, 2) := by decide +kernel
theorem dX4_meltRing_65 : decode cX4_meltRing 65 = .ok (.invokevirtual 57, 3) := by decide +kernel
theorem dX4_meltRing_68 : decode cX4_meltRing 68 = .ok (.iinc 5 1, 3) := by decide +kernel
theorem dX4_meltRing_71 : decode cX4_meltRing 71 = .ok (.goto (-39), 3) := by decide +kernel
theorem dX4_meltRing_74 : decode cX4_meltRing 74 = .ok (.return_, 1) := by decide +kernel
theorem kX4_64 : lkK (gS, X) RX4 64 mX4_commonBase 2 ∧ Cond.instanceMethod yX4_commonBase ∈ g_ws (gS, X) ∧ Cond.selects RX4 yX4_commonBase yX4_commonBase ∈ g_ws (gS, X) ∧ yX4_commonBase.cls = RX4 := ⟨⟨tb_good, (tb_t (k := 1031) (w := Cond.methodLink RX4 64 yX4_commonBase) (by decide +kernel)), (tb_t (k := 5) (w := Cond.initialized RX4) (by decide +kernel)), (tb_t (k := 1034) (w := Cond.code yX4_commonBase cX4_commonBase 6 (some .int)) (by decide +kernel)), by decide +kernel, by decide⟩, (tb_t (k := 1033) (w := Cond.instanceMethod yX4_commonBase) (by decide +kernel)), (tb_p (k := 64) (q := (yX4_commonBase, 6)) (by decide +kernel)), rfl⟩
theorem kX4_68 : lkK (gS, X) RX4 68 mX4_turnPath 3 ∧ Cond.instanceMethod yX4_turnPath ∈ g_ws (gS, X) ∧ Cond.selects RX4 yX4_turnPath yX4_turnPath ∈ g_ws (gS, X) ∧ yX4_turnPath.cls = RX4 := ⟨⟨tb_good, (tb_t (k := 1035) (w := Cond.methodLink RX4 68 yX4_turnPath) (by decide +kernel)), (tb_t (k := 5) (w := Cond.initialized RX4) (by decide +kernel)), (tb_t (k := 1038) (w := Cond.code yX4_turnPath cX4_turnPath 9 (some .int)) (by decide +kernel)), by decide +kernel, by decide⟩, (tb_t (k := 1037) (w := Cond.instanceMethod yX4_turnPath) (by decide +kernel)), (tb_p (k := 65) (q := (yX4_turnPath, 6)) (by decide +kernel)), rfl⟩
theorem dX4_commonBase_0 : decode cX4_commonBase 0 = .ok (.iconst 0, 1) := by decide +kernel
theorem dX4_commonBase_1 : decode cX4_commonBase 1 = .ok (.istore_n 3, 1) := by decide +kernel
theorem dX4_commonBase_2 : decode cX4_commonBase 2 = .ok (.iload_n 1, 1) := by decide +kernel
theorem dX4_commonBase_3 : decode cX4_commonBase 3 = .ok (.istore 4, 2) := by decide +kernel
theorem dX4_commonBase_5 : decode cX4_commonBase 5 = .ok (.iconst 0, 1) := by decide +kernel
theorem dX4_commonBase_6 : decode cX4_commonBase 6 = .ok (.istore 5, 2) := by decide +kernel
theorem dX4_commonBase_8 : decode cX4_commonBase 8 = .ok (.iload 5, 2) := by decide +kernel
theorem dX4_commonBase_10 : decode cX4_commonBase 10 = .ok (.bipush 16, 2) := by decide +kernel
theorem dX4_commonBase_12 : decode cX4_commonBase 12 = .ok (.if_icmp .ge 58, 3) := by decide +kernel
theorem dX4_commonBase_15 : decode cX4_commonBase 15 = .ok (.iload 4, 2) := by decide +kernel
theorem dX4_commonBase_17 : decode cX4_commonBase 17 = .ok (.ifCond .lt 53, 3) := by decide +kernel
theorem dX4_commonBase_20 : decode cX4_commonBase 20 = .ok (.aload_n 0, 1) := by decide +kernel
theorem dX4_commonBase_21 : decode cX4_commonBase 21 = .ok (.getfield 18, 3) := by decide +kernel
theorem dX4_commonBase_24 : decode cX4_commonBase 24 = .ok (.iload 4, 2) := by decide +kernel
theorem dX4_commonBase_26 : decode cX4_commonBase 26 = .ok (.iaload, 1) := by decide +kernel
theorem dX4_commonBase_27 : decode cX4_commonBase 27 = .ok (.istore 4, 2) := by decide +kernel
theorem dX4_commonBase_29 : decode cX4_commonBase 29 = .ok (.iload_n 3, 1) := by decide +kernel
theorem dX4_commonBase_30 : decode cX4_commonBase 30 = .ok (.iconst 1, 1) := by decide +kernel
theorem dX4_commonBase_31 : decode cX4_commonBase 31 = .ok (.iload 4, 2) := by decide +kernel
theorem dX4_commonBase_33 : decode cX4_commonBase 33 = .ok (.ishl, 1) := by decide +kernel
theorem dX4_commonBase_34 : decode cX4_commonBase 34 = .ok (.ior, 1) := by decide +kernel
theorem dX4_commonBase_35 : decode cX4_commonBase 35 = .ok (.istore_n 3, 1) := by decide +kernel
theorem dX4_commonBase_36 : decode cX4_commonBase 36 = .ok (.aload_n 0, 1) := by decide +kernel
theorem dX4_commonBase_37 : decode cX4_commonBase 37 = .ok (.getfield 9, 3) := by decide +kernel
theorem dX4_commonBase_40 : decode cX4_commonBase 40 = .ok (.iload 4, 2) := by decide +kernel
theorem dX4_commonBase_42 : decode cX4_commonBase 42 = .ok (.iaload, 1) := by decide +kernel
theorem dX4_commonBase_43 : decode cX4_commonBase 43 = .ok (.ifCond .ge 7, 3) := by decide +kernel
theorem dX4_commonBase_46 : decode cX4_commonBase 46 = .ok (.iconst (-1), 1) := by decide +kernel
theorem dX4_commonBase_47 : decode cX4_commonBase 47 = .ok (.goto 15, 3) := by decide +kernel
theorem dX4_commonBase_50 : decode cX4_commonBase 50 = .ok (.aload_n 0, 1) := by decide +kernel
theorem dX4_commonBase_51 : decode cX4_commonBase 51 = .ok (.getfield 15, 3) := by decide +kernel
theorem dX4_commonBase_54 : decode cX4_commonBase 54 = .ok (.aload_n 0, 1) := by decide +kernel
theorem dX4_commonBase_55 : decode cX4_commonBase 55 = .ok (.getfield 9, 3) := by decide +kernel
theorem dX4_commonBase_58 : decode cX4_commonBase 58 = .ok (.iload 4, 2) := by decide +kernel
theorem dX4_commonBase_60 : decode cX4_commonBase 60 = .ok (.iaload, 1) := by decide +kernel
theorem dX4_commonBase_61 : decode cX4_commonBase 61 = .ok (.iaload, 1) := by decide +kernel
theorem dX4_commonBase_62 : decode cX4_commonBase 62 = .ok (.istore 4, 2) := by decide +kernel
theorem dX4_commonBase_64 : decode cX4_commonBase 64 = .ok (.iinc 5 1, 3) := by decide +kernel
theorem dX4_commonBase_67 : decode cX4_commonBase 67 = .ok (.goto (-59), 3) := by decide +kernel
theorem dX4_commonBase_70 : decode cX4_commonBase 70 = .ok (.iload_n 2, 1) := by decide +kernel
theorem dX4_commonBase_71 : decode cX4_commonBase 71 = .ok (.istore 4, 2) := by decide +kernel
theorem dX4_commonBase_73 : decode cX4_commonBase 73 = .ok (.iconst 0, 1) := by decide +kernel
theorem dX4_commonBase_74 : decode cX4_commonBase 74 = .ok (.istore 5, 2) := by decide +kernel
theorem dX4_commonBase_76 : decode cX4_commonBase 76 = .ok (.iload 5, 2) := by decide +kernel
theorem dX4_commonBase_78 : decode cX4_commonBase 78 = .ok (.bipush 16, 2) := by decide +kernel
theorem dX4_commonBase_80 : decode cX4_commonBase 80 = .ok (.if_icmp .ge 63, 3) := by decide +kernel
theorem dX4_commonBase_83 : decode cX4_commonBase 83 = .ok (.iload 4, 2) := by decide +kernel
theorem dX4_commonBase_85 : decode cX4_commonBase 85 = .ok (.ifCond .lt 58, 3) := by decide +kernel
theorem dX4_commonBase_88 : decode cX4_commonBase 88 = .ok (.aload_n 0, 1) := by decide +kernel
theorem dX4_commonBase_89 : decode cX4_commonBase 89 = .ok (.getfield 18, 3) := by decide +kernel
theorem dX4_commonBase_92 : decode cX4_commonBase 92 = .ok (.iload 4, 2) := by decide +kernel
theorem dX4_commonBase_94 : decode cX4_commonBase 94 = .ok (.iaload, 1) := by decide +kernel
theorem dX4_commonBase_95 : decode cX4_commonBase 95 = .ok (.istore 4, 2) := by decide +kernel
theorem dX4_commonBase_97 : decode cX4_commonBase 97 = .ok (.iload_n 3, 1) := by decide +kernel
theorem dX4_commonBase_98 : decode cX4_commonBase 98 = .ok (.iload 4, 2) := by decide +kernel
theorem dX4_commonBase_100 : decode cX4_commonBase 100 = .ok (.ishr, 1) := by decide +kernel
theorem dX4_commonBase_101 : decode cX4_commonBase 101 = .ok (.iconst 1, 1) := by decide +kernel
theorem dX4_commonBase_102 : decode cX4_commonBase 102 = .ok (.iand, 1) := by decide +kernel
theorem dX4_commonBase_103 : decode cX4_commonBase 103 = .ok (.ifCond .eq 6, 3) := by decide +kernel
theorem dX4_commonBase_106 : decode cX4_commonBase 106 = .ok (.iload 4, 2) := by decide +kernel
theorem dX4_commonBase_108 : decode cX4_commonBase 108 = .ok (.ireturn, 1) := by decide +kernel
theorem dX4_commonBase_109 : decode cX4_commonBase 109 = .ok (.aload_n 0, 1) := by decide +kernel
theorem dX4_commonBase_110 : decode cX4_commonBase 110 = .ok (.getfield 9, 3) := by decide +kernel
theorem dX4_commonBase_113 : decode cX4_commonBase 113 = .ok (.iload 4, 2) := by decide +kernel
theorem dX4_commonBase_115 : decode cX4_commonBase 115 = .ok (.iaload, 1) := by decide +kernel
theorem dX4_commonBase_116 : decode cX4_commonBase 116 = .ok (.ifCond .ge 7, 3) := by decide +kernel
theorem dX4_commonBase_119 : decode cX4_commonBase 119 = .ok (.iconst (-1), 1) := by decide +kernel
theorem dX4_commonBase_120 : decode cX4_commonBase 120 = .ok (.goto 15, 3) := by decide +kernel
theorem dX4_commonBase_123 : decode cX4_commonBase 123 = .ok (.aload_n 0, 1) := by decide +kernel
theorem dX4_commonBase_124 : decode cX4_commonBase 124 = .ok (.getfield 15, 3) := by decide +kernel
theorem dX4_commonBase_127 : decode cX4_commonBase 127 = .ok (.aload_n 0, 1) := by decide +kernel
theorem dX4_commonBase_128 : decode cX4_commonBase 128 = .ok (.getfield 9, 3) := by decide +kernel
theorem dX4_commonBase_131 : decode cX4_commonBase 131 = .ok (.iload 4, 2) := by decide +kernel
theorem dX4_commonBase_133 : decode cX4_commonBase 133 = .ok (.iaload, 1) := by decide +kernel
theorem dX4_commonBase_134 : decode cX4_commonBase 134 = .ok (.iaload, 1) := by decide +kernel
theorem dX4_commonBase_135 : decode cX4_commonBase 135 = .ok (.istore 4, 2) := by decide +kernel
theorem dX4_commonBase_137 : decode cX4_commonBase 137 = .ok (.iinc 5 1, 3) := by decide +kernel
theorem dX4_commonBase_140 : decode cX4_commonBase 140 = .ok (.goto (-64), 3) := by decide +kernel
theorem dX4_commonBase_143 : decode cX4_commonBase 143 = .ok (.iconst (-1), 1) := by decide +kernel
theorem dX4_commonBase_144 : decode cX4_commonBase 144 = .ok (.ireturn, 1) := by decide +kernel
theorem dX4_turnPath_0 : decode cX4_turnPath 0 = .ok (.iconst 0, 1) := by decide +kernel
theorem dX4_turnPath_1 : decode cX4_turnPath 1 = .ok (.istore 4, 2) := by decide +kernel
theorem dX4_turnPath_3 : decode cX4_turnPath 3 = .ok (.iload_n 1, 1) := by decide +kernel
theorem dX4_turnPath_4 : decode cX4_turnPath 4 = .ok (.istore 5, 2) := by decide +kernel
theorem dX4_turnPath_6 : decode cX4_turnPath 6 = .ok (.iload_n 3, 1) := by decide +kernel
theorem dX4_turnPath_7 : decode cX4_turnPath 7 = .ok (.istore 6, 2) := by decide +kernel
theorem dX4_turnPath_9 : decode cX4_turnPath 9 = .ok (.iconst 0, 1) := by decide +kernel
theorem dX4_turnPath_10 : decode cX4_turnPath 10 = .ok (.istore 7, 2) := by decide +kernel
theorem dX4_turnPath_12 : decode cX4_turnPath 12 = .ok (.iload 7, 2) := by decide +kernel
theorem dX4_turnPath_14 : decode cX4_turnPath 14 = .ok (.bipush 16, 2) := by decide +kernel
theorem dX4_turnPath_16 : decode cX4_turnPath 16 = .ok (.if_icmp .ge 90, 3) := by decide +kernel
theorem dX4_turnPath_19 : decode cX4_turnPath 19 = .ok (.iload 5, 2) := by decide +kernel
theorem dX4_turnPath_21 : decode cX4_turnPath 21 = .ok (.ifCond .lt 85, 3) := by decide +kernel
theorem dX4_turnPath_24 : decode cX4_turnPath 24 = .ok (.aload_n 0, 1) := by decide +kernel
theorem dX4_turnPath_25 : decode cX4_turnPath 25 = .ok (.getfield 18, 3) := by decide +kernel
theorem dX4_turnPath_28 : decode cX4_turnPath 28 = .ok (.iload 5, 2) := by decide +kernel
theorem dX4_turnPath_30 : decode cX4_turnPath 30 = .ok (.iaload, 1) := by decide +kernel
theorem dX4_turnPath_31 : decode cX4_turnPath 31 = .ok (.iload_n 2, 1) := by decide +kernel
theorem dX4_turnPath_32 : decode cX4_turnPath 32 = .ok (.if_icmp .eq 74, 3) := by decide +kernel
theorem dX4_turnPath_35 : decode cX4_turnPath 35 = .ok (.aload_n 0, 1) := by decide +kernel
theorem dX4_turnPath_36 : decode cX4_turnPath 36 = .ok (.getfield 9, 3) := by decide +kernel
theorem dX4_turnPath_39 : decode cX4_turnPath 39 = .ok (.iload 5, 2) := by decide +kernel
theorem dX4_turnPath_41 : decode cX4_turnPath 41 = .ok (.iaload, 1) := by decide +kernel
theorem dX4_turnPath_42 : decode cX4_turnPath 42 = .ok (.ifCond .lt 64, 3) := by decide +kernel
theorem dX4_turnPath_45 : decode cX4_turnPath 45 = .ok (.aload_n 0, 1) := by decide +kernel
theorem dX4_turnPath_46 : decode cX4_turnPath 46 = .ok (.getfield 9, 3) := by decide +kernel
theorem dX4_turnPath_49 : decode cX4_turnPath 49 = .ok (.iload 5, 2) := by decide +kernel
theorem dX4_turnPath_51 : decode cX4_turnPath 51 = .ok (.iaload, 1) := by decide +kernel
theorem dX4_turnPath_52 : decode cX4_turnPath 52 = .ok (.istore 8, 2) := by decide +kernel
theorem dX4_turnPath_54 : decode cX4_turnPath 54 = .ok (.iload 4, 2) := by decide +kernel
theorem dX4_turnPath_56 : decode cX4_turnPath 56 = .ok (.iconst 1, 1) := by decide +kernel
theorem dX4_turnPath_57 : decode cX4_turnPath 57 = .ok (.aload_n 0, 1) := by decide +kernel
theorem dX4_turnPath_58 : decode cX4_turnPath 58 = .ok (.getfield 18, 3) := by decide +kernel
theorem dX4_turnPath_61 : decode cX4_turnPath 61 = .ok (.iload 5, 2) := by decide +kernel
theorem dX4_turnPath_63 : decode cX4_turnPath 63 = .ok (.iaload, 1) := by decide +kernel
theorem dX4_turnPath_64 : decode cX4_turnPath 64 = .ok (.ishl, 1) := by decide +kernel
theorem dX4_turnPath_65 : decode cX4_turnPath 65 = .ok (.iconst 1, 1) := by decide +kernel
theorem dX4_turnPath_66 : decode cX4_turnPath 66 = .ok (.aload_n 0, 1) := by decide +kernel
theorem dX4_turnPath_67 : decode cX4_turnPath 67 = .ok (.getfield 18, 3) := by decide +kernel
theorem dX4_turnPath_70 : decode cX4_turnPath 70 = .ok (.iload 8, 2) := by decide +kernel
theorem dX4_turnPath_72 : decode cX4_turnPath 72 = .ok (.iaload, 1) := by decide +kernel
theorem dX4_turnPath_73 : decode cX4_turnPath 73 = .ok (.ishl, 1) := by decide +kernel
theorem dX4_turnPath_74 : decode cX4_turnPath 74 = .ok (.ior, 1) := by decide +kernel
theorem dX4_turnPath_75 : decode cX4_turnPath 75 = .ok (.ior, 1) := by decide +kernel
theorem dX4_turnPath_76 : decode cX4_turnPath 76 = .ok (.istore 4, 2) := by decide +kernel
theorem dX4_turnPath_78 : decode cX4_turnPath 78 = .ok (.aload_n 0, 1) := by decide +kernel
theorem dX4_turnPath_79 : decode cX4_turnPath 79 = .ok (.getfield 15, 3) := by decide +kernel
theorem dX4_turnPath_82 : decode cX4_turnPath 82 = .ok (.iload 5, 2) := by decide +kernel
theorem dX4_turnPath_84 : decode cX4_turnPath 84 = .ok (.iload 6, 2) := by decide +kernel
theorem dX4_turnPath_86 : decode cX4_turnPath 86 = .ok (.iastore, 1) := by decide +kernel
theorem dX4_turnPath_87 : decode cX4_turnPath 87 = .ok (.iload 8, 2) := by decide +kernel
theorem dX4_turnPath_89 : decode cX4_turnPath 89 = .ok (.istore 6, 2) := by decide +kernel
theorem dX4_turnPath_91 : decode cX4_turnPath 91 = .ok (.aload_n 0, 1) := by decide +kernel
theorem dX4_turnPath_92 : decode cX4_turnPath 92 = .ok (.getfield 15, 3) := by decide +kernel
theorem dX4_turnPath_95 : decode cX4_turnPath 95 = .ok (.iload 8, 2) := by decide +kernel
theorem dX4_turnPath_97 : decode cX4_turnPath 97 = .ok (.iaload, 1) := by decide +kernel
theorem dX4_turnPath_98 : decode cX4_turnPath 98 = .ok (.istore 5, 2) := by decide +kernel
theorem dX4_turnPath_100 : decode cX4_turnPath 100 = .ok (.iinc 7 1, 3) := by decide +kernel
theorem dX4_turnPath_103 : decode cX4_turnPath 103 = .ok (.goto (-91), 3) := by decide +kernel
theorem dX4_turnPath_106 : decode cX4_turnPath 106 = .ok (.iload 4, 2) := by decide +kernel
theorem dX4_turnPath_108 : decode cX4_turnPath 108 = .ok (.ireturn, 1) := by decide +kernel
theorem dX4_flip_0 : decode cX4_flip 0 = .ok (.iload_n 1, 1) := by decide +kernel
theorem dX4_flip_1 : decode cX4_flip 1 = .ok (.istore_n 2, 1) := by decide +kernel
theorem dX4_flip_2 : decode cX4_flip 2 = .ok (.iconst 0, 1) := by decide +kernel
theorem dX4_flip_3 : decode cX4_flip 3 = .ok (.istore_n 3, 1) := by decide +kernel
theorem dX4_flip_4 : decode cX4_flip 4 = .ok (.iload_n 3, 1) := by decide +kernel
theorem dX4_flip_5 : decode cX4_flip 5 = .ok (.bipush 16, 2) := by decide +kernel
theorem dX4_flip_7 : decode cX4_flip 7 = .ok (.if_icmp .ge 63, 3) := by decide +kernel
theorem dX4_flip_10 : decode cX4_flip 10 = .ok (.iload_n 2, 1) := by decide +kernel
theorem dX4_flip_11 : decode cX4_flip 11 = .ok (.ifCond .lt 59, 3) := by decide +kernel
theorem dX4_flip_14 : decode cX4_flip 14 = .ok (.aload_n 0, 1) := by decide +kernel
theorem dX4_flip_15 : decode cX4_flip 15 = .ok (.getfield 15, 3) := by decide +kernel
theorem dX4_flip_18 : decode cX4_flip 18 = .ok (.iload_n 2, 1) := by decide +kernel
theorem dX4_flip_19 : decode cX4_flip 19 = .ok (.iaload, 1) := by decide +kernel
theorem dX4_flip_20 : decode cX4_flip 20 = .ok (.istore 4, 2) := by decide +kernel
theorem dX4_flip_22 : decode cX4_flip 22 = .ok (.iload 4, 2) := by decide +kernel
theorem dX4_flip_24 : decode cX4_flip 24 = .ok (.ifCond .ge 7, 3) := by decide +kernel
theorem dX4_flip_27 : decode cX4_flip 27 = .ok (.iconst (-1), 1) := by decide +kernel
theorem dX4_flip_28 : decode cX4_flip 28 = .ok (.goto 10, 3) := by decide +kernel
theorem dX4_flip_31 : decode cX4_flip 31 = .ok (.aload_n 0, 1) := by decide +kernel
theorem dX4_flip_32 : decode cX4_flip 32 = .ok (.getfield 9, 3) := by decide +kernel
theorem dX4_flip_35 : decode cX4_flip 35 = .ok (.iload 4, 2) := by decide +kernel
theorem dX4_flip_37 : decode cX4_flip 37 = .ok (.iaload, 1) := by decide +kernel
theorem dX4_flip_38 : decode cX4_flip 38 = .ok (.istore 5, 2) := by decide +kernel
theorem dX4_flip_40 : decode cX4_flip 40 = .ok (.iload 4, 2) := by decide +kernel
theorem dX4_flip_42 : decode cX4_flip 42 = .ok (.ifCond .lt 19, 3) := by decide +kernel
theorem dX4_flip_45 : decode cX4_flip 45 = .ok (.aload_n 0, 1) := by decide +kernel
theorem dX4_flip_46 : decode cX4_flip 46 = .ok (.getfield 9, 3) := by decide +kernel
theorem dX4_flip_49 : decode cX4_flip 49 = .ok (.iload_n 2, 1) := by decide +kernel
theorem dX4_flip_50 : decode cX4_flip 50 = .ok (.iload 4, 2) := by decide +kernel
theorem dX4_flip_52 : decode cX4_flip 52 = .ok (.iastore, 1) := by decide +kernel
theorem dX4_flip_53 : decode cX4_flip 53 = .ok (.aload_n 0, 1) := by decide +kernel
theorem dX4_flip_54 : decode cX4_flip 54 = .ok (.getfield 9, 3) := by decide +kernel
theorem dX4_flip_57 : decode cX4_flip 57 = .ok (.iload 4, 2) := by decide +kernel
theorem dX4_flip_59 : decode cX4_flip 59 = .ok (.iload_n 2, 1) := by decide +kernel
theorem dX4_flip_60 : decode cX4_flip 60 = .ok (.iastore, 1) := by decide +kernel
theorem dX4_flip_61 : decode cX4_flip 61 = .ok (.iload 5, 2) := by decide +kernel
theorem dX4_flip_63 : decode cX4_flip 63 = .ok (.istore_n 2, 1) := by decide +kernel
theorem dX4_flip_64 : decode cX4_flip 64 = .ok (.iinc 3 1, 3) := by decide +kernel
theorem dX4_flip_67 : decode cX4_flip 67 = .ok (.goto (-63), 3) := by decide +kernel
theorem dX4_flip_70 : decode cX4_flip 70 = .ok (.return_, 1) := by decide +kernel
theorem dX5_init_0 : decode cX5_init 0 = .ok (.aload_n 0, 1) := by decide +kernel
theorem dX5_init_1 : decode cX5_init 1 = .ok (.aload_n 1, 1) := by decide +kernel
theorem dX5_init_2 : decode cX5_init 2 = .ok (.getfield 3, 3) := by decide +kernel
theorem dX5_init_5 : decode cX5_init 5 = .ok (.invokespecial 9, 3) := by decide +kernel
theorem dX5_init_8 : decode cX5_init 8 = .ok (.aload_n 0, 1) := by decide +kernel
theorem dX5_init_9 : decode cX5_init 9 = .ok (.aload_n 0, 1) := by decide +kernel
theorem dX5_init_10 : decode cX5_init 10 = .ok (.getfield 15, 3) := by decide +kernel
theorem dX5_init_13 : decode cX5_init 13 = .ok (.newarray .int, 2) := by decide +kernel
theorem dX5_init_15 : decode cX5_init 15 = .ok (.putfield 18, 3) := by decide +kernel
theorem dX5_init_18 : decode cX5_init 18 = .ok (.aload_n 0, 1) := by decide +kernel
theorem dX5_init_19 : decode cX5_init 19 = .ok (.aload_n 0, 1) := by decide +kernel
theorem dX5_init_20 : decode cX5_init 20 = .ok (.getfield 15, 3) := by decide +kernel
theorem dX5_init_23 : decode cX5_init 23 = .ok (.newarray .int, 2) := by decide +kernel
theorem dX5_init_25 : decode cX5_init 25 = .ok (.putfield 22, 3) := by decide +kernel
theorem dX5_init_28 : decode cX5_init 28 = .ok (.iload_n 2, 1) := by decide +kernel
theorem dX5_init_29 : decode cX5_init 29 = .ok (.iconst 2, 1) := by decide +kernel
theorem dX5_init_30 : decode cX5_init 30 = .ok (.if_icmp .ne 10, 3) := by decide +kernel
theorem dX5_init_33 : decode cX5_init 33 = .ok (.aload_n 1, 1) := by decide +kernel
theorem dX5_init_34 : decode cX5_init 34 = .ok (.invokestatic 25, 3) := by decide +kernel
theorem dX5_init_37 : decode cX5_init 37 = .ok (.goto 7, 3) := by decide +kernel
theorem dX5_init_40 : decode cX5_init 40 = .ok (.aload_n 1, 1) := by decide +kernel
theorem dX5_init_41 : decode cX5_init 41 = .ok (.getfield 31, 3) := by decide +kernel
theorem dX5_init_44 : decode cX5_init 44 = .ok (.astore 4, 2) := by decide +kernel
theorem dX5_init_46 : decode cX5_init 46 = .ok (.iconst 0, 1) := by decide +kernel
theorem dX5_init_47 : decode cX5_init 47 = .ok (.istore 5, 2) := by decide +kernel
theorem dX5_init_49 : decode cX5_init 49 = .ok (.iconst 0, 1) := by decide +kernel
theorem dX5_init_50 : decode cX5_init 50 = .ok (.istore 6, 2) := by decide +kernel
theorem dX5_init_52 : decode cX5_init 52 = .ok (.iload 6, 2) := by decide +kernel
theorem dX5_init_54 : decode cX5_init 54 = .ok (.aload_n 0, 1) := by decide +kernel
theorem dX5_init_55 : decode cX5_init 55 = .ok (.getfield 15, 3) := by decide +kernel
theorem dX5_init_58 : decode cX5_init 58 = .ok (.if_icmp .ge 81, 3) := by decide +kernel
theorem dX5_init_61 : decode cX5_init 61 = .ok (.aload_n 1, 1) := by decide +kernel
theorem dX5_init_62 : decode cX5_init 62 = .ok (.iload_n 2, 1) := by decide +kernel
theorem dX5_init_63 : decode cX5_init 63 = .ok (.aload 4, 2) := by decide +kernel
theorem dX5_init_65 : decode cX5_init 65 = .ok (.aload_n 3, 1) := by decide +kernel
theorem dX5_init_66 : decode cX5_init 66 = .ok (.iload 6, 2) := by decide +kernel
theorem dX5_init_68 : decode cX5_init 68 = .ok (.invokestatic 34, 3) := by decide +kernel
theorem dX5_init_71 : decode cX5_init 71 = .ok (.istore 7, 2) := by decide +kernel
theorem dX5_init_73 : decode cX5_init 73 = .ok (.iload 7, 2) := by decide +kernel
theorem dX5_init_75 : decode cX5_init 75 = .ok (.iload 6, 2) := by decide +kernel
theorem dX5_init_77 : decode cX5_init 77 = .ok (.if_icmp .ge 25, 3) := by decide +kernel
theorem dX5_init_80 : decode cX5_init 80 = .ok (.iload 7, 2) := by decide +kernel
theorem dX5_init_82 : decode cX5_init 82 = .ok (.ifCond .lt 20, 3) := by decide +kernel
theorem dX5_init_85 : decode cX5_init 85 = .ok (.aload_n 0, 1) := by decide +kernel
theorem dX5_init_86 : decode cX5_init 86 = .ok (.getfield 18, 3) := by decide +kernel
theorem dX5_init_89 : decode cX5_init 89 = .ok (.iload 6, 2) := by decide +kernel
theorem dX5_init_91 : decode cX5_init 91 = .ok (.aload_n 0, 1) := by decide +kernel
theorem dX5_init_92 : decode cX5_init 92 = .ok (.getfield 18, 3) := by decide +kernel
theorem dX5_init_95 : decode cX5_init 95 = .ok (.iload 7, 2) := by decide +kernel
theorem dX5_init_97 : decode cX5_init 97 = .ok (.iaload, 1) := by decide +kernel
theorem dX5_init_98 : decode cX5_init 98 = .ok (.iastore, 1) := by decide +kernel
theorem dX5_init_99 : decode cX5_init 99 = .ok (.goto 15, 3) := by decide +kernel
theorem dX5_init_102 : decode cX5_init 102 = .ok (.aload_n 0, 1) := by decide +kernel
theorem dX5_init_103 : decode cX5_init 103 = .ok (.getfield 18, 3) := by decide +kernel
theorem dX5_init_106 : decode cX5_init 106 = .ok (.iload 6, 2) := by decide +kernel
theorem dX5_init_108 : decode cX5_init 108 = .ok (.iload 5, 2) := by decide +kernel
theorem dX5_init_110 : decode cX5_init 110 = .ok (.iastore, 1) := by decide +kernel
theorem dX5_init_111 : decode cX5_init 111 = .ok (.iinc 5 1, 3) := by decide +kernel
theorem dX5_init_114 : decode cX5_init 114 = .ok (.aload_n 0, 1) := by decide +kernel
theorem dX5_init_115 : decode cX5_init 115 = .ok (.getfield 22, 3) := by decide +kernel
theorem dX5_init_118 : decode cX5_init 118 = .ok (.aload_n 0, 1) := by decide +kernel
theorem dX5_init_119 : decode cX5_init 119 = .ok (.getfield 18, 3) := by decide +kernel
theorem dX5_init_122 : decode cX5_init 122 = .ok (.iload 6, 2) := by decide +kernel
theorem dX5_init_124 : decode cX5_init 124 = .ok (.iaload, 1) := by decide +kernel
theorem dX5_init_125 : decode cX5_init 125 = .ok (.dup2, 1) := by decide +kernel
theorem dX5_init_126 : decode cX5_init 126 = .ok (.iaload, 1) := by decide +kernel
theorem dX5_init_127 : decode cX5_init 127 = .ok (.iconst 1, 1) := by decide +kernel
theorem dX5_init_128 : decode cX5_init 128 = .ok (.iload 6, 2) := by decide +kernel
theorem dX5_init_130 : decode cX5_init 130 = .ok (.ishl, 1) := by decide +kernel
theorem dX5_init_131 : decode cX5_init 131 = .ok (.ior, 1) := by decide +kernel
theorem dX5_init_132 : decode cX5_init 132 = .ok (.iastore, 1) := by decide +kernel
theorem dX5_init_133 : decode cX5_init 133 = .ok (.iinc 6 1, 3) := by decide +kernel
theorem dX5_init_136 : decode cX5_init 136 = .ok (.goto (-84), 3) := by decide +kernel
theorem dX5_init_139 : decode cX5_init 139 = .ok (.aload_n 0, 1) := by decide +kernel
theorem dX5_init_140 : decode cX5_init 140 = .ok (.iload 5, 2) := by decide +kernel
theorem dX5_init_142 : decode cX5_init 142 = .ok (.putfield 38, 3) := by decide +kernel
theorem dX5_init_145 : decode cX5_init 145 = .ok (.return_, 1) := by decide +kernel
theorem fX5_3 : lkF (gS, X) RX5 3 3 0 "GraphEngine$Graph" RX3 TX3 14 := ⟨rfl, inX3, by decide, (tb_t (k := 352) (w := Cond.fieldLink RX5 3 "GraphEngine$Graph" "nodes" "I") (by decide +kernel)), Or.inr (tb_t (k := 351) (w := Cond.sameField "GraphEngine$Graph" "GraphEngine$Thing" "nodes" "I") (by decide +kernel))⟩
theorem kX5_9 : lkK (gS, X) RX5 9 mX9_init 1 ∧ Cond.instanceMethod yX9_init ∈ g_ws (gS, X) ∧ yX9_init.name = "<init>" ∧ mX9_init.2.2.2 = none := ⟨⟨tb_good, (tb_t (k := 706) (w := Cond.methodLink RX5 9 yX9_init) (by decide +kernel)), (tb_t (k := 9) (w := Cond.initialized RX9) (by decide +kernel)), (tb_t (k := 255) (w := Cond.code yX9_init cX9_init 2 none) (by decide +kernel)), by decide +kernel, by decide⟩, (tb_t (k := 254) (w := Cond.instanceMethod yX9_init) (by decide +kernel)), rfl, rfl⟩
theorem fX5_15 : lkF (gS, X) RX5 15 5 0 "GraphEngine$Parts" RX5 TX5 4 := ⟨rfl, inX5, by decide, (tb_t (k := 356) (w := Cond.fieldLink RX5 15 "GraphEngine$Parts" "nodes" "I") (by decide +kernel)), Or.inr (tb_t (k := 357) (w := Cond.sameField "GraphEngine$Parts" "GraphEngine$Thing" "nodes" "I") (by decide +kernel))⟩
theorem fX5_18 : lkF (gS, X) RX5 18 5 2 "GraphEngine$Parts" RX5 TX5 4 := ⟨rfl, inX5, by decide, (tb_t (k := 740) (w := Cond.fieldLink RX5 18 "GraphEngine$Parts" "number" "[I") (by decide +kernel)), Or.inl rfl⟩
theorem fX5_22 : lkF (gS, X) RX5 22 5 3 "GraphEngine$Parts" RX5 TX5 4 := ⟨rfl, inX5, by decide, (tb_t (k := 743) (w := Cond.fieldLink RX5 22 "GraphEngine$Parts" "nodesOf" "[I") (by decide +kernel)), Or.inl rfl⟩
theorem kX5_25 : lkK (gS, X) RX5 25 mX8_withoutBridges 1 ∧ Cond.static yX8_withoutBridges ∈ g_ws (gS, X) := ⟨⟨tb_good, (tb_t (k := 707) (w := Cond.methodLink RX5 25 yX8_withoutBridges) (by decide +kernel)), (tb_t (k := 3) (w := Cond.initialized RX8) (by decide +kernel)), (tb_t (k := 709) (w := Cond.code yX8_withoutBridges cX8_withoutBridges 5 (some (.array .int))) (by decide +kernel)), by decide +kernel, by decide⟩, (tb_t (k := 708) (w := Cond.static yX8_withoutBridges) (by decide +kernel))⟩
theorem fX5_31 : lkF (gS, X) RX5 31 3 13 "GraphEngine$Graph" RX3 TX3 14 := ⟨rfl, inX3, by decide, (tb_t (k := 345) (w := Cond.fieldLink RX5 31 "GraphEngine$Graph" "joined" "[I") (by decide +kernel)), Or.inl rfl⟩
theorem kX5_34 : lkK (gS, X) RX5 34 mX5_firstOfItsPart 5 ∧ Cond.static yX5_firstOfItsPart ∈ g_ws (gS, X) := ⟨⟨tb_good, (tb_t (k := 722) (w := Cond.methodLink RX5 34 yX5_firstOfItsPart) (by decide +kernel)), (tb_t (k := 17) (w := Cond.initialized RX5) (by decide +kernel)), (tb_t (k := 724) (w := Cond.code yX5_firstOfItsPart cX5_firstOfItsPart 7 (some .int)) (by decide +kernel)), by decide +kernel, by decide⟩, (tb_t (k := 723) (w := Cond.static yX5_firstOfItsPart) (by decide +kernel))⟩
theorem fX5_38 : lkF (gS, X) RX5 38 5 1 "GraphEngine$Parts" RX5 TX5 4 := ⟨rfl, inX5, by decide, (tb_t (k := 737) (w := Cond.fieldLink RX5 38 "GraphEngine$Parts" "size" "I") (by decide +kernel)), Or.inl rfl⟩
theorem dX5_sortNumber_0 : decode cX5_sortNumber 0 = .ok (.iconst 4, 1) := by decide +kernel
theorem dX5_sortNumber_1 : decode cX5_sortNumber 1 = .ok (.ireturn, 1) := by decide +kernel
theorem dX5_firstOfItsPart_0 : decode cX5_firstOfItsPart 0 = .ok (.aload_n 0, 1) := by decide +kernel
theorem dX5_firstOfItsPart_1 : decode cX5_firstOfItsPart 1 = .ok (.invokevirtual 41, 3) := by decide +kernel
theorem dX5_firstOfItsPart_4 : decode cX5_firstOfItsPart 4 = .ok (.istore 5, 2) := by decide +kernel
theorem dX5_firstOfItsPart_6 : decode cX5_firstOfItsPart 6 = .ok (.iload_n 1, 1) := by decide +kernel
theorem dX5_firstOfItsPart_7 : decode cX5_firstOfItsPart 7 = .ok (.ifCond .ne 34, 3) := by decide +kernel
theorem dX5_firstOfItsPart_10 : decode cX5_firstOfItsPart 10 = .ok (.aload_n 0, 1) := by decide +kernel
theorem dX5_firstOfItsPart_11 : decode cX5_firstOfItsPart 11 = .ok (.getfield 45, 3) := by decide +kernel
theorem dX5_firstOfItsPart_14 : decode cX5_firstOfItsPart 14 = .ok (.iconst 1, 1) := by decide +kernel
theorem dX5_firstOfItsPart_15 : decode cX5_firstOfItsPart 15 = .ok (.iload 4, 2) := by decide +kernel
theorem dX5_firstOfItsPart_17 : decode cX5_firstOfItsPart 17 = .ok (.ishl, 1) := by decide +kernel
theorem dX5_firstOfItsPart_18 : decode cX5_firstOfItsPart 18 = .ok (.iload 5, 2) := by decide +kernel
theorem dX5_firstOfItsPart_20 : decode cX5_firstOfItsPart 20 = .ok (.invokestatic 48, 3) := by decide +kernel
theorem dX5_firstOfItsPart_23 : decode cX5_firstOfItsPart 23 = .ok (.aload_n 0, 1) := by decide +kernel
theorem dX5_firstOfItsPart_24 : decode cX5_firstOfItsPart 24 = .ok (.getfield 52, 3) := by decide +kernel
theorem dX5_firstOfItsPart_27 : decode cX5_firstOfItsPart 27 = .ok (.iconst 1, 1) := by decide +kernel
theorem dX5_firstOfItsPart_28 : decode cX5_firstOfItsPart 28 = .ok (.iload 4, 2) := by decide +kernel
theorem dX5_firstOfItsPart_30 : decode cX5_firstOfItsPart 30 = .ok (.ishl, 1) := by decide +kernel
theorem dX5_firstOfItsPart_31 : decode cX5_firstOfItsPart 31 = .ok (.iload 5, 2) := by decide +kernel
theorem dX5_firstOfItsPart_33 : decode cX5_firstOfItsPart 33 = .ok (.invokestatic 48, 3) := by decide +kernel
theorem dX5_firstOfItsPart_36 : decode cX5_firstOfItsPart 36 = .ok (.iand, 1) := by decide +kernel
theorem dX5_firstOfItsPart_37 : decode cX5_firstOfItsPart 37 = .ok (.invokestatic 55, 3) := by decide +kernel
theorem dX5_firstOfItsPart_40 : decode cX5_firstOfItsPart 40 = .ok (.ireturn, 1) := by decide +kernel
theorem dX5_firstOfItsPart_41 : decode cX5_firstOfItsPart 41 = .ok (.iload_n 1, 1) := by decide +kernel
theorem dX5_firstOfItsPart_42 : decode cX5_firstOfItsPart 42 = .ok (.iconst 1, 1) := by decide +kernel
theorem dX5_firstOfItsPart_43 : decode cX5_firstOfItsPart 43 = .ok (.if_icmp .eq 8, 3) := by decide +kernel
theorem dX5_firstOfItsPart_46 : decode cX5_firstOfItsPart 46 = .ok (.iload_n 1, 1) := by decide +kernel
theorem dX5_firstOfItsPart_47 : decode cX5_firstOfItsPart 47 = .ok (.iconst 2, 1) := by decide +kernel
theorem dX5_firstOfItsPart_48 : decode cX5_firstOfItsPart 48 = .ok (.if_icmp .ne 17, 3) := by decide +kernel
theorem dX5_firstOfItsPart_51 : decode cX5_firstOfItsPart 51 = .ok (.aload_n 2, 1) := by decide +kernel
theorem dX5_firstOfItsPart_52 : decode cX5_firstOfItsPart 52 = .ok (.iconst 1, 1) := by decide +kernel
theorem dX5_firstOfItsPart_53 : decode cX5_firstOfItsPart 53 = .ok (.iload 4, 2) := by decide +kernel
theorem dX5_firstOfItsPart_55 : decode cX5_firstOfItsPart 55 = .ok (.ishl, 1) := by decide +kernel
theorem dX5_firstOfItsPart_56 : decode cX5_firstOfItsPart 56 = .ok (.iload 5, 2) := by decide +kernel
theorem dX5_firstOfItsPart_58 : decode cX5_firstOfItsPart 58 = .ok (.invokestatic 48, 3) := by decide +kernel
theorem dX5_firstOfItsPart_61 : decode cX5_firstOfItsPart 61 = .ok (.invokestatic 55, 3) := by decide +kernel
theorem dX5_firstOfItsPart_64 : decode cX5_firstOfItsPart 64 = .ok (.ireturn, 1) := by decide +kernel
theorem dX5_firstOfItsPart_65 : decode cX5_firstOfItsPart 65 = .ok (.iconst 0, 1) := by decide +kernel
theorem dX5_firstOfItsPart_66 : decode cX5_firstOfItsPart 66 = .ok (.istore 6, 2) := by decide +kernel
theorem dX5_firstOfItsPart_68 : decode cX5_firstOfItsPart 68 = .ok (.iload 6, 2) := by decide +kernel
theorem dX5_firstOfItsPart_70 : decode cX5_firstOfItsPart 70 = .ok (.iload 4, 2) := by decide +kernel
theorem dX5_firstOfItsPart_72 : decode cX5_firstOfItsPart 72 = .ok (.if_icmp .ge 41, 3) := by decide +kernel
theorem dX5_firstOfItsPart_75 : decode cX5_firstOfItsPart 75 = .ok (.aload_n 3, 1) := by decide +kernel
theorem dX5_firstOfItsPart_76 : decode cX5_firstOfItsPart 76 = .ok (.ifnonnull 17, 3) := by decide +kernel
theorem dX5_firstOfItsPart_79 : decode cX5_firstOfItsPart 79 = .ok (.aload_n 0, 1) := by decide +kernel
theorem dX5_firstOfItsPart_80 : decode cX5_firstOfItsPart 80 = .ok (.iload 6, 2) := by decide +kernel
theorem dX5_firstOfItsPart_82 : decode cX5_firstOfItsPart 82 = .ok (.iload 4, 2) := by decide +kernel
theorem dX5_firstOfItsPart_84 : decode cX5_firstOfItsPart 84 = .ok (.invokestatic 59, 3) := by decide +kernel
theorem dX5_firstOfItsPart_87 : decode cX5_firstOfItsPart 87 = .ok (.ifCond .eq 20, 3) := by decide +kernel
theorem dX5_firstOfItsPart_90 : decode cX5_firstOfItsPart 90 = .ok (.goto 14, 3) := by decide +kernel
theorem dX5_firstOfItsPart_93 : decode cX5_firstOfItsPart 93 = .ok (.aload_n 3, 1) := by decide +kernel
theorem dX5_firstOfItsPart_94 : decode cX5_firstOfItsPart 94 = .ok (.iload 6, 2) := by decide +kernel
theorem dX5_firstOfItsPart_96 : decode cX5_firstOfItsPart 96 = .ok (.iload 4, 2) := by decide +kernel
theorem dX5_firstOfItsPart_98 : decode cX5_firstOfItsPart 98 = .ok (.invokestatic 63, 3) := by decide +kernel
theorem dX5_firstOfItsPart_101 : decode cX5_firstOfItsPart 101 = .ok (.ifCond .eq 6, 3) := by decide +kernel
theorem dX5_firstOfItsPart_104 : decode cX5_firstOfItsPart 104 = .ok (.iload 6, 2) := by decide +kernel
theorem dX5_firstOfItsPart_106 : decode cX5_firstOfItsPart 106 = .ok (.ireturn, 1) := by decide +kernel
theorem dX5_firstOfItsPart_107 : decode cX5_firstOfItsPart 107 = .ok (.iinc 6 1, 3) := by decide +kernel
theorem dX5_firstOfItsPart_110 : decode cX5_firstOfItsPart 110 = .ok (.goto (-42), 3) := by decide +kernel
theorem dX5_firstOfItsPart_113 : decode cX5_firstOfItsPart 113 = .ok (.iload 4, 2) := by decide +kernel
theorem dX5_firstOfItsPart_115 : decode cX5_firstOfItsPart 115 = .ok (.ireturn, 1) := by decide +kernel
theorem kX5_41 : lkK (gS, X) RX5 41 mX3_allNodes 0 ∧ Cond.instanceMethod yX3_allNodes ∈ g_ws (gS, X) ∧ Cond.selects RX3 yX3_allNodes yX3_allNodes ∈ g_ws (gS, X) ∧ yX3_allNodes.cls = RX3 := ⟨⟨tb_good, (tb_t (k := 725) (w := Cond.methodLink RX5 41 yX3_allNodes) (by decide +kernel)), (tb_t (k := 10) (w := Cond.initialized RX3) (by decide +kernel)), (tb_t (k := 427) (w := Cond.code yX3_allNodes cX3_allNodes 1 (some .int)) (by decide +kernel)), by decide +kernel, by decide⟩, (tb_t (k := 425) (w := Cond.instanceMethod yX3_allNodes) (by decide +kernel)), (tb_t (k := 426) (w := Cond.selects RX3 yX3_allNodes yX3_allNodes) (by decide +kernel)), rfl⟩
theorem fX5_45 : lkF (gS, X) RX5 45 3 11 "GraphEngine$Graph" RX3 TX3 14 := ⟨rfl, inX3, by decide, (tb_t (k := 338) (w := Cond.fieldLink RX5 45 "GraphEngine$Graph" "out" "[I") (by decide +kernel)), Or.inl rfl⟩
theorem kX5_48 : lkK (gS, X) RX5 48 mX8_reach 3 ∧ Cond.static yX8_reach ∈ g_ws (gS, X) := ⟨⟨tb_good, (tb_t (k := 726) (w := Cond.methodLink RX5 48 yX8_reach) (by decide +kernel)), (tb_t (k := 3) (w := Cond.initialized RX8) (by decide +kernel)), (tb_t (k := 579) (w := Cond.code yX8_reach cX8_reach 6 (some .int)) (by decide +kernel)), by decide +kernel, by decide⟩, (tb_t (k := 578) (w := Cond.static yX8_reach) (by decide +kernel))⟩
theorem fX5_52 : lkF (gS, X) RX5 52 3 12 "GraphEngine$Graph" RX3 TX3 14 := ⟨rfl, inX3, by decide, (tb_t (k := 343) (w := Cond.fieldLink RX5 52 "GraphEngine$Graph" "in" "[I") (by decide +kernel)), Or.inl rfl⟩
theorem kX5_55 : lkK (gS, X) RX5 55 mX8_lowest 1 ∧ Cond.static yX8_lowest ∈ g_ws (gS, X) := ⟨⟨tb_good, (tb_t (k := 727) (w := Cond.methodLink RX5 55 yX8_lowest) (by decide +kernel)), (tb_t (k := 3) (w := Cond.initialized RX8) (by decide +kernel)), (tb_t (k := 729) (w := Cond.code yX8_lowest cX8_lowest 1 (some .int)) (by decide +kernel)), by decide +kernel, by decide⟩, (tb_t (k := 728) (w := Cond.static yX8_lowest) (by decide +kernel))⟩
theorem kX5_59 : lkK (gS, X) RX5 59 mX5_haveSameNeighbours 3 ∧ Cond.static yX5_haveSameNeighbours ∈ g_ws (gS, X) := ⟨⟨tb_good, (tb_t (k := 731) (w := Cond.methodLink RX5 59 yX5_haveSameNeighbours) (by decide +kernel)), (tb_t (k := 17) (w := Cond.initialized RX5) (by decide +kernel)), (tb_t (k := 733) (w := Cond.code yX5_haveSameNeighbours cX5_haveSameNeighbours 3 (some .boolean)) (by decide +kernel)), by decide +kernel, by decide⟩, (tb_t (k := 732) (w := Cond.static yX5_haveSameNeighbours) (by decide +kernel))⟩
theorem kX5_63 : lkK (gS, X) RX5 63 mX5_haveSameNumber 3 ∧ Cond.static yX5_haveSameNumber ∈ g_ws (gS, X) := ⟨⟨tb_good, (tb_t (k := 734) (w := Cond.methodLink RX5 63 yX5_haveSameNumber) (by decide +kernel)), (tb_t (k := 17) (w := Cond.initialized RX5) (by decide +kernel)), (tb_t (k := 736) (w := Cond.code yX5_haveSameNumber cX5_haveSameNumber 3 (some .boolean)) (by decide +kernel)), by decide +kernel, by decide⟩, (tb_t (k := 735) (w := Cond.static yX5_haveSameNumber) (by decide +kernel))⟩
theorem dX5_haveSameNeighbours_0 : decode cX5_haveSameNeighbours 0 = .ok (.aload_n 0, 1) := by decide +kernel
theorem dX5_haveSameNeighbours_1 : decode cX5_haveSameNeighbours 1 = .ok (.getfield 45, 3) := by decide +kernel
theorem dX5_haveSameNeighbours_4 : decode cX5_haveSameNeighbours 4 = .ok (.iload_n 1, 1) := by decide +kernel
theorem dX5_haveSameNeighbours_5 : decode cX5_haveSameNeighbours 5 = .ok (.iaload, 1) := by decide +kernel
theorem dX5_haveSameNeighbours_6 : decode cX5_haveSameNeighbours 6 = .ok (.iconst 1, 1) := by decide +kernel
theorem dX5_haveSameNeighbours_7 : decode cX5_haveSameNeighbours 7 = .ok (.iload_n 1, 1) := by decide +kernel
theorem dX5_haveSameNeighbours_8 : decode cX5_haveSameNeighbours 8 = .ok (.ishl, 1) := by decide +kernel
theorem dX5_haveSameNeighbours_9 : decode cX5_haveSameNeighbours 9 = .ok (.iconst (-1), 1) := by decide +kernel
theorem dX5_haveSameNeighbours_10 : decode cX5_haveSameNeighbours 10 = .ok (.ixor, 1) := by decide +kernel
theorem dX5_haveSameNeighbours_11 : decode cX5_haveSameNeighbours 11 = .ok (.iand, 1) := by decide +kernel
theorem dX5_haveSameNeighbours_12 : decode cX5_haveSameNeighbours 12 = .ok (.aload_n 0, 1) := by decide +kernel
theorem dX5_haveSameNeighbours_13 : decode cX5_haveSameNeighbours 13 = .ok (.getfield 45, 3) := by decide +kernel
theorem dX5_haveSameNeighbours_16 : decode cX5_haveSameNeighbours 16 = .ok (.iload_n 2, 1) := by decide +kernel
theorem dX5_haveSameNeighbours_17 : decode cX5_haveSameNeighbours 17 = .ok (.iaload, 1) := by decide +kernel
theorem dX5_haveSameNeighbours_18 : decode cX5_haveSameNeighbours 18 = .ok (.iconst 1, 1) := by decide +kernel
theorem dX5_haveSameNeighbours_19 : decode cX5_haveSameNeighbours 19 = .ok (.iload_n 2, 1) := by decide +kernel
theorem dX5_haveSameNeighbours_20 : decode cX5_haveSameNeighbours 20 = .ok (.ishl, 1) := by decide +kernel
theorem dX5_haveSameNeighbours_21 : decode cX5_haveSameNeighbours 21 = .ok (.iconst (-1), 1) := by decide +kernel
theorem dX5_haveSameNeighbours_22 : decode cX5_haveSameNeighbours 22 = .ok (.ixor, 1) := by decide +kernel
theorem dX5_haveSameNeighbours_23 : decode cX5_haveSameNeighbours 23 = .ok (.iand, 1) := by decide +kernel
theorem dX5_haveSameNeighbours_24 : decode cX5_haveSameNeighbours 24 = .ok (.if_icmp .ne 34, 3) := by decide +kernel
theorem dX5_haveSameNeighbours_27 : decode cX5_haveSameNeighbours 27 = .ok (.aload_n 0, 1) := by decide +kernel
theorem dX5_haveSameNeighbours_28 : decode cX5_haveSameNeighbours 28 = .ok (.getfield 52, 3) := by decide +kernel
theorem dX5_haveSameNeighbours_31 : decode cX5_haveSameNeighbours 31 = .ok (.iload_n 1, 1) := by decide +kernel
theorem dX5_haveSameNeighbours_32 : decode cX5_haveSameNeighbours 32 = .ok (.iaload, 1) := by decide +kernel
theorem dX5_haveSameNeighbours_33 : decode cX5_haveSameNeighbours 33 = .ok (.iconst 1, 1) := by decide +kernel
theorem dX5_haveSameNeighbours_34 : decode cX5_haveSameNeighbours 34 = .ok (.iload_n 1, 1) := by decide +kernel
theorem dX5_haveSameNeighbours_35 : decode cX5_haveSameNeighbours 35 = .ok (.ishl, 1) := by decide +kernel
theorem dX5_haveSameNeighbours_36 : decode cX5_haveSameNeighbours 36 = .ok (.iconst (-1), 1) := by decide +kernel
theorem dX5_haveSameNeighbours_37 : decode cX5_haveSameNeighbours 37 = .ok (.ixor, 1) := by decide +kernel
theorem dX5_haveSameNeighbours_38 : decode cX5_haveSameNeighbours 38 = .ok (.iand, 1) := by decide +kernel
theorem dX5_haveSameNeighbours_39 : decode cX5_haveSameNeighbours 39 = .ok (.aload_n 0, 1) := by decide +kernel
theorem dX5_haveSameNeighbours_40 : decode cX5_haveSameNeighbours 40 = .ok (.getfield 52, 3) := by decide +kernel
theorem dX5_haveSameNeighbours_43 : decode cX5_haveSameNeighbours 43 = .ok (.iload_n 2, 1) := by decide +kernel
theorem dX5_haveSameNeighbours_44 : decode cX5_haveSameNeighbours 44 = .ok (.iaload, 1) := by decide +kernel
theorem dX5_haveSameNeighbours_45 : decode cX5_haveSameNeighbours 45 = .ok (.iconst 1, 1) := by decide +kernel
theorem dX5_haveSameNeighbours_46 : decode cX5_haveSameNeighbours 46 = .ok (.iload_n 2, 1) := by decide +kernel
theorem dX5_haveSameNeighbours_47 : decode cX5_haveSameNeighbours 47 = .ok (.ishl, 1) := by decide +kernel
theorem dX5_haveSameNeighbours_48 : decode cX5_haveSameNeighbours 48 = .ok (.iconst (-1), 1) := by decide +kernel
theorem dX5_haveSameNeighbours_49 : decode cX5_haveSameNeighbours 49 = .ok (.ixor, 1) := by decide +kernel
theorem dX5_haveSameNeighbours_50 : decode cX5_haveSameNeighbours 50 = .ok (.iand, 1) := by decide +kernel
theorem dX5_haveSameNeighbours_51 : decode cX5_haveSameNeighbours 51 = .ok (.if_icmp .ne 7, 3) := by decide +kernel
theorem dX5_haveSameNeighbours_54 : decode cX5_haveSameNeighbours 54 = .ok (.iconst 1, 1) := by decide +kernel
theorem dX5_haveSameNeighbours_55 : decode cX5_haveSameNeighbours 55 = .ok (.goto 4, 3) := by decide +kernel
theorem dX5_haveSameNeighbours_58 : decode cX5_haveSameNeighbours 58 = .ok (.iconst 0, 1) := by decide +kernel
theorem dX5_haveSameNeighbours_59 : decode cX5_haveSameNeighbours 59 = .ok (.ireturn, 1) := by decide +kernel
theorem dX5_haveSameNumber_0 : decode cX5_haveSameNumber 0 = .ok (.iload_n 1, 1) := by decide +kernel
theorem dX5_haveSameNumber_1 : decode cX5_haveSameNumber 1 = .ok (.aload_n 0, 1) := by decide +kernel
theorem dX5_haveSameNumber_2 : decode cX5_haveSameNumber 2 = .ok (.getfield 67, 3) := by decide +kernel
theorem dX5_haveSameNumber_5 : decode cX5_haveSameNumber 5 = .ok (.if_icmp .ge 31, 3) := by decide +kernel
theorem dX5_haveSameNumber_8 : decode cX5_haveSameNumber 8 = .ok (.iload_n 2, 1) := by decide +kernel
theorem dX5_haveSameNumber_9 : decode cX5_haveSameNumber 9 = .ok (.aload_n 0, 1) := by decide +kernel
theorem dX5_haveSameNumber_10 : decode cX5_haveSameNumber 10 = .ok (.getfield 67, 3) := by decide +kernel
theorem dX5_haveSameNumber_13 : decode cX5_haveSameNumber 13 = .ok (.if_icmp .ge 23, 3) := by decide +kernel
theorem dX5_haveSameNumber_16 : decode cX5_haveSameNumber 16 = .ok (.aload_n 0, 1) := by decide +kernel
theorem dX5_haveSameNumber_17 : decode cX5_haveSameNumber 17 = .ok (.getfield 70, 3) := by decide +kernel
theorem dX5_haveSameNumber_20 : decode cX5_haveSameNumber 20 = .ok (.iload_n 1, 1) := by decide +kernel
theorem dX5_haveSameNumber_21 : decode cX5_haveSameNumber 21 = .ok (.laload, 1) := by decide +kernel
theorem dX5_haveSameNumber_22 : decode cX5_haveSameNumber 22 = .ok (.aload_n 0, 1) := by decide +kernel
theorem dX5_haveSameNumber_23 : decode cX5_haveSameNumber 23 = .ok (.getfield 70, 3) := by decide +kernel
theorem dX5_haveSameNumber_26 : decode cX5_haveSameNumber 26 = .ok (.iload_n 2, 1) := by decide +kernel
theorem dX5_haveSameNumber_27 : decode cX5_haveSameNumber 27 = .ok (.laload, 1) := by decide +kernel
theorem dX5_haveSameNumber_28 : decode cX5_haveSameNumber 28 = .ok (.lcmp, 1) := by decide +kernel
theorem dX5_haveSameNumber_29 : decode cX5_haveSameNumber 29 = .ok (.ifCond .ne 7, 3) := by decide +kernel
theorem dX5_haveSameNumber_32 : decode cX5_haveSameNumber 32 = .ok (.iconst 1, 1) := by decide +kernel
theorem dX5_haveSameNumber_33 : decode cX5_haveSameNumber 33 = .ok (.goto 4, 3) := by decide +kernel
theorem dX5_haveSameNumber_36 : decode cX5_haveSameNumber 36 = .ok (.iconst 0, 1) := by decide +kernel
theorem dX5_haveSameNumber_37 : decode cX5_haveSameNumber 37 = .ok (.ireturn, 1) := by decide +kernel
theorem fX5_67 : lkF (gS, X) RX5 67 0 0 "GraphEngine$Column" RX0 TX0 2 := ⟨rfl, inX0, by decide, (tb_t (k := 365) (w := Cond.fieldLink RX5 67 "GraphEngine$Column" "nodes" "I") (by decide +kernel)), Or.inr (tb_t (k := 363) (w := Cond.sameField "GraphEngine$Column" "GraphEngine$Thing" "nodes" "I") (by decide +kernel))⟩
theorem fX5_70 : lkF (gS, X) RX5 70 0 1 "GraphEngine$Column" RX0 TX0 2 := ⟨rfl, inX0, by decide, (tb_t (k := 531) (w := Cond.fieldLink RX5 70 "GraphEngine$Column" "numbers" "[J") (by decide +kernel)), Or.inl rfl⟩
theorem dX6_newNumber_0 : decode cX6_newNumber 0 = .ok (.aload_n 0, 1) := by decide +kernel
theorem dX6_newNumber_1 : decode cX6_newNumber 1 = .ok (.getfield 21, 3) := by decide +kernel
theorem dX6_newNumber_4 : decode cX6_newNumber 4 = .ok (.iload_n 1, 1) := by decide +kernel
theorem dX6_newNumber_5 : decode cX6_newNumber 5 = .ok (.iaload, 1) := by decide +kernel
theorem dX6_newNumber_6 : decode cX6_newNumber 6 = .ok (.ireturn, 1) := by decide +kernel
theorem dX6_find_0 : decode cX6_find 0 = .ok (.aload_n 1, 1) := by decide +kernel
theorem dX6_find_1 : decode cX6_find 1 = .ok (.getfield 25, 3) := by decide +kernel
theorem dX6_find_4 : decode cX6_find 4 = .ok (.aload_n 2, 1) := by decide +kernel
theorem dX6_find_5 : decode cX6_find 5 = .ok (.getfield 25, 3) := by decide +kernel
theorem dX6_find_8 : decode cX6_find 8 = .ok (.if_icmp .ne 25, 3) := by decide +kernel
theorem dX6_find_11 : decode cX6_find 11 = .ok (.aload_n 1, 1) := by decide +kernel
theorem dX6_find_12 : decode cX6_find 12 = .ok (.getfield 31, 3) := by decide +kernel
theorem dX6_find_15 : decode cX6_find 15 = .ok (.aload_n 2, 1) := by decide +kernel
theorem dX6_find_16 : decode cX6_find 16 = .ok (.getfield 31, 3) := by decide +kernel
theorem dX6_find_19 : decode cX6_find 19 = .ok (.if_icmp .ne 14, 3) := by decide +kernel
theorem dX6_find_22 : decode cX6_find 22 = .ok (.aload_n 1, 1) := by decide +kernel
theorem dX6_find_23 : decode cX6_find 23 = .ok (.getfield 35, 3) := by decide +kernel
theorem dX6_find_26 : decode cX6_find 26 = .ok (.aload_n 2, 1) := by decide +kernel
theorem dX6_find_27 : decode cX6_find 27 = .ok (.getfield 35, 3) := by decide +kernel
theorem dX6_find_30 : decode cX6_find 30 = .ok (.if_icmp .eq 5, 3) := by decide +kernel
theorem dX6_find_33 : decode cX6_find 33 = .ok (.iconst 0, 1) := by decide +kernel
theorem dX6_find_34 : decode cX6_find 34 = .ok (.ireturn, 1) := by decide +kernel
theorem dX6_find_35 : decode cX6_find 35 = .ok (.aload_n 0, 1) := by decide +kernel
theorem dX6_find_36 : decode cX6_find 36 = .ok (.getfield 9, 3) := by decide +kernel
theorem dX6_find_39 : decode cX6_find 39 = .ok (.lconst 0, 1) := by decide +kernel
theorem dX6_find_40 : decode cX6_find 40 = .ok (.invokestatic 38, 3) := by decide +kernel
theorem dX6_find_43 : decode cX6_find 43 = .ok (.aload_n 0, 1) := by decide +kernel
theorem dX6_find_44 : decode cX6_find 44 = .ok (.aload_n 1, 1) := by decide +kernel
theorem dX6_find_45 : decode cX6_find 45 = .ok (.iconst 0, 1) := by decide +kernel
theorem dX6_find_46 : decode cX6_find 46 = .ok (.invokevirtual 44, 3) := by decide +kernel
theorem dX6_find_49 : decode cX6_find 49 = .ok (.aload_n 0, 1) := by decide +kernel
theorem dX6_find_50 : decode cX6_find 50 = .ok (.aload_n 2, 1) := by decide +kernel
theorem dX6_find_51 : decode cX6_find 51 = .ok (.sipush 256, 3) := by decide +kernel
theorem dX6_find_54 : decode cX6_find 54 = .ok (.invokevirtual 44, 3) := by decide +kernel
theorem dX6_find_57 : decode cX6_find 57 = .ok (.aload_n 0, 1) := by decide +kernel
theorem dX6_find_58 : decode cX6_find 58 = .ok (.aload_n 1, 1) := by decide +kernel
theorem dX6_find_59 : decode cX6_find 59 = .ok (.getfield 25, 3) := by decide +kernel
theorem dX6_find_62 : decode cX6_find 62 = .ok (.invokevirtual 48, 3) := by decide +kernel
theorem dX6_find_65 : decode cX6_find 65 = .ok (.aload_n 0, 1) := by decide +kernel
theorem dX6_find_66 : decode cX6_find 66 = .ok (.aload_n 1, 1) := by decide +kernel
theorem dX6_find_67 : decode cX6_find 67 = .ok (.getfield 25, 3) := by decide +kernel
theorem dX6_find_70 : decode cX6_find 70 = .ok (.iconst 0, 1) := by decide +kernel
theorem dX6_find_71 : decode cX6_find 71 = .ok (.invokevirtual 52, 3) := by decide +kernel
theorem dX6_find_74 : decode cX6_find 74 = .ok (.ifCond .eq 18, 3) := by decide +kernel
theorem dX6_find_77 : decode cX6_find 77 = .ok (.aload_n 0, 1) := by decide +kernel
theorem dX6_find_78 : decode cX6_find 78 = .ok (.aload_n 1, 1) := by decide +kernel
theorem dX6_find_79 : decode cX6_find 79 = .ok (.aload_n 2, 1) := by decide +kernel
theorem dX6_find_80 : decode cX6_find 80 = .ok (.iconst 0, 1) := by decide +kernel
theorem dX6_find_81 : decode cX6_find 81 = .ok (.iconst 0, 1) := by decide +kernel
theorem dX6_find_82 : decode cX6_find 82 = .ok (.invokevirtual 56, 3) := by decide +kernel
theorem dX6_find_85 : decode cX6_find 85 = .ok (.ifCond .eq 7, 3) := by decide +kernel
theorem dX6_find_88 : decode cX6_find 88 = .ok (.iconst 1, 1) := by decide +kernel
theorem dX6_find_89 : decode cX6_find 89 = .ok (.goto 4, 3) := by decide +kernel
theorem dX6_find_92 : decode cX6_find 92 = .ok (.iconst 0, 1) := by decide +kernel
theorem dX6_find_93 : decode cX6_find 93 = .ok (.ireturn, 1) := by decide +kernel
theorem fX6_25 : lkF (gS, X) RX6 25 3 0 "GraphEngine$Graph" RX3 TX3 14 := ⟨rfl, inX3, by decide, (tb_t (k := 361) (w := Cond.fieldLink RX6 25 "GraphEngine$Graph" "nodes" "I") (by decide +kernel)), Or.inr (tb_t (k := 351) (w := Cond.sameField "GraphEngine$Graph" "GraphEngine$Thing" "nodes" "I") (by decide +kernel))⟩
theorem fX6_31 : lkF (gS, X) RX6 31 3 1 "GraphEngine$Graph" RX3 TX3 14 := ⟨rfl, inX3, by decide, (tb_t (k := 285) (w := Cond.fieldLink RX6 31 "GraphEngine$Graph" "directed" "Z") (by decide +kernel)), Or.inl rfl⟩
theorem fX6_35 : lkF (gS, X) RX6 35 3 2 "GraphEngine$Graph" RX3 TX3 14 := ⟨rfl, inX3, by decide, (tb_t (k := 291) (w := Cond.fieldLink RX6 35 "GraphEngine$Graph" "arcs" "I") (by decide +kernel)), Or.inl rfl⟩
theorem kX6_38 : lkK (gS, X) RX6 38 mJ7_fill_d0a16 2 ∧ Cond.static yJ7_fill_d0a16 ∈ g_ws (gS, X) := ⟨⟨tb_good, (tb_t (k := 844) (w := Cond.methodLink RX6 38 yJ7_fill_d0a16) (by decide +kernel)), (tb_t (k := 11) (w := Cond.initialized RJ7) (by decide +kernel)), (tb_t (k := 565) (w := Cond.code yJ7_fill_d0a16 cJ7_fill_d0a16 5 none) (by decide +kernel)), by decide +kernel, by decide⟩, (tb_t (k := 564) (w := Cond.static yJ7_fill_d0a16) (by decide +kernel))⟩
theorem kX6_44 : lkK (gS, X) RX6 44 mX6_fillTies 2 ∧ Cond.instanceMethod yX6_fillTies ∈ g_ws (gS, X) ∧ Cond.selects RX6 yX6_fillTies yX6_fillTies ∈ g_ws (gS, X) ∧ yX6_fillTies.cls = RX6 := ⟨⟨tb_good, (tb_t (k := 845) (w := Cond.methodLink RX6 44 yX6_fillTies) (by decide +kernel)), (tb_t (k := 7) (w := Cond.initialized RX6) (by decide +kernel)), (tb_t (k := 848) (w := Cond.code yX6_fillTies cX6_fillTies 8 none) (by decide +kernel)), by decide +kernel, by decide⟩, (tb_t (k := 847) (w := Cond.instanceMethod yX6_fillTies) (by decide +kernel)), (tb_p (k := 36) (q := (yX6_fillTies, 4)) (by decide +kernel)), rfl⟩
theorem kX6_48 : lkK (gS, X) RX6 48 mX6_startColours 1 ∧ Cond.instanceMethod yX6_startColours ∈ g_ws (gS, X) ∧ Cond.selects RX6 yX6_startColours yX6_startColours ∈ g_ws (gS, X) ∧ yX6_startColours.cls = RX6 := ⟨⟨tb_good, (tb_t (k := 854) (w := Cond.methodLink RX6 48 yX6_startColours) (by decide +kernel)), (tb_t (k := 7) (w := Cond.initialized RX6) (by decide +kernel)), (tb_t (k := 857) (w := Cond.code yX6_startColours cX6_startColours 4 none) (by decide +kernel)), by decide +kernel, by decide⟩, (tb_t (k := 856) (w := Cond.instanceMethod yX6_startColours) (by decide +kernel)), (tb_p (k := 37) (q := (yX6_startColours, 4)) (by decide +kernel)), rfl⟩
theorem kX6_52 : lkK (gS, X) RX6 52 mX6_refine 2 ∧ Cond.instanceMethod yX6_refine ∈ g_ws (gS, X) ∧ Cond.selects RX6 yX6_refine yX6_refine ∈ g_ws (gS, X) ∧ yX6_refine.cls = RX6 := ⟨⟨tb_good, (tb_t (k := 858) (w := Cond.methodLink RX6 52 yX6_refine) (by decide +kernel)), (tb_t (k := 7) (w := Cond.initialized RX6) (by decide +kernel)), (tb_t (k := 861) (w := Cond.code yX6_refine cX6_refine 7 (some .boolean)) (by decide +kernel)), by decide +kernel, by decide⟩, (tb_t (k := 860) (w := Cond.instanceMethod yX6_refine) (by decide +kernel)), (tb_p (k := 38) (q := (yX6_refine, 4)) (by decide +kernel)), rfl⟩
theorem kX6_56 : lkK (gS, X) RX6 56 mX6_canNumber 4 ∧ Cond.instanceMethod yX6_canNumber ∈ g_ws (gS, X) ∧ Cond.selects RX6 yX6_canNumber yX6_canNumber ∈ g_ws (gS, X) ∧ yX6_canNumber.cls = RX6 := ⟨⟨tb_good, (tb_t (k := 880) (w := Cond.methodLink RX6 56 yX6_canNumber) (by decide +kernel)), (tb_t (k := 7) (w := Cond.initialized RX6) (by decide +kernel)), (tb_t (k := 883) (w := Cond.code yX6_canNumber cX6_canNumber 13 (some .boolean)) (by decide +kernel)), by decide +kernel, by decide⟩, (tb_t (k := 882) (w := Cond.instanceMethod yX6_canNumber) (by decide +kernel)), (tb_p (k := 43) (q := (yX6_canNumber, 4)) (by decide +kernel)), rfl⟩
theorem dX6_scramble_0 : decode cX6_scramble 0 = .ok (.lload_n 0, 1) := by decide +kernel
theorem dX6_scramble_1 : decode cX6_scramble 1 = .ok (.lload_n 0, 1) := by decide +kernel
theorem dX6_scramble_2 : decode cX6_scramble 2 = .ok (.bipush 31, 2) := by decide +kernel
theorem dX6_scramble_4 : decode cX6_scramble 4 = .ok (.lushr, 1) := by decide +kernel
theorem dX6_scramble_5 : decode cX6_scramble 5 = .ok (.lxor, 1) := by decide +kernel
theorem dX6_scramble_6 : decode cX6_scramble 6 = .ok (.ldc2_w 60, 3) := by decide +kernel
theorem dX6_scramble_9 : decode cX6_scramble 9 = .ok (.lmul, 1) := by decide +kernel
theorem dX6_scramble_10 : decode cX6_scramble 10 = .ok (.lstore_n 2, 1) := by decide +kernel
theorem dX6_scramble_11 : decode cX6_scramble 11 = .ok (.lload_n 2, 1) := by decide +kernel
theorem dX6_scramble_12 : decode cX6_scramble 12 = .ok (.lload_n 2, 1) := by decide +kernel
theorem dX6_scramble_13 : decode cX6_scramble 13 = .ok (.bipush 29, 2) := by decide +kernel
theorem dX6_scramble_15 : decode cX6_scramble 15 = .ok (.lushr, 1) := by decide +kernel
theorem dX6_scramble_16 : decode cX6_scramble 16 = .ok (.lxor, 1) := by decide +kernel
theorem dX6_scramble_17 : decode cX6_scramble 17 = .ok (.ldc2_w 60, 3) := by decide +kernel
theorem dX6_scramble_20 : decode cX6_scramble 20 = .ok (.lmul, 1) := by decide +kernel
theorem dX6_scramble_21 : decode cX6_scramble 21 = .ok (.lstore_n 2, 1) := by decide +kernel
theorem dX6_scramble_22 : decode cX6_scramble 22 = .ok (.lload_n 2, 1) := by decide +kernel
theorem dX6_scramble_23 : decode cX6_scramble 23 = .ok (.lload_n 2, 1) := by decide +kernel
theorem dX6_scramble_24 : decode cX6_scramble 24 = .ok (.bipush 32, 2) := by decide +kernel
theorem dX6_scramble_26 : decode cX6_scramble 26 = .ok (.lushr, 1) := by decide +kernel
theorem dX6_scramble_27 : decode cX6_scramble 27 = .ok (.lxor, 1) := by decide +kernel
theorem dX6_scramble_28 : decode cX6_scramble 28 = .ok (.lreturn, 1) := by decide +kernel
theorem kX6_60 : Cond.constantLong RX6 60 (-7046029254386353131) ∈ g_ws (gS, X) := (tb_t (k := 853) (w := Cond.constantLong RX6 60 (-7046029254386353131)) (by decide +kernel))
theorem dX6_fillTies_0 : decode cX6_fillTies 0 = .ok (.iconst 0, 1) := by decide +kernel
theorem dX6_fillTies_1 : decode cX6_fillTies 1 = .ok (.istore_n 3, 1) := by decide +kernel
theorem dX6_fillTies_2 : decode cX6_fillTies 2 = .ok (.iload_n 3, 1) := by decide +kernel
theorem dX6_fillTies_3 : decode cX6_fillTies 3 = .ok (.aload_n 1, 1) := by decide +kernel
theorem dX6_fillTies_4 : decode cX6_fillTies 4 = .ok (.getfield 35, 3) := by decide +kernel
theorem dX6_fillTies_7 : decode cX6_fillTies 7 = .ok (.if_icmp .ge 121, 3) := by decide +kernel
theorem dX6_fillTies_10 : decode cX6_fillTies 10 = .ok (.aload_n 1, 1) := by decide +kernel
theorem dX6_fillTies_11 : decode cX6_fillTies 11 = .ok (.getfield 62, 3) := by decide +kernel
theorem dX6_fillTies_14 : decode cX6_fillTies 14 = .ok (.iload_n 3, 1) := by decide +kernel
theorem dX6_fillTies_15 : decode cX6_fillTies 15 = .ok (.iaload, 1) := by decide +kernel
theorem dX6_fillTies_16 : decode cX6_fillTies 16 = .ok (.i2l, 1) := by decide +kernel
theorem dX6_fillTies_17 : decode cX6_fillTies 17 = .ok (.ldc2_w 65, 3) := by decide +kernel
theorem dX6_fillTies_20 : decode cX6_fillTies 20 = .ok (.lmul, 1) := by decide +kernel
theorem dX6_fillTies_21 : decode cX6_fillTies 21 = .ok (.aload_n 1, 1) := by decide +kernel
theorem dX6_fillTies_22 : decode cX6_fillTies 22 = .ok (.getfield 67, 3) := by decide +kernel
theorem dX6_fillTies_25 : decode cX6_fillTies 25 = .ok (.iload_n 3, 1) := by decide +kernel
theorem dX6_fillTies_26 : decode cX6_fillTies 26 = .ok (.iaload, 1) := by decide +kernel
theorem dX6_fillTies_27 : decode cX6_fillTies 27 = .ok (.i2l, 1) := by decide +kernel
theorem dX6_fillTies_28 : decode cX6_fillTies 28 = .ok (.ladd, 1) := by decide +kernel
theorem dX6_fillTies_29 : decode cX6_fillTies 29 = .ok (.lconst 1, 1) := by decide +kernel
theorem dX6_fillTies_30 : decode cX6_fillTies 30 = .ok (.ladd, 1) := by decide +kernel
theorem dX6_fillTies_31 : decode cX6_fillTies 31 = .ok (.invokestatic 70, 3) := by decide +kernel
theorem dX6_fillTies_34 : decode cX6_fillTies 34 = .ok (.lstore 4, 2) := by decide +kernel
theorem dX6_fillTies_36 : decode cX6_fillTies 36 = .ok (.iload_n 2, 1) := by decide +kernel
theorem dX6_fillTies_37 : decode cX6_fillTies 37 = .ok (.aload_n 1, 1) := by decide +kernel
theorem dX6_fillTies_38 : decode cX6_fillTies 38 = .ok (.getfield 74, 3) := by decide +kernel
theorem dX6_fillTies_41 : decode cX6_fillTies 41 = .ok (.iload_n 3, 1) := by decide +kernel
theorem dX6_fillTies_42 : decode cX6_fillTies 42 = .ok (.iaload, 1) := by decide +kernel
theorem dX6_fillTies_43 : decode cX6_fillTies 43 = .ok (.bipush 16, 2) := by decide +kernel
theorem dX6_fillTies_45 : decode cX6_fillTies 45 = .ok (.imul, 1) := by decide +kernel
theorem dX6_fillTies_46 : decode cX6_fillTies 46 = .ok (.iadd, 1) := by decide +kernel
theorem dX6_fillTies_47 : decode cX6_fillTies 47 = .ok (.aload_n 1, 1) := by decide +kernel
theorem dX6_fillTies_48 : decode cX6_fillTies 48 = .ok (.getfield 77, 3) := by decide +kernel
theorem dX6_fillTies_51 : decode cX6_fillTies 51 = .ok (.iload_n 3, 1) := by decide +kernel
theorem dX6_fillTies_52 : decode cX6_fillTies 52 = .ok (.iaload, 1) := by decide +kernel
theorem dX6_fillTies_53 : decode cX6_fillTies 53 = .ok (.iadd, 1) := by decide +kernel
theorem dX6_fillTies_54 : decode cX6_fillTies 54 = .ok (.istore 6, 2) := by decide +kernel
theorem dX6_fillTies_56 : decode cX6_fillTies 56 = .ok (.iload_n 2, 1) := by decide +kernel
theorem dX6_fillTies_57 : decode cX6_fillTies 57 = .ok (.aload_n 1, 1) := by decide +kernel
theorem dX6_fillTies_58 : decode cX6_fillTies 58 = .ok (.getfield 77, 3) := by decide +kernel
theorem dX6_fillTies_61 : decode cX6_fillTies 61 = .ok (.iload_n 3, 1) := by decide +kernel
theorem dX6_fillTies_62 : decode cX6_fillTies 62 = .ok (.iaload, 1) := by decide +kernel
theorem dX6_fillTies_63 : decode cX6_fillTies 63 = .ok (.bipush 16, 2) := by decide +kernel
theorem dX6_fillTies_65 : decode cX6_fillTies 65 = .ok (.imul, 1) := by decide +kernel
theorem dX6_fillTies_66 : decode cX6_fillTies 66 = .ok (.iadd, 1) := by decide +kernel
theorem dX6_fillTies_67 : decode cX6_fillTies 67 = .ok (.aload_n 1, 1) := by decide +kernel
theorem dX6_fillTies_68 : decode cX6_fillTies 68 = .ok (.getfield 74, 3) := by decide +kernel
theorem dX6_fillTies_71 : decode cX6_fillTies 71 = .ok (.iload_n 3, 1) := by decide +kernel
theorem dX6_fillTies_72 : decode cX6_fillTies 72 = .ok (.iaload, 1) := by decide +kernel
theorem dX6_fillTies_73 : decode cX6_fillTies 73 = .ok (.iadd, 1) := by decide +kernel
theorem dX6_fillTies_74 : decode cX6_fillTies 74 = .ok (.istore 7, 2) := by decide +kernel
theorem dX6_fillTies_76 : decode cX6_fillTies 76 = .ok (.aload_n 0, 1) := by decide +kernel
theorem dX6_fillTies_77 : decode cX6_fillTies 77 = .ok (.getfield 9, 3) := by decide +kernel
theorem dX6_fillTies_80 : decode cX6_fillTies 80 = .ok (.iload 6, 2) := by decide +kernel
theorem dX6_fillTies_82 : decode cX6_fillTies 82 = .ok (.dup2, 1) := by decide +kernel
theorem dX6_fillTies_83 : decode cX6_fillTies 83 = .ok (.laload, 1) := by decide +kernel
theorem dX6_fillTies_84 : decode cX6_fillTies 84 = .ok (.lload 4, 2) := by decide +kernel
theorem dX6_fillTies_86 : decode cX6_fillTies 86 = .ok (.ladd, 1) := by decide +kernel
theorem dX6_fillTies_87 : decode cX6_fillTies 87 = .ok (.lastore, 1) := by decide +kernel
theorem dX6_fillTies_88 : decode cX6_fillTies 88 = .ok (.iload 6, 2) := by decide +kernel
theorem dX6_fillTies_90 : decode cX6_fillTies 90 = .ok (.iload 7, 2) := by decide +kernel
theorem dX6_fillTies_92 : decode cX6_fillTies 92 = .ok (.if_icmp .eq 30, 3) := by decide +kernel
theorem dX6_fillTies_95 : decode cX6_fillTies 95 = .ok (.aload_n 0, 1) := by decide +kernel
theorem dX6_fillTies_96 : decode cX6_fillTies 96 = .ok (.getfield 9, 3) := by decide +kernel
theorem dX6_fillTies_99 : decode cX6_fillTies 99 = .ok (.iload 7, 2) := by decide +kernel
theorem dX6_fillTies_101 : decode cX6_fillTies 101 = .ok (.dup2, 1) := by decide +kernel
theorem dX6_fillTies_102 : decode cX6_fillTies 102 = .ok (.laload, 1) := by decide +kernel
theorem dX6_fillTies_103 : decode cX6_fillTies 103 = .ok (.aload_n 1, 1) := by decide +kernel
theorem dX6_fillTies_104 : decode cX6_fillTies 104 = .ok (.getfield 31, 3) := by decide +kernel
theorem dX6_fillTies_107 : decode cX6_fillTies 107 = .ok (.ifCond .eq 11, 3) := by decide +kernel
theorem dX6_fillTies_110 : decode cX6_fillTies 110 = .ok (.lload 4, 2) := by decide +kernel
theorem dX6_fillTies_112 : decode cX6_fillTies 112 = .ok (.invokestatic 70, 3) := by decide +kernel
theorem dX6_fillTies_115 : decode cX6_fillTies 115 = .ok (.goto 5, 3) := by decide +kernel
theorem dX6_fillTies_118 : decode cX6_fillTies 118 = .ok (.lload 4, 2) := by decide +kernel
theorem dX6_fillTies_120 : decode cX6_fillTies 120 = .ok (.ladd, 1) := by decide +kernel
theorem dX6_fillTies_121 : decode cX6_fillTies 121 = .ok (.lastore, 1) := by decide +kernel
theorem dX6_fillTies_122 : decode cX6_fillTies 122 = .ok (.iinc 3 1, 3) := by decide +kernel
theorem dX6_fillTies_125 : decode cX6_fillTies 125 = .ok (.goto (-123), 3) := by decide +kernel
theorem dX6_fillTies_128 : decode cX6_fillTies 128 = .ok (.return_, 1) := by decide +kernel
theorem fX6_62 : lkF (gS, X) RX6 62 3 5 "GraphEngine$Graph" RX3 TX3 14 := ⟨rfl, inX3, by decide, (tb_t (k := 309) (w := Cond.fieldLink RX6 62 "GraphEngine$Graph" "weight" "[I") (by decide +kernel)), Or.inl rfl⟩
theorem kX6_65 : Cond.constantLong RX6 65 4096 ∈ g_ws (gS, X) := (tb_t (k := 849) (w := Cond.constantLong RX6 65 4096) (by decide +kernel))
theorem fX6_67 : lkF (gS, X) RX6 67 3 6 "GraphEngine$Graph" RX3 TX3 14 := ⟨rfl, inX3, by decide, (tb_t (k := 314) (w := Cond.fieldLink RX6 67 "GraphEngine$Graph" "cost" "[I") (by decide +kernel)), Or.inl rfl⟩
theorem kX6_70 : lkK (gS, X) RX6 70 mX6_scramble 1 ∧ Cond.static yX6_scramble ∈ g_ws (gS, X) := ⟨⟨tb_good, (tb_t (k := 850) (w := Cond.methodLink RX6 70 yX6_scramble) (by decide +kernel)), (tb_t (k := 7) (w := Cond.initialized RX6) (by decide +kernel)), (tb_t (k := 852) (w := Cond.code yX6_scramble cX6_scramble 4 (some .long)) (by decide +kernel)), by decide +kernel, by decide⟩, (tb_t (k := 851) (w := Cond.static yX6_scramble) (by decide +kernel))⟩
theorem fX6_74 : lkF (gS, X) RX6 74 3 3 "GraphEngine$Graph" RX3 TX3 14 := ⟨rfl, inX3, by decide, (tb_t (k := 298) (w := Cond.fieldLink RX6 74 "GraphEngine$Graph" "from" "[I") (by decide +kernel)), Or.inl rfl⟩
theorem fX6_77 : lkF (gS, X) RX6 77 3 4 "GraphEngine$Graph" RX3 TX3 14 := ⟨rfl, inX3, by decide, (tb_t (k := 303) (w := Cond.fieldLink RX6 77 "GraphEngine$Graph" "to" "[I") (by decide +kernel)), Or.inl rfl⟩
theorem dX6_startColours_0 : decode cX6_startColours 0 = .ok (.iconst 0, 1) := by decide +kernel
theorem dX6_startColours_1 : decode cX6_startColours 1 = .ok (.istore_n 2, 1) := by decide +kernel
theorem dX6_startColours_2 : decode cX6_startColours 2 = .ok (.iload_n 2, 1) := by decide +kernel
theorem dX6_startColours_3 : decode cX6_startColours 3 = .ok (.iload_n 1, 1) := by decide +kernel
theorem dX6_startColours_4 : decode cX6_startColours 4 = .ok (.if_icmp .ge 53, 3) := by decide +kernel
theorem dX6_startColours_7 : decode cX6_startColours 7 = .ok (.iload_n 2, 1) := by decide +kernel
theorem dX6_startColours_8 : decode cX6_startColours 8 = .ok (.bipush 16, 2) := by decide +kernel
theorem dX6_startColours_10 : decode cX6_startColours 10 = .ok (.imul, 1) := by decide +kernel
theorem dX6_startColours_11 : decode cX6_startColours 11 = .ok (.iload_n 2, 1) := by decide +kernel
theorem dX6_startColours_12 : decode cX6_startColours 12 = .ok (.iadd, 1) := by decide +kernel
theorem dX6_startColours_13 : decode cX6_startColours 13 = .ok (.istore_n 3, 1) := by decide +kernel
theorem dX6_startColours_14 : decode cX6_startColours 14 = .ok (.aload_n 0, 1) := by decide +kernel
theorem dX6_startColours_15 : decode cX6_startColours 15 = .ok (.getfield 15, 3) := by decide +kernel
theorem dX6_startColours_18 : decode cX6_startColours 18 = .ok (.iload_n 2, 1) := by decide +kernel
theorem dX6_startColours_19 : decode cX6_startColours 19 = .ok (.aload_n 0, 1) := by decide +kernel
theorem dX6_startColours_20 : decode cX6_startColours 20 = .ok (.getfield 9, 3) := by decide +kernel
theorem dX6_startColours_23 : decode cX6_startColours 23 = .ok (.iload_n 3, 1) := by decide +kernel
theorem dX6_startColours_24 : decode cX6_startColours 24 = .ok (.laload, 1) := by decide +kernel
theorem dX6_startColours_25 : decode cX6_startColours 25 = .ok (.invokestatic 70, 3) := by decide +kernel
theorem dX6_startColours_28 : decode cX6_startColours 28 = .ok (.lastore, 1) := by decide +kernel
theorem dX6_startColours_29 : decode cX6_startColours 29 = .ok (.aload_n 0, 1) := by decide +kernel
theorem dX6_startColours_30 : decode cX6_startColours 30 = .ok (.getfield 15, 3) := by decide +kernel
theorem dX6_startColours_33 : decode cX6_startColours 33 = .ok (.bipush 16, 2) := by decide +kernel
theorem dX6_startColours_35 : decode cX6_startColours 35 = .ok (.iload_n 2, 1) := by decide +kernel
theorem dX6_startColours_36 : decode cX6_startColours 36 = .ok (.iadd, 1) := by decide +kernel
theorem dX6_startColours_37 : decode cX6_startColours 37 = .ok (.aload_n 0, 1) := by decide +kernel
theorem dX6_startColours_38 : decode cX6_startColours 38 = .ok (.getfield 9, 3) := by decide +kernel
theorem dX6_startColours_41 : decode cX6_startColours 41 = .ok (.sipush 256, 3) := by decide +kernel
theorem dX6_startColours_44 : decode cX6_startColours 44 = .ok (.iload_n 3, 1) := by decide +kernel
theorem dX6_startColours_45 : decode cX6_startColours 45 = .ok (.iadd, 1) := by decide +kernel
theorem dX6_startColours_46 : decode cX6_startColours 46 = .ok (.laload, 1) := by decide +kernel
theorem dX6_startColours_47 : decode cX6_startColours 47 = .ok (.invokestatic 70, 3) := by decide +kernel
theorem dX6_startColours_50 : decode cX6_startColours 50 = .ok (.lastore, 1) := by decide +kernel
theorem dX6_startColours_51 : decode cX6_startColours 51 = .ok (.iinc 2 1, 3) := by decide +kernel
theorem dX6_startColours_54 : decode cX6_startColours 54 = .ok (.goto (-52), 3) := by decide +kernel
theorem dX6_startColours_57 : decode cX6_startColours 57 = .ok (.return_, 1) := by decide +kernel
theorem dX6_refine_0 : decode cX6_refine 0 = .ok (.iload_n 2, 1) := by decide +kernel
theorem dX6_refine_1 : decode cX6_refine 1 = .ok (.bipush 32, 2) := by decide +kernel
theorem dX6_refine_3 : decode cX6_refine 3 = .ok (.imul, 1) := by decide +kernel
theorem dX6_refine_4 : decode cX6_refine 4 = .ok (.istore_n 3, 1) := by decide +kernel
theorem dX6_refine_5 : decode cX6_refine 5 = .ok (.iconst 0, 1) := by decide +kernel
theorem dX6_refine_6 : decode cX6_refine 6 = .ok (.istore 4, 2) := by decide +kernel
theorem dX6_refine_8 : decode cX6_refine 8 = .ok (.aload_n 0, 1) := by decide +kernel
theorem dX6_refine_9 : decode cX6_refine 9 = .ok (.iload_n 3, 1) := by decide +kernel
theorem dX6_refine_10 : decode cX6_refine 10 = .ok (.iload_n 1, 1) := by decide +kernel
theorem dX6_refine_11 : decode cX6_refine 11 = .ok (.invokevirtual 80, 3) := by decide +kernel
theorem dX6_refine_14 : decode cX6_refine 14 = .ok (.istore 5, 2) := by decide +kernel
theorem dX6_refine_16 : decode cX6_refine 16 = .ok (.iconst 0, 1) := by decide +kernel
theorem dX6_refine_17 : decode cX6_refine 17 = .ok (.istore 6, 2) := by decide +kernel
theorem dX6_refine_19 : decode cX6_refine 19 = .ok (.iload 6, 2) := by decide +kernel
theorem dX6_refine_21 : decode cX6_refine 21 = .ok (.iload_n 1, 1) := by decide +kernel
theorem dX6_refine_22 : decode cX6_refine 22 = .ok (.if_icmp .ge 64, 3) := by decide +kernel
theorem dX6_refine_25 : decode cX6_refine 25 = .ok (.iload 5, 2) := by decide +kernel
theorem dX6_refine_27 : decode cX6_refine 27 = .ok (.iload 4, 2) := by decide +kernel
theorem dX6_refine_29 : decode cX6_refine 29 = .ok (.if_icmp .le 57, 3) := by decide +kernel
theorem dX6_refine_32 : decode cX6_refine 32 = .ok (.iload 5, 2) := by decide +kernel
theorem dX6_refine_34 : decode cX6_refine 34 = .ok (.iload_n 1, 1) := by decide +kernel
theorem dX6_refine_35 : decode cX6_refine 35 = .ok (.if_icmp .ge 51, 3) := by decide +kernel
theorem dX6_refine_38 : decode cX6_refine 38 = .ok (.aload_n 0, 1) := by decide +kernel
theorem dX6_refine_39 : decode cX6_refine 39 = .ok (.iload_n 3, 1) := by decide +kernel
theorem dX6_refine_40 : decode cX6_refine 40 = .ok (.iconst 0, 1) := by decide +kernel
theorem dX6_refine_41 : decode cX6_refine 41 = .ok (.iload_n 1, 1) := by decide +kernel
theorem dX6_refine_42 : decode cX6_refine 42 = .ok (.invokevirtual 84, 3) := by decide +kernel
theorem dX6_refine_45 : decode cX6_refine 45 = .ok (.aload_n 0, 1) := by decide +kernel
theorem dX6_refine_46 : decode cX6_refine 46 = .ok (.iload_n 3, 1) := by decide +kernel
theorem dX6_refine_47 : decode cX6_refine 47 = .ok (.bipush 16, 2) := by decide +kernel
theorem dX6_refine_49 : decode cX6_refine 49 = .ok (.iload_n 1, 1) := by decide +kernel
theorem dX6_refine_50 : decode cX6_refine 50 = .ok (.invokevirtual 84, 3) := by decide +kernel
theorem dX6_refine_53 : decode cX6_refine 53 = .ok (.aload_n 0, 1) := by decide +kernel
theorem dX6_refine_54 : decode cX6_refine 54 = .ok (.getfield 18, 3) := by decide +kernel
theorem dX6_refine_57 : decode cX6_refine 57 = .ok (.iconst 0, 1) := by decide +kernel
theorem dX6_refine_58 : decode cX6_refine 58 = .ok (.aload_n 0, 1) := by decide +kernel
theorem dX6_refine_59 : decode cX6_refine 59 = .ok (.getfield 15, 3) := by decide +kernel
theorem dX6_refine_62 : decode cX6_refine 62 = .ok (.iload_n 3, 1) := by decide +kernel
theorem dX6_refine_63 : decode cX6_refine 63 = .ok (.bipush 32, 2) := by decide +kernel
theorem dX6_refine_65 : decode cX6_refine 65 = .ok (.invokestatic 88, 3) := by decide +kernel
theorem dX6_refine_68 : decode cX6_refine 68 = .ok (.iload 5, 2) := by decide +kernel
theorem dX6_refine_70 : decode cX6_refine 70 = .ok (.istore 4, 2) := by decide +kernel
theorem dX6_refine_72 : decode cX6_refine 72 = .ok (.aload_n 0, 1) := by decide +kernel
theorem dX6_refine_73 : decode cX6_refine 73 = .ok (.iload_n 3, 1) := by decide +kernel
theorem dX6_refine_74 : decode cX6_refine 74 = .ok (.iload_n 1, 1) := by decide +kernel
theorem dX6_refine_75 : decode cX6_refine 75 = .ok (.invokevirtual 80, 3) := by decide +kernel
theorem dX6_refine_78 : decode cX6_refine 78 = .ok (.istore 5, 2) := by decide +kernel
theorem dX6_refine_80 : decode cX6_refine 80 = .ok (.iinc 6 1, 3) := by decide +kernel
theorem dX6_refine_83 : decode cX6_refine 83 = .ok (.goto (-64), 3) := by decide +kernel
theorem dX6_refine_86 : decode cX6_refine 86 = .ok (.aload_n 0, 1) := by decide +kernel
theorem dX6_refine_87 : decode cX6_refine 87 = .ok (.iload_n 3, 1) := by decide +kernel
theorem dX6_refine_88 : decode cX6_refine 88 = .ok (.iload_n 1, 1) := by decide +kernel
theorem dX6_refine_89 : decode cX6_refine 89 = .ok (.invokevirtual 94, 3) := by decide +kernel
theorem dX6_refine_92 : decode cX6_refine 92 = .ok (.ireturn, 1) := by decide +kernel
theorem kX6_80 : lkK (gS, X) RX6 80 mX6_countColours 2 ∧ Cond.instanceMethod yX6_countColours ∈ g_ws (gS, X) ∧ Cond.selects RX6 yX6_countColours yX6_countColours ∈ g_ws (gS, X) ∧ yX6_countColours.cls = RX6 := ⟨⟨tb_good, (tb_t (k := 862) (w := Cond.methodLink RX6 80 yX6_countColours) (by decide +kernel)), (tb_t (k := 7) (w := Cond.initialized RX6) (by decide +kernel)), (tb_t (k := 865) (w := Cond.code yX6_countColours cX6_countColours 7 (some .int)) (by decide +kernel)), by decide +kernel, by decide⟩, (tb_t (k := 864) (w := Cond.instanceMethod yX6_countColours) (by decide +kernel)), (tb_p (k := 39) (q := (yX6_countColours, 4)) (by decide +kernel)), rfl⟩
theorem kX6_84 : lkK (gS, X) RX6 84 mX6_recolour 3 ∧ Cond.instanceMethod yX6_recolour ∈ g_ws (gS, X) ∧ Cond.selects RX6 yX6_recolour yX6_recolour ∈ g_ws (gS, X) ∧ yX6_recolour.cls = RX6 := ⟨⟨tb_good, (tb_t (k := 866) (w := Cond.methodLink RX6 84 yX6_recolour) (by decide +kernel)), (tb_t (k := 7) (w := Cond.initialized RX6) (by decide +kernel)), (tb_t (k := 869) (w := Cond.code yX6_recolour cX6_recolour 9 none) (by decide +kernel)), by decide +kernel, by decide⟩, (tb_t (k := 868) (w := Cond.instanceMethod yX6_recolour) (by decide +kernel)), (tb_p (k := 40) (q := (yX6_recolour, 4)) (by decide +kernel)), rfl⟩
theorem aX6_88 : lkA (gS, X) RX6 88 := ⟨(tb_t (k := 871) (w := Cond.methodLink RX6 88 arraycopyName) (by decide +kernel)), (tb_t (k := 272) (w := Cond.native arraycopyName) (by decide +kernel)), (tb_t (k := 271) (w := Cond.static arraycopyName) (by decide +kernel)), (tb_t (k := 13) (w := Cond.initialized "java/lang/System") (by decide +kernel))⟩
theorem kX6_94 : lkK (gS, X) RX6 94 mX6_haveSameColours 2 ∧ Cond.instanceMethod yX6_haveSameColours ∈ g_ws (gS, X) ∧ Cond.selects RX6 yX6_haveSameColours yX6_haveSameColours ∈ g_ws (gS, X) ∧ yX6_haveSameColours.cls = RX6 := ⟨⟨tb_good, (tb_t (k := 872) (w := Cond.methodLink RX6 94 yX6_haveSameColours) (by decide +kernel)), (tb_t (k := 7) (w := Cond.initialized RX6) (by decide +kernel)), (tb_t (k := 875) (w := Cond.code yX6_haveSameColours cX6_haveSameColours 6 (some .boolean)) (by decide +kernel)), by decide +kernel, by decide⟩, (tb_t (k := 874) (w := Cond.instanceMethod yX6_haveSameColours) (by decide +kernel)), (tb_p (k := 41) (q := (yX6_haveSameColours, 4)) (by decide +kernel)), rfl⟩
theorem dX6_countColours_0 : decode cX6_countColours 0 = .ok (.iconst 0, 1) := by decide +kernel
theorem dX6_countColours_1 : decode cX6_countColours 1 = .ok (.istore_n 3, 1) := by decide +kernel
theorem dX6_countColours_2 : decode cX6_countColours 2 = .ok (.iconst 0, 1) := by decide +kernel
theorem dX6_countColours_3 : decode cX6_countColours 3 = .ok (.istore 4, 2) := by decide +kernel
theorem dX6_countColours_5 : decode cX6_countColours 5 = .ok (.iload 4, 2) := by decide +kernel
theorem dX6_countColours_7 : decode cX6_countColours 7 = .ok (.iload_n 2, 1) := by decide +kernel
theorem dX6_countColours_8 : decode cX6_countColours 8 = .ok (.if_icmp .ge 75, 3) := by decide +kernel
theorem dX6_countColours_11 : decode cX6_countColours 11 = .ok (.iconst 1, 1) := by decide +kernel
theorem dX6_countColours_12 : decode cX6_countColours 12 = .ok (.istore 5, 2) := by decide +kernel
theorem dX6_countColours_14 : decode cX6_countColours 14 = .ok (.iconst 0, 1) := by decide +kernel
theorem dX6_countColours_15 : decode cX6_countColours 15 = .ok (.istore 6, 2) := by decide +kernel
theorem dX6_countColours_17 : decode cX6_countColours 17 = .ok (.iload 6, 2) := by decide +kernel
theorem dX6_countColours_19 : decode cX6_countColours 19 = .ok (.iload 4, 2) := by decide +kernel
theorem dX6_countColours_21 : decode cX6_countColours 21 = .ok (.if_icmp .ge 43, 3) := by decide +kernel
theorem dX6_countColours_24 : decode cX6_countColours 24 = .ok (.iload 5, 2) := by decide +kernel
theorem dX6_countColours_26 : decode cX6_countColours 26 = .ok (.ifCond .eq 38, 3) := by decide +kernel
theorem dX6_countColours_29 : decode cX6_countColours 29 = .ok (.aload_n 0, 1) := by decide +kernel
theorem dX6_countColours_30 : decode cX6_countColours 30 = .ok (.getfield 15, 3) := by decide +kernel
theorem dX6_countColours_33 : decode cX6_countColours 33 = .ok (.iload_n 1, 1) := by decide +kernel
theorem dX6_countColours_34 : decode cX6_countColours 34 = .ok (.iload 6, 2) := by decide +kernel
theorem dX6_countColours_36 : decode cX6_countColours 36 = .ok (.iadd, 1) := by decide +kernel
theorem dX6_countColours_37 : decode cX6_countColours 37 = .ok (.laload, 1) := by decide +kernel
theorem dX6_countColours_38 : decode cX6_countColours 38 = .ok (.aload_n 0, 1) := by decide +kernel
theorem dX6_countColours_39 : decode cX6_countColours 39 = .ok (.getfield 15, 3) := by decide +kernel
theorem dX6_countColours_42 : decode cX6_countColours 42 = .ok (.iload_n 1, 1) := by decide +kernel
theorem dX6_countColours_43 : decode cX6_countColours 43 = .ok (.iload 4, 2) := by decide +kernel
theorem dX6_countColours_45 : decode cX6_countColours 45 = .ok (.iadd, 1) := by decide +kernel
theorem dX6_countColours_46 : decode cX6_countColours 46 = .ok (.laload, 1) := by decide +kernel
theorem dX6_countColours_47 : decode cX6_countColours 47 = .ok (.lcmp, 1) := by decide +kernel
theorem dX6_countColours_48 : decode cX6_countColours 48 = .ok (.ifCond .eq 7, 3) := by decide +kernel
theorem dX6_countColours_51 : decode cX6_countColours 51 = .ok (.iconst 1, 1) := by decide +kernel
theorem dX6_countColours_52 : decode cX6_countColours 52 = .ok (.goto 4, 3) := by decide +kernel
theorem dX6_countColours_55 : decode cX6_countColours 55 = .ok (.iconst 0, 1) := by decide +kernel
theorem dX6_countColours_56 : decode cX6_countColours 56 = .ok (.istore 5, 2) := by decide +kernel
theorem dX6_countColours_58 : decode cX6_countColours 58 = .ok (.iinc 6 1, 3) := by decide +kernel
theorem dX6_countColours_61 : decode cX6_countColours 61 = .ok (.goto (-44), 3) := by decide +kernel
theorem dX6_countColours_64 : decode cX6_countColours 64 = .ok (.iload_n 3, 1) := by decide +kernel
theorem dX6_countColours_65 : decode cX6_countColours 65 = .ok (.iload 5, 2) := by decide +kernel
theorem dX6_countColours_67 : decode cX6_countColours 67 = .ok (.ifCond .eq 7, 3) := by decide +kernel
theorem dX6_countColours_70 : decode cX6_countColours 70 = .ok (.iconst 1, 1) := by decide +kernel
theorem dX6_countColours_71 : decode cX6_countColours 71 = .ok (.goto 4, 3) := by decide +kernel
theorem dX6_countColours_74 : decode cX6_countColours 74 = .ok (.iconst 0, 1) := by decide +kernel
theorem dX6_countColours_75 : decode cX6_countColours 75 = .ok (.iadd, 1) := by decide +kernel
theorem dX6_countColours_76 : decode cX6_countColours 76 = .ok (.istore_n 3, 1) := by decide +kernel
theorem dX6_countColours_77 : decode cX6_countColours 77 = .ok (.iinc 4 1, 3) := by decide +kernel
theorem dX6_countColours_80 : decode cX6_countColours 80 = .ok (.goto (-75), 3) := by decide +kernel
theorem dX6_countColours_83 : decode cX6_countColours 83 = .ok (.iload_n 3, 1) := by decide +kernel
theorem dX6_countColours_84 : decode cX6_countColours 84 = .ok (.ireturn, 1) := by decide +kernel
theorem dX6_recolour_0 : decode cX6_recolour 0 = .ok (.iconst 0, 1) := by decide +kernel
theorem dX6_recolour_1 : decode cX6_recolour 1 = .ok (.istore 4, 2) := by decide +kernel
theorem dX6_recolour_3 : decode cX6_recolour 3 = .ok (.iload 4, 2) := by decide +kernel
theorem dX6_recolour_5 : decode cX6_recolour 5 = .ok (.iload_n 3, 1) := by decide +kernel
theorem dX6_recolour_6 : decode cX6_recolour 6 = .ok (.if_icmp .ge 109, 3) := by decide +kernel
theorem dX6_recolour_9 : decode cX6_recolour 9 = .ok (.iload_n 2, 1) := by decide +kernel
theorem dX6_recolour_10 : decode cX6_recolour 10 = .ok (.iload 4, 2) := by decide +kernel
theorem dX6_recolour_12 : decode cX6_recolour 12 = .ok (.iadd, 1) := by decide +kernel
theorem dX6_recolour_13 : decode cX6_recolour 13 = .ok (.bipush 16, 2) := by decide +kernel
theorem dX6_recolour_15 : decode cX6_recolour 15 = .ok (.imul, 1) := by decide +kernel
theorem dX6_recolour_16 : decode cX6_recolour 16 = .ok (.istore 5, 2) := by decide +kernel
theorem dX6_recolour_18 : decode cX6_recolour 18 = .ok (.ldc2_w 97, 3) := by decide +kernel
theorem dX6_recolour_21 : decode cX6_recolour 21 = .ok (.aload_n 0, 1) := by decide +kernel
theorem dX6_recolour_22 : decode cX6_recolour 22 = .ok (.getfield 15, 3) := by decide +kernel
theorem dX6_recolour_25 : decode cX6_recolour 25 = .ok (.iload_n 1, 1) := by decide +kernel
theorem dX6_recolour_26 : decode cX6_recolour 26 = .ok (.iload_n 2, 1) := by decide +kernel
theorem dX6_recolour_27 : decode cX6_recolour 27 = .ok (.iadd, 1) := by decide +kernel
theorem dX6_recolour_28 : decode cX6_recolour 28 = .ok (.iload 4, 2) := by decide +kernel
theorem dX6_recolour_30 : decode cX6_recolour 30 = .ok (.iadd, 1) := by decide +kernel
theorem dX6_recolour_31 : decode cX6_recolour 31 = .ok (.laload, 1) := by decide +kernel
theorem dX6_recolour_32 : decode cX6_recolour 32 = .ok (.lmul, 1) := by decide +kernel
theorem dX6_recolour_33 : decode cX6_recolour 33 = .ok (.lstore 6, 2) := by decide +kernel
theorem dX6_recolour_35 : decode cX6_recolour 35 = .ok (.iconst 0, 1) := by decide +kernel
theorem dX6_recolour_36 : decode cX6_recolour 36 = .ok (.istore 8, 2) := by decide +kernel
theorem dX6_recolour_38 : decode cX6_recolour 38 = .ok (.iload 8, 2) := by decide +kernel
theorem dX6_recolour_40 : decode cX6_recolour 40 = .ok (.iload_n 3, 1) := by decide +kernel
theorem dX6_recolour_41 : decode cX6_recolour 41 = .ok (.if_icmp .ge 54, 3) := by decide +kernel
theorem dX6_recolour_44 : decode cX6_recolour 44 = .ok (.aload_n 0, 1) := by decide +kernel
theorem dX6_recolour_45 : decode cX6_recolour 45 = .ok (.getfield 9, 3) := by decide +kernel
theorem dX6_recolour_48 : decode cX6_recolour 48 = .ok (.iload 5, 2) := by decide +kernel
theorem dX6_recolour_50 : decode cX6_recolour 50 = .ok (.iload 8, 2) := by decide +kernel
theorem dX6_recolour_52 : decode cX6_recolour 52 = .ok (.iadd, 1) := by decide +kernel
theorem dX6_recolour_53 : decode cX6_recolour 53 = .ok (.laload, 1) := by decide +kernel
theorem dX6_recolour_54 : decode cX6_recolour 54 = .ok (.lconst 0, 1) := by decide +kernel
theorem dX6_recolour_55 : decode cX6_recolour 55 = .ok (.lcmp, 1) := by decide +kernel
theorem dX6_recolour_56 : decode cX6_recolour 56 = .ok (.ifCond .eq 33, 3) := by decide +kernel
theorem dX6_recolour_59 : decode cX6_recolour 59 = .ok (.lload 6, 2) := by decide +kernel
theorem dX6_recolour_61 : decode cX6_recolour 61 = .ok (.aload_n 0, 1) := by decide +kernel
theorem dX6_recolour_62 : decode cX6_recolour 62 = .ok (.getfield 9, 3) := by decide +kernel
theorem dX6_recolour_65 : decode cX6_recolour 65 = .ok (.iload 5, 2) := by decide +kernel
theorem dX6_recolour_67 : decode cX6_recolour 67 = .ok (.iload 8, 2) := by decide +kernel
theorem dX6_recolour_69 : decode cX6_recolour 69 = .ok (.iadd, 1) := by decide +kernel
theorem dX6_recolour_70 : decode cX6_recolour 70 = .ok (.laload, 1) := by decide +kernel
theorem dX6_recolour_71 : decode cX6_recolour 71 = .ok (.aload_n 0, 1) := by decide +kernel
theorem dX6_recolour_72 : decode cX6_recolour 72 = .ok (.getfield 15, 3) := by decide +kernel
theorem dX6_recolour_75 : decode cX6_recolour 75 = .ok (.iload_n 1, 1) := by decide +kernel
theorem dX6_recolour_76 : decode cX6_recolour 76 = .ok (.iload_n 2, 1) := by decide +kernel
theorem dX6_recolour_77 : decode cX6_recolour 77 = .ok (.iadd, 1) := by decide +kernel
theorem dX6_recolour_78 : decode cX6_recolour 78 = .ok (.iload 8, 2) := by decide +kernel
theorem dX6_recolour_80 : decode cX6_recolour 80 = .ok (.iadd, 1) := by decide +kernel
theorem dX6_recolour_81 : decode cX6_recolour 81 = .ok (.laload, 1) := by decide +kernel
theorem dX6_recolour_82 : decode cX6_recolour 82 = .ok (.ladd, 1) := by decide +kernel
theorem dX6_recolour_83 : decode cX6_recolour 83 = .ok (.invokestatic 70, 3) := by decide +kernel
theorem dX6_recolour_86 : decode cX6_recolour 86 = .ok (.ladd, 1) := by decide +kernel
theorem dX6_recolour_87 : decode cX6_recolour 87 = .ok (.lstore 6, 2) := by decide +kernel
theorem dX6_recolour_89 : decode cX6_recolour 89 = .ok (.iinc 8 1, 3) := by decide +kernel
theorem dX6_recolour_92 : decode cX6_recolour 92 = .ok (.goto (-54), 3) := by decide +kernel
theorem dX6_recolour_95 : decode cX6_recolour 95 = .ok (.aload_n 0, 1) := by decide +kernel
theorem dX6_recolour_96 : decode cX6_recolour 96 = .ok (.getfield 18, 3) := by decide +kernel
theorem dX6_recolour_99 : decode cX6_recolour 99 = .ok (.iload_n 2, 1) := by decide +kernel
theorem dX6_recolour_100 : decode cX6_recolour 100 = .ok (.iload 4, 2) := by decide +kernel
theorem dX6_recolour_102 : decode cX6_recolour 102 = .ok (.iadd, 1) := by decide +kernel
theorem dX6_recolour_103 : decode cX6_recolour 103 = .ok (.lload 6, 2) := by decide +kernel
theorem dX6_recolour_105 : decode cX6_recolour 105 = .ok (.invokestatic 70, 3) := by decide +kernel
theorem dX6_recolour_108 : decode cX6_recolour 108 = .ok (.lastore, 1) := by decide +kernel
theorem dX6_recolour_109 : decode cX6_recolour 109 = .ok (.iinc 4 1, 3) := by decide +kernel
theorem dX6_recolour_112 : decode cX6_recolour 112 = .ok (.goto (-109), 3) := by decide +kernel
theorem dX6_recolour_115 : decode cX6_recolour 115 = .ok (.return_, 1) := by decide +kernel
theorem kX6_97 : Cond.constantLong RX6 97 3 ∈ g_ws (gS, X) := (tb_t (k := 870) (w := Cond.constantLong RX6 97 3) (by decide +kernel))
theorem dX6_haveSameColours_0 : decode cX6_haveSameColours 0 = .ok (.iconst 0, 1) := by decide +kernel
theorem dX6_haveSameColours_1 : decode cX6_haveSameColours 1 = .ok (.istore_n 3, 1) := by decide +kernel
theorem dX6_haveSameColours_2 : decode cX6_haveSameColours 2 = .ok (.iconst 0, 1) := by decide +kernel
theorem dX6_haveSameColours_3 : decode cX6_haveSameColours 3 = .ok (.istore 4, 2) := by decide +kernel
theorem dX6_haveSameColours_5 : decode cX6_haveSameColours 5 = .ok (.iload 4, 2) := by decide +kernel
theorem dX6_haveSameColours_7 : decode cX6_haveSameColours 7 = .ok (.iload_n 2, 1) := by decide +kernel
theorem dX6_haveSameColours_8 : decode cX6_haveSameColours 8 = .ok (.if_icmp .ge 41, 3) := by decide +kernel
theorem dX6_haveSameColours_11 : decode cX6_haveSameColours 11 = .ok (.aload_n 0, 1) := by decide +kernel
theorem dX6_haveSameColours_12 : decode cX6_haveSameColours 12 = .ok (.iload_n 1, 1) := by decide +kernel
theorem dX6_haveSameColours_13 : decode cX6_haveSameColours 13 = .ok (.aload_n 0, 1) := by decide +kernel
theorem dX6_haveSameColours_14 : decode cX6_haveSameColours 14 = .ok (.getfield 15, 3) := by decide +kernel
theorem dX6_haveSameColours_17 : decode cX6_haveSameColours 17 = .ok (.iload_n 1, 1) := by decide +kernel
theorem dX6_haveSameColours_18 : decode cX6_haveSameColours 18 = .ok (.iload 4, 2) := by decide +kernel
theorem dX6_haveSameColours_20 : decode cX6_haveSameColours 20 = .ok (.iadd, 1) := by decide +kernel
theorem dX6_haveSameColours_21 : decode cX6_haveSameColours 21 = .ok (.laload, 1) := by decide +kernel
theorem dX6_haveSameColours_22 : decode cX6_haveSameColours 22 = .ok (.iload_n 3, 1) := by decide +kernel
theorem dX6_haveSameColours_23 : decode cX6_haveSameColours 23 = .ok (.iload_n 2, 1) := by decide +kernel
theorem dX6_haveSameColours_24 : decode cX6_haveSameColours 24 = .ok (.invokevirtual 99, 3) := by decide +kernel
theorem dX6_haveSameColours_27 : decode cX6_haveSameColours 27 = .ok (.istore 5, 2) := by decide +kernel
theorem dX6_haveSameColours_29 : decode cX6_haveSameColours 29 = .ok (.iload 5, 2) := by decide +kernel
theorem dX6_haveSameColours_31 : decode cX6_haveSameColours 31 = .ok (.ifCond .ge 5, 3) := by decide +kernel
theorem dX6_haveSameColours_34 : decode cX6_haveSameColours 34 = .ok (.iconst 0, 1) := by decide +kernel
theorem dX6_haveSameColours_35 : decode cX6_haveSameColours 35 = .ok (.ireturn, 1) := by decide +kernel
theorem dX6_haveSameColours_36 : decode cX6_haveSameColours 36 = .ok (.iload_n 3, 1) := by decide +kernel
theorem dX6_haveSameColours_37 : decode cX6_haveSameColours 37 = .ok (.iconst 1, 1) := by decide +kernel
theorem dX6_haveSameColours_38 : decode cX6_haveSameColours 38 = .ok (.iload 5, 2) := by decide +kernel
theorem dX6_haveSameColours_40 : decode cX6_haveSameColours 40 = .ok (.ishl, 1) := by decide +kernel
theorem dX6_haveSameColours_41 : decode cX6_haveSameColours 41 = .ok (.ior, 1) := by decide +kernel
theorem dX6_haveSameColours_42 : decode cX6_haveSameColours 42 = .ok (.istore_n 3, 1) := by decide +kernel
theorem dX6_haveSameColours_43 : decode cX6_haveSameColours 43 = .ok (.iinc 4 1, 3) := by decide +kernel
theorem dX6_haveSameColours_46 : decode cX6_haveSameColours 46 = .ok (.goto (-41), 3) := by decide +kernel
theorem dX6_haveSameColours_49 : decode cX6_haveSameColours 49 = .ok (.iconst 1, 1) := by decide +kernel
theorem dX6_haveSameColours_50 : decode cX6_haveSameColours 50 = .ok (.ireturn, 1) := by decide +kernel
theorem kX6_99 : lkK (gS, X) RX6 99 mX6_firstLike 4 ∧ Cond.instanceMethod yX6_firstLike ∈ g_ws (gS, X) ∧ Cond.selects RX6 yX6_firstLike yX6_firstLike ∈ g_ws (gS, X) ∧ yX6_firstLike.cls = RX6 := ⟨⟨tb_good, (tb_t (k := 876) (w := Cond.methodLink RX6 99 yX6_firstLike) (by decide +kernel)), (tb_t (k := 7) (w := Cond.initialized RX6) (by decide +kernel)), (tb_t (k := 879) (w := Cond.code yX6_firstLike cX6_firstLike 7 (some .int)) (by decide +kernel)), by decide +kernel, by decide⟩, (tb_t (k := 878) (w := Cond.instanceMethod yX6_firstLike) (by decide +kernel)), (tb_p (k := 42) (q := (yX6_firstLike, 4)) (by decide +kernel)), rfl⟩
theorem dX6_firstLike_0 : decode cX6_firstLike 0 = .ok (.iconst 0, 1) := by decide +kernel
theorem dX6_firstLike_1 : decode cX6_firstLike 1 = .ok (.istore 6, 2) := by decide +kernel
theorem dX6_firstLike_3 : decode cX6_firstLike 3 = .ok (.iload 6, 2) := by decide +kernel
theorem dX6_firstLike_5 : decode cX6_firstLike 5 = .ok (.iload 5, 2) := by decide +kernel
theorem dX6_firstLike_7 : decode cX6_firstLike 7 = .ok (.if_icmp .ge 39, 3) := by decide +kernel
theorem dX6_firstLike_10 : decode cX6_firstLike 10 = .ok (.iload 4, 2) := by decide +kernel
theorem dX6_firstLike_12 : decode cX6_firstLike 12 = .ok (.iload 6, 2) := by decide +kernel
theorem dX6_firstLike_14 : decode cX6_firstLike 14 = .ok (.ishr, 1) := by decide +kernel
theorem dX6_firstLike_15 : decode cX6_firstLike 15 = .ok (.iconst 1, 1) := by decide +kernel
theorem dX6_firstLike_16 : decode cX6_firstLike 16 = .ok (.iand, 1) := by decide +kernel
theorem dX6_firstLike_17 : decode cX6_firstLike 17 = .ok (.ifCond .ne 23, 3) := by decide +kernel
theorem dX6_firstLike_20 : decode cX6_firstLike 20 = .ok (.aload_n 0, 1) := by decide +kernel
theorem dX6_firstLike_21 : decode cX6_firstLike 21 = .ok (.getfield 15, 3) := by decide +kernel
theorem dX6_firstLike_24 : decode cX6_firstLike 24 = .ok (.iload_n 1, 1) := by decide +kernel
theorem dX6_firstLike_25 : decode cX6_firstLike 25 = .ok (.bipush 16, 2) := by decide +kernel
theorem dX6_firstLike_27 : decode cX6_firstLike 27 = .ok (.iadd, 1) := by decide +kernel
theorem dX6_firstLike_28 : decode cX6_firstLike 28 = .ok (.iload 6, 2) := by decide +kernel
theorem dX6_firstLike_30 : decode cX6_firstLike 30 = .ok (.iadd, 1) := by decide +kernel
theorem dX6_firstLike_31 : decode cX6_firstLike 31 = .ok (.laload, 1) := by decide +kernel
theorem dX6_firstLike_32 : decode cX6_firstLike 32 = .ok (.lload_n 2, 1) := by decide +kernel
theorem dX6_firstLike_33 : decode cX6_firstLike 33 = .ok (.lcmp, 1) := by decide +kernel
theorem dX6_firstLike_34 : decode cX6_firstLike 34 = .ok (.ifCond .ne 6, 3) := by decide +kernel
theorem dX6_firstLike_37 : decode cX6_firstLike 37 = .ok (.iload 6, 2) := by decide +kernel
theorem dX6_firstLike_39 : decode cX6_firstLike 39 = .ok (.ireturn, 1) := by decide +kernel
theorem dX6_firstLike_40 : decode cX6_firstLike 40 = .ok (.iinc 6 1, 3) := by decide +kernel
theorem dX6_firstLike_43 : decode cX6_firstLike 43 = .ok (.goto (-40), 3) := by decide +kernel
theorem dX6_firstLike_46 : decode cX6_firstLike 46 = .ok (.iconst (-1), 1) := by decide +kernel
theorem dX6_firstLike_47 : decode cX6_firstLike 47 = .ok (.ireturn, 1) := by decide +kernel
theorem dX6_canNumber_0 : decode cX6_canNumber 0 = .ok (.aload_n 1, 1) := by decide +kernel
theorem dX6_canNumber_1 : decode cX6_canNumber 1 = .ok (.getfield 25, 3) := by decide +kernel
theorem dX6_canNumber_4 : decode cX6_canNumber 4 = .ok (.istore 5, 2) := by decide +kernel
theorem dX6_canNumber_6 : decode cX6_canNumber 6 = .ok (.iload_n 3, 1) := by decide +kernel
theorem dX6_canNumber_7 : decode cX6_canNumber 7 = .ok (.iload 5, 2) := by decide +kernel
theorem dX6_canNumber_9 : decode cX6_canNumber 9 = .ok (.if_icmp .lt 10, 3) := by decide +kernel
theorem dX6_canNumber_12 : decode cX6_canNumber 12 = .ok (.aload_n 0, 1) := by decide +kernel
theorem dX6_canNumber_13 : decode cX6_canNumber 13 = .ok (.aload_n 1, 1) := by decide +kernel
theorem dX6_canNumber_14 : decode cX6_canNumber 14 = .ok (.aload_n 2, 1) := by decide +kernel
theorem dX6_canNumber_15 : decode cX6_canNumber 15 = .ok (.invokevirtual 103, 3) := by decide +kernel
theorem dX6_canNumber_18 : decode cX6_canNumber 18 = .ok (.ireturn, 1) := by decide +kernel
theorem dX6_canNumber_19 : decode cX6_canNumber 19 = .ok (.iload 4, 2) := by decide +kernel
theorem dX6_canNumber_21 : decode cX6_canNumber 21 = .ok (.bipush 32, 2) := by decide +kernel
theorem dX6_canNumber_23 : decode cX6_canNumber 23 = .ok (.imul, 1) := by decide +kernel
theorem dX6_canNumber_24 : decode cX6_canNumber 24 = .ok (.istore 6, 2) := by decide +kernel
theorem dX6_canNumber_26 : decode cX6_canNumber 26 = .ok (.aload_n 0, 1) := by decide +kernel
theorem dX6_canNumber_27 : decode cX6_canNumber 27 = .ok (.getfield 15, 3) := by decide +kernel
theorem dX6_canNumber_30 : decode cX6_canNumber 30 = .ok (.iload 6, 2) := by decide +kernel
theorem dX6_canNumber_32 : decode cX6_canNumber 32 = .ok (.iload_n 3, 1) := by decide +kernel
theorem dX6_canNumber_33 : decode cX6_canNumber 33 = .ok (.iadd, 1) := by decide +kernel
theorem dX6_canNumber_34 : decode cX6_canNumber 34 = .ok (.laload, 1) := by decide +kernel
theorem dX6_canNumber_35 : decode cX6_canNumber 35 = .ok (.lstore 7, 2) := by decide +kernel
theorem dX6_canNumber_37 : decode cX6_canNumber 37 = .ok (.iconst 0, 1) := by decide +kernel
theorem dX6_canNumber_38 : decode cX6_canNumber 38 = .ok (.istore 9, 2) := by decide +kernel
theorem dX6_canNumber_40 : decode cX6_canNumber 40 = .ok (.iconst 0, 1) := by decide +kernel
theorem dX6_canNumber_41 : decode cX6_canNumber 41 = .ok (.istore 10, 2) := by decide +kernel
theorem dX6_canNumber_43 : decode cX6_canNumber 43 = .ok (.iload 10, 2) := by decide +kernel
theorem dX6_canNumber_45 : decode cX6_canNumber 45 = .ok (.iload 5, 2) := by decide +kernel
theorem dX6_canNumber_47 : decode cX6_canNumber 47 = .ok (.if_icmp .ge 132, 3) := by decide +kernel
theorem dX6_canNumber_50 : decode cX6_canNumber 50 = .ok (.aload_n 0, 1) := by decide +kernel
theorem dX6_canNumber_51 : decode cX6_canNumber 51 = .ok (.iload 6, 2) := by decide +kernel
theorem dX6_canNumber_53 : decode cX6_canNumber 53 = .ok (.lload 7, 2) := by decide +kernel
theorem dX6_canNumber_55 : decode cX6_canNumber 55 = .ok (.iload 9, 2) := by decide +kernel
theorem dX6_canNumber_57 : decode cX6_canNumber 57 = .ok (.iload 5, 2) := by decide +kernel
theorem dX6_canNumber_59 : decode cX6_canNumber 59 = .ok (.invokevirtual 99, 3) := by decide +kernel
theorem dX6_canNumber_62 : decode cX6_canNumber 62 = .ok (.istore 11, 2) := by decide +kernel
theorem dX6_canNumber_64 : decode cX6_canNumber 64 = .ok (.iload 11, 2) := by decide +kernel
theorem dX6_canNumber_66 : decode cX6_canNumber 66 = .ok (.ifCond .ge 5, 3) := by decide +kernel
theorem dX6_canNumber_69 : decode cX6_canNumber 69 = .ok (.iconst 0, 1) := by decide +kernel
theorem dX6_canNumber_70 : decode cX6_canNumber 70 = .ok (.ireturn, 1) := by decide +kernel
theorem dX6_canNumber_71 : decode cX6_canNumber 71 = .ok (.iload 9, 2) := by decide +kernel
theorem dX6_canNumber_73 : decode cX6_canNumber 73 = .ok (.ifCond .ne 24, 3) := by decide +kernel
theorem dX6_canNumber_76 : decode cX6_canNumber 76 = .ok (.aload_n 0, 1) := by decide +kernel
theorem dX6_canNumber_77 : decode cX6_canNumber 77 = .ok (.iload 6, 2) := by decide +kernel
theorem dX6_canNumber_79 : decode cX6_canNumber 79 = .ok (.lload 7, 2) := by decide +kernel
theorem dX6_canNumber_81 : decode cX6_canNumber 81 = .ok (.iconst 1, 1) := by decide +kernel
theorem dX6_canNumber_82 : decode cX6_canNumber 82 = .ok (.iload 11, 2) := by decide +kernel
theorem dX6_canNumber_84 : decode cX6_canNumber 84 = .ok (.ishl, 1) := by decide +kernel
theorem dX6_canNumber_85 : decode cX6_canNumber 85 = .ok (.iload 5, 2) := by decide +kernel
theorem dX6_canNumber_87 : decode cX6_canNumber 87 = .ok (.invokevirtual 99, 3) := by decide +kernel
theorem dX6_canNumber_90 : decode cX6_canNumber 90 = .ok (.ifCond .ge 7, 3) := by decide +kernel
theorem dX6_canNumber_93 : decode cX6_canNumber 93 = .ok (.iconst 1, 1) := by decide +kernel
theorem dX6_canNumber_94 : decode cX6_canNumber 94 = .ok (.goto 4, 3) := by decide +kernel
theorem dX6_canNumber_97 : decode cX6_canNumber 97 = .ok (.iconst 0, 1) := by decide +kernel
theorem dX6_canNumber_98 : decode cX6_canNumber 98 = .ok (.istore 12, 2) := by decide +kernel
theorem dX6_canNumber_100 : decode cX6_canNumber 100 = .ok (.iload 9, 2) := by decide +kernel
theorem dX6_canNumber_102 : decode cX6_canNumber 102 = .ok (.iconst 1, 1) := by decide +kernel
theorem dX6_canNumber_103 : decode cX6_canNumber 103 = .ok (.iload 11, 2) := by decide +kernel
theorem dX6_canNumber_105 : decode cX6_canNumber 105 = .ok (.ishl, 1) := by decide +kernel
theorem dX6_canNumber_106 : decode cX6_canNumber 106 = .ok (.ior, 1) := by decide +kernel
theorem dX6_canNumber_107 : decode cX6_canNumber 107 = .ok (.istore 9, 2) := by decide +kernel
theorem dX6_canNumber_109 : decode cX6_canNumber 109 = .ok (.aload_n 0, 1) := by decide +kernel
theorem dX6_canNumber_110 : decode cX6_canNumber 110 = .ok (.getfield 21, 3) := by decide +kernel
theorem dX6_canNumber_113 : decode cX6_canNumber 113 = .ok (.iload_n 3, 1) := by decide +kernel
theorem dX6_canNumber_114 : decode cX6_canNumber 114 = .ok (.iload 11, 2) := by decide +kernel
theorem dX6_canNumber_116 : decode cX6_canNumber 116 = .ok (.iastore, 1) := by decide +kernel
theorem dX6_canNumber_117 : decode cX6_canNumber 117 = .ok (.iload 12, 2) := by decide +kernel
theorem dX6_canNumber_119 : decode cX6_canNumber 119 = .ok (.ifCond .eq 15, 3) := by decide +kernel
theorem dX6_canNumber_122 : decode cX6_canNumber 122 = .ok (.aload_n 0, 1) := by decide +kernel
theorem dX6_canNumber_123 : decode cX6_canNumber 123 = .ok (.aload_n 1, 1) := by decide +kernel
theorem dX6_canNumber_124 : decode cX6_canNumber 124 = .ok (.aload_n 2, 1) := by decide +kernel
theorem dX6_canNumber_125 : decode cX6_canNumber 125 = .ok (.iload_n 3, 1) := by decide +kernel
theorem dX6_canNumber_126 : decode cX6_canNumber 126 = .ok (.iconst 1, 1) := by decide +kernel
theorem dX6_canNumber_127 : decode cX6_canNumber 127 = .ok (.iadd, 1) := by decide +kernel
theorem dX6_canNumber_128 : decode cX6_canNumber 128 = .ok (.iload 4, 2) := by decide +kernel
theorem dX6_canNumber_130 : decode cX6_canNumber 130 = .ok (.invokevirtual 56, 3) := by decide +kernel
theorem dX6_canNumber_133 : decode cX6_canNumber 133 = .ok (.ireturn, 1) := by decide +kernel
theorem dX6_canNumber_134 : decode cX6_canNumber 134 = .ok (.iload 4, 2) := by decide +kernel
theorem dX6_canNumber_136 : decode cX6_canNumber 136 = .ok (.bipush 16, 2) := by decide +kernel
theorem dX6_canNumber_138 : decode cX6_canNumber 138 = .ok (.if_icmp .ge 35, 3) := by decide +kernel
theorem dX6_canNumber_141 : decode cX6_canNumber 141 = .ok (.aload_n 0, 1) := by decide +kernel
theorem dX6_canNumber_142 : decode cX6_canNumber 142 = .ok (.iload 5, 2) := by decide +kernel
theorem dX6_canNumber_144 : decode cX6_canNumber 144 = .ok (.iload_n 3, 1) := by decide +kernel
theorem dX6_canNumber_145 : decode cX6_canNumber 145 = .ok (.iload 11, 2) := by decide +kernel
theorem dX6_canNumber_147 : decode cX6_canNumber 147 = .ok (.iload 4, 2) := by decide +kernel
theorem dX6_canNumber_149 : decode cX6_canNumber 149 = .ok (.invokevirtual 107, 3) := by decide +kernel
theorem dX6_canNumber_152 : decode cX6_canNumber 152 = .ok (.ifCond .eq 21, 3) := by decide +kernel
theorem dX6_canNumber_155 : decode cX6_canNumber 155 = .ok (.aload_n 0, 1) := by decide +kernel
theorem dX6_canNumber_156 : decode cX6_canNumber 156 = .ok (.aload_n 1, 1) := by decide +kernel
theorem dX6_canNumber_157 : decode cX6_canNumber 157 = .ok (.aload_n 2, 1) := by decide +kernel
theorem dX6_canNumber_158 : decode cX6_canNumber 158 = .ok (.iload_n 3, 1) := by decide +kernel
theorem dX6_canNumber_159 : decode cX6_canNumber 159 = .ok (.iconst 1, 1) := by decide +kernel
theorem dX6_canNumber_160 : decode cX6_canNumber 160 = .ok (.iadd, 1) := by decide +kernel
theorem dX6_canNumber_161 : decode cX6_canNumber 161 = .ok (.iload 4, 2) := by decide +kernel
theorem dX6_canNumber_163 : decode cX6_canNumber 163 = .ok (.iconst 1, 1) := by decide +kernel
theorem dX6_canNumber_164 : decode cX6_canNumber 164 = .ok (.iadd, 1) := by decide +kernel
theorem dX6_canNumber_165 : decode cX6_canNumber 165 = .ok (.invokevirtual 56, 3) := by decide +kernel
theorem dX6_canNumber_168 : decode cX6_canNumber 168 = .ok (.ifCond .eq 5, 3) := by decide +kernel
theorem dX6_canNumber_171 : decode cX6_canNumber 171 = .ok (.iconst 1, 1) := by decide +kernel
theorem dX6_canNumber_172 : decode cX6_canNumber 172 = .ok (.ireturn, 1) := by decide +kernel
theorem dX6_canNumber_173 : decode cX6_canNumber 173 = .ok (.iinc 10 1, 3) := by decide +kernel
theorem dX6_canNumber_176 : decode cX6_canNumber 176 = .ok (.goto (-133), 3) := by decide +kernel
theorem dX6_canNumber_179 : decode cX6_canNumber 179 = .ok (.iconst 0, 1) := by decide +kernel
theorem dX6_canNumber_180 : decode cX6_canNumber 180 = .ok (.ireturn, 1) := by decide +kernel
theorem kX6_103 : lkK (gS, X) RX6 103 mX6_haveSameArcs 2 ∧ Cond.instanceMethod yX6_haveSameArcs ∈ g_ws (gS, X) ∧ Cond.selects RX6 yX6_haveSameArcs yX6_haveSameArcs ∈ g_ws (gS, X) ∧ yX6_haveSameArcs.cls = RX6 := ⟨⟨tb_good, (tb_t (k := 884) (w := Cond.methodLink RX6 103 yX6_haveSameArcs) (by decide +kernel)), (tb_t (k := 7) (w := Cond.initialized RX6) (by decide +kernel)), (tb_t (k := 887) (w := Cond.code yX6_haveSameArcs cX6_haveSameArcs 8 (some .boolean)) (by decide +kernel)), by decide +kernel, by decide⟩, (tb_t (k := 886) (w := Cond.instanceMethod yX6_haveSameArcs) (by decide +kernel)), (tb_p (k := 44) (q := (yX6_haveSameArcs, 4)) (by decide +kernel)), rfl⟩
theorem kX6_107 : lkK (gS, X) RX6 107 mX6_markPair 4 ∧ Cond.instanceMethod yX6_markPair ∈ g_ws (gS, X) ∧ Cond.selects RX6 yX6_markPair yX6_markPair ∈ g_ws (gS, X) ∧ yX6_markPair.cls = RX6 := ⟨⟨tb_good, (tb_t (k := 893) (w := Cond.methodLink RX6 107 yX6_markPair) (by decide +kernel)), (tb_t (k := 7) (w := Cond.initialized RX6) (by decide +kernel)), (tb_t (k := 896) (w := Cond.code yX6_markPair cX6_markPair 8 (some .boolean)) (by decide +kernel)), by decide +kernel, by decide⟩, (tb_t (k := 895) (w := Cond.instanceMethod yX6_markPair) (by decide +kernel)), (tb_p (k := 46) (q := (yX6_markPair, 4)) (by decide +kernel)), rfl⟩
theorem dX6_markPair_0 : decode cX6_markPair 0 = .ok (.iload 4, 2) := by decide +kernel
theorem dX6_markPair_2 : decode cX6_markPair 2 = .ok (.bipush 32, 2) := by decide +kernel
theorem dX6_markPair_4 : decode cX6_markPair 4 = .ok (.imul, 1) := by decide +kernel
theorem dX6_markPair_5 : decode cX6_markPair 5 = .ok (.istore 5, 2) := by decide +kernel
theorem dX6_markPair_7 : decode cX6_markPair 7 = .ok (.aload_n 0, 1) := by decide +kernel
theorem dX6_markPair_8 : decode cX6_markPair 8 = .ok (.getfield 15, 3) := by decide +kernel
theorem dX6_markPair_11 : decode cX6_markPair 11 = .ok (.iload 5, 2) := by decide +kernel
theorem dX6_markPair_13 : decode cX6_markPair 13 = .ok (.aload_n 0, 1) := by decide +kernel
theorem dX6_markPair_14 : decode cX6_markPair 14 = .ok (.getfield 15, 3) := by decide +kernel
theorem dX6_markPair_17 : decode cX6_markPair 17 = .ok (.iload 5, 2) := by decide +kernel
theorem dX6_markPair_19 : decode cX6_markPair 19 = .ok (.bipush 32, 2) := by decide +kernel
theorem dX6_markPair_21 : decode cX6_markPair 21 = .ok (.iadd, 1) := by decide +kernel
theorem dX6_markPair_22 : decode cX6_markPair 22 = .ok (.bipush 32, 2) := by decide +kernel
theorem dX6_markPair_24 : decode cX6_markPair 24 = .ok (.invokestatic 88, 3) := by decide +kernel
theorem dX6_markPair_27 : decode cX6_markPair 27 = .ok (.aload_n 0, 1) := by decide +kernel
theorem dX6_markPair_28 : decode cX6_markPair 28 = .ok (.getfield 15, 3) := by decide +kernel
theorem dX6_markPair_31 : decode cX6_markPair 31 = .ok (.iload 5, 2) := by decide +kernel
theorem dX6_markPair_33 : decode cX6_markPair 33 = .ok (.iload_n 2, 1) := by decide +kernel
theorem dX6_markPair_34 : decode cX6_markPair 34 = .ok (.iadd, 1) := by decide +kernel
theorem dX6_markPair_35 : decode cX6_markPair 35 = .ok (.laload, 1) := by decide +kernel
theorem dX6_markPair_36 : decode cX6_markPair 36 = .ok (.iload_n 2, 1) := by decide +kernel
theorem dX6_markPair_37 : decode cX6_markPair 37 = .ok (.i2l, 1) := by decide +kernel
theorem dX6_markPair_38 : decode cX6_markPair 38 = .ok (.ladd, 1) := by decide +kernel
theorem dX6_markPair_39 : decode cX6_markPair 39 = .ok (.lconst 1, 1) := by decide +kernel
theorem dX6_markPair_40 : decode cX6_markPair 40 = .ok (.ladd, 1) := by decide +kernel
theorem dX6_markPair_41 : decode cX6_markPair 41 = .ok (.invokestatic 70, 3) := by decide +kernel
theorem dX6_markPair_44 : decode cX6_markPair 44 = .ok (.lstore 6, 2) := by decide +kernel
theorem dX6_markPair_46 : decode cX6_markPair 46 = .ok (.aload_n 0, 1) := by decide +kernel
theorem dX6_markPair_47 : decode cX6_markPair 47 = .ok (.getfield 15, 3) := by decide +kernel
theorem dX6_markPair_50 : decode cX6_markPair 50 = .ok (.iload 5, 2) := by decide +kernel
theorem dX6_markPair_52 : decode cX6_markPair 52 = .ok (.bipush 32, 2) := by decide +kernel
theorem dX6_markPair_54 : decode cX6_markPair 54 = .ok (.iadd, 1) := by decide +kernel
theorem dX6_markPair_55 : decode cX6_markPair 55 = .ok (.iload_n 2, 1) := by decide +kernel
theorem dX6_markPair_56 : decode cX6_markPair 56 = .ok (.iadd, 1) := by decide +kernel
theorem dX6_markPair_57 : decode cX6_markPair 57 = .ok (.lload 6, 2) := by decide +kernel
theorem dX6_markPair_59 : decode cX6_markPair 59 = .ok (.lastore, 1) := by decide +kernel
theorem dX6_markPair_60 : decode cX6_markPair 60 = .ok (.aload_n 0, 1) := by decide +kernel
theorem dX6_markPair_61 : decode cX6_markPair 61 = .ok (.getfield 15, 3) := by decide +kernel
theorem dX6_markPair_64 : decode cX6_markPair 64 = .ok (.iload 5, 2) := by decide +kernel
theorem dX6_markPair_66 : decode cX6_markPair 66 = .ok (.bipush 32, 2) := by decide +kernel
theorem dX6_markPair_68 : decode cX6_markPair 68 = .ok (.iadd, 1) := by decide +kernel
theorem dX6_markPair_69 : decode cX6_markPair 69 = .ok (.bipush 16, 2) := by decide +kernel
theorem dX6_markPair_71 : decode cX6_markPair 71 = .ok (.iadd, 1) := by decide +kernel
theorem dX6_markPair_72 : decode cX6_markPair 72 = .ok (.iload_n 3, 1) := by decide +kernel
theorem dX6_markPair_73 : decode cX6_markPair 73 = .ok (.iadd, 1) := by decide +kernel
theorem dX6_markPair_74 : decode cX6_markPair 74 = .ok (.lload 6, 2) := by decide +kernel
theorem dX6_markPair_76 : decode cX6_markPair 76 = .ok (.lastore, 1) := by decide +kernel
theorem dX6_markPair_77 : decode cX6_markPair 77 = .ok (.aload_n 0, 1) := by decide +kernel
theorem dX6_markPair_78 : decode cX6_markPair 78 = .ok (.iload_n 1, 1) := by decide +kernel
theorem dX6_markPair_79 : decode cX6_markPair 79 = .ok (.iload 4, 2) := by decide +kernel
theorem dX6_markPair_81 : decode cX6_markPair 81 = .ok (.iconst 1, 1) := by decide +kernel
theorem dX6_markPair_82 : decode cX6_markPair 82 = .ok (.iadd, 1) := by decide +kernel
theorem dX6_markPair_83 : decode cX6_markPair 83 = .ok (.invokevirtual 52, 3) := by decide +kernel
theorem dX6_markPair_86 : decode cX6_markPair 86 = .ok (.ireturn, 1) := by decide +kernel
theorem dX6_haveSameArcs_0 : decode cX6_haveSameArcs 0 = .ok (.iconst 0, 1) := by decide +kernel
theorem dX6_haveSameArcs_1 : decode cX6_haveSameArcs 1 = .ok (.istore_n 3, 1) := by decide +kernel
theorem dX6_haveSameArcs_2 : decode cX6_haveSameArcs 2 = .ok (.iconst 0, 1) := by decide +kernel
theorem dX6_haveSameArcs_3 : decode cX6_haveSameArcs 3 = .ok (.istore 4, 2) := by decide +kernel
theorem dX6_haveSameArcs_5 : decode cX6_haveSameArcs 5 = .ok (.iload 4, 2) := by decide +kernel
theorem dX6_haveSameArcs_7 : decode cX6_haveSameArcs 7 = .ok (.aload_n 1, 1) := by decide +kernel
theorem dX6_haveSameArcs_8 : decode cX6_haveSameArcs 8 = .ok (.getfield 25, 3) := by decide +kernel
theorem dX6_haveSameArcs_11 : decode cX6_haveSameArcs 11 = .ok (.if_icmp .ge 21, 3) := by decide +kernel
theorem dX6_haveSameArcs_14 : decode cX6_haveSameArcs 14 = .ok (.iload_n 3, 1) := by decide +kernel
theorem dX6_haveSameArcs_15 : decode cX6_haveSameArcs 15 = .ok (.iconst 1, 1) := by decide +kernel
theorem dX6_haveSameArcs_16 : decode cX6_haveSameArcs 16 = .ok (.aload_n 0, 1) := by decide +kernel
theorem dX6_haveSameArcs_17 : decode cX6_haveSameArcs 17 = .ok (.getfield 21, 3) := by decide +kernel
theorem dX6_haveSameArcs_20 : decode cX6_haveSameArcs 20 = .ok (.iload 4, 2) := by decide +kernel
theorem dX6_haveSameArcs_22 : decode cX6_haveSameArcs 22 = .ok (.iaload, 1) := by decide +kernel
theorem dX6_haveSameArcs_23 : decode cX6_haveSameArcs 23 = .ok (.ishl, 1) := by decide +kernel
theorem dX6_haveSameArcs_24 : decode cX6_haveSameArcs 24 = .ok (.ior, 1) := by decide +kernel
theorem dX6_haveSameArcs_25 : decode cX6_haveSameArcs 25 = .ok (.istore_n 3, 1) := by decide +kernel
theorem dX6_haveSameArcs_26 : decode cX6_haveSameArcs 26 = .ok (.iinc 4 1, 3) := by decide +kernel
theorem dX6_haveSameArcs_29 : decode cX6_haveSameArcs 29 = .ok (.goto (-24), 3) := by decide +kernel
theorem dX6_haveSameArcs_32 : decode cX6_haveSameArcs 32 = .ok (.iload_n 3, 1) := by decide +kernel
theorem dX6_haveSameArcs_33 : decode cX6_haveSameArcs 33 = .ok (.aload_n 1, 1) := by decide +kernel
theorem dX6_haveSameArcs_34 : decode cX6_haveSameArcs 34 = .ok (.invokevirtual 111, 3) := by decide +kernel
theorem dX6_haveSameArcs_37 : decode cX6_haveSameArcs 37 = .ok (.if_icmp .eq 5, 3) := by decide +kernel
theorem dX6_haveSameArcs_40 : decode cX6_haveSameArcs 40 = .ok (.iconst 0, 1) := by decide +kernel
theorem dX6_haveSameArcs_41 : decode cX6_haveSameArcs 41 = .ok (.ireturn, 1) := by decide +kernel
theorem dX6_haveSameArcs_42 : decode cX6_haveSameArcs 42 = .ok (.lconst 0, 1) := by decide +kernel
theorem dX6_haveSameArcs_43 : decode cX6_haveSameArcs 43 = .ok (.lstore 4, 2) := by decide +kernel
theorem dX6_haveSameArcs_45 : decode cX6_haveSameArcs 45 = .ok (.iconst 0, 1) := by decide +kernel
theorem dX6_haveSameArcs_46 : decode cX6_haveSameArcs 46 = .ok (.istore 6, 2) := by decide +kernel
theorem dX6_haveSameArcs_48 : decode cX6_haveSameArcs 48 = .ok (.iload 6, 2) := by decide +kernel
theorem dX6_haveSameArcs_50 : decode cX6_haveSameArcs 50 = .ok (.aload_n 1, 1) := by decide +kernel
theorem dX6_haveSameArcs_51 : decode cX6_haveSameArcs 51 = .ok (.getfield 35, 3) := by decide +kernel
theorem dX6_haveSameArcs_54 : decode cX6_haveSameArcs 54 = .ok (.if_icmp .ge 37, 3) := by decide +kernel
theorem dX6_haveSameArcs_57 : decode cX6_haveSameArcs 57 = .ok (.aload_n 0, 1) := by decide +kernel
theorem dX6_haveSameArcs_58 : decode cX6_haveSameArcs 58 = .ok (.aload_n 1, 1) := by decide +kernel
theorem dX6_haveSameArcs_59 : decode cX6_haveSameArcs 59 = .ok (.aload_n 2, 1) := by decide +kernel
theorem dX6_haveSameArcs_60 : decode cX6_haveSameArcs 60 = .ok (.iload 6, 2) := by decide +kernel
theorem dX6_haveSameArcs_62 : decode cX6_haveSameArcs 62 = .ok (.lload 4, 2) := by decide +kernel
theorem dX6_haveSameArcs_64 : decode cX6_haveSameArcs 64 = .ok (.invokevirtual 115, 3) := by decide +kernel
theorem dX6_haveSameArcs_67 : decode cX6_haveSameArcs 67 = .ok (.istore 7, 2) := by decide +kernel
theorem dX6_haveSameArcs_69 : decode cX6_haveSameArcs 69 = .ok (.iload 7, 2) := by decide +kernel
theorem dX6_haveSameArcs_71 : decode cX6_haveSameArcs 71 = .ok (.ifCond .ge 5, 3) := by decide +kernel
theorem dX6_haveSameArcs_74 : decode cX6_haveSameArcs 74 = .ok (.iconst 0, 1) := by decide +kernel
theorem dX6_haveSameArcs_75 : decode cX6_haveSameArcs 75 = .ok (.ireturn, 1) := by decide +kernel
theorem dX6_haveSameArcs_76 : decode cX6_haveSameArcs 76 = .ok (.lload 4, 2) := by decide +kernel
theorem dX6_haveSameArcs_78 : decode cX6_haveSameArcs 78 = .ok (.lconst 1, 1) := by decide +kernel
theorem dX6_haveSameArcs_79 : decode cX6_haveSameArcs 79 = .ok (.iload 7, 2) := by decide +kernel
theorem dX6_haveSameArcs_81 : decode cX6_haveSameArcs 81 = .ok (.lshl, 1) := by decide +kernel
theorem dX6_haveSameArcs_82 : decode cX6_haveSameArcs 82 = .ok (.lor, 1) := by decide +kernel
theorem dX6_haveSameArcs_83 : decode cX6_haveSameArcs 83 = .ok (.lstore 4, 2) := by decide +kernel
theorem dX6_haveSameArcs_85 : decode cX6_haveSameArcs 85 = .ok (.iinc 6 1, 3) := by decide +kernel
theorem dX6_haveSameArcs_88 : decode cX6_haveSameArcs 88 = .ok (.goto (-40), 3) := by decide +kernel
theorem dX6_haveSameArcs_91 : decode cX6_haveSameArcs 91 = .ok (.iconst 1, 1) := by decide +kernel
theorem dX6_haveSameArcs_92 : decode cX6_haveSameArcs 92 = .ok (.ireturn, 1) := by decide +kernel
theorem kX6_111 : lkK (gS, X) RX6 111 mX3_allNodes 0 ∧ Cond.instanceMethod yX3_allNodes ∈ g_ws (gS, X) ∧ Cond.selects RX3 yX3_allNodes yX3_allNodes ∈ g_ws (gS, X) ∧ yX3_allNodes.cls = RX3 := ⟨⟨tb_good, (tb_t (k := 888) (w := Cond.methodLink RX6 111 yX3_allNodes) (by decide +kernel)), (tb_t (k := 10) (w := Cond.initialized RX3) (by decide +kernel)), (tb_t (k := 427) (w := Cond.code yX3_allNodes cX3_allNodes 1 (some .int)) (by decide +kernel)), by decide +kernel, by decide⟩, (tb_t (k := 425) (w := Cond.instanceMethod yX3_allNodes) (by decide +kernel)), (tb_t (k := 426) (w := Cond.selects RX3 yX3_allNodes yX3_allNodes) (by decide +kernel)), rfl⟩
theorem kX6_115 : lkK (gS, X) RX6 115 mX6_sameArc 4 ∧ Cond.instanceMethod yX6_sameArc ∈ g_ws (gS, X) ∧ Cond.selects RX6 yX6_sameArc yX6_sameArc ∈ g_ws (gS, X) ∧ yX6_sameArc.cls = RX6 := ⟨⟨tb_good, (tb_t (k := 889) (w := Cond.methodLink RX6 115 yX6_sameArc) (by decide +kernel)), (tb_t (k := 7) (w := Cond.initialized RX6) (by decide +kernel)), (tb_t (k := 892) (w := Cond.code yX6_sameArc cX6_sameArc 12 (some .int)) (by decide +kernel)), by decide +kernel, by decide⟩, (tb_t (k := 891) (w := Cond.instanceMethod yX6_sameArc) (by decide +kernel)), (tb_p (k := 45) (q := (yX6_sameArc, 4)) (by decide +kernel)), rfl⟩
theorem dX6_sameArc_0 : decode cX6_sameArc 0 = .ok (.aload_n 0, 1) := by decide +kernel
theorem dX6_sameArc_1 : decode cX6_sameArc 1 = .ok (.getfield 21, 3) := by decide +kernel
theorem dX6_sameArc_4 : decode cX6_sameArc 4 = .ok (.aload_n 1, 1) := by decide +kernel
theorem dX6_sameArc_5 : decode cX6_sameArc 5 = .ok (.getfield 74, 3) := by decide +kernel
theorem dX6_sameArc_8 : decode cX6_sameArc 8 = .ok (.iload_n 3, 1) := by decide +kernel
theorem dX6_sameArc_9 : decode cX6_sameArc 9 = .ok (.iaload, 1) := by decide +kernel
theorem dX6_sameArc_10 : decode cX6_sameArc 10 = .ok (.iaload, 1) := by decide +kernel
theorem dX6_sameArc_11 : decode cX6_sameArc 11 = .ok (.istore 6, 2) := by decide +kernel
theorem dX6_sameArc_13 : decode cX6_sameArc 13 = .ok (.aload_n 0, 1) := by decide +kernel
theorem dX6_sameArc_14 : decode cX6_sameArc 14 = .ok (.getfield 21, 3) := by decide +kernel
theorem dX6_sameArc_17 : decode cX6_sameArc 17 = .ok (.aload_n 1, 1) := by decide +kernel
theorem dX6_sameArc_18 : decode cX6_sameArc 18 = .ok (.getfield 77, 3) := by decide +kernel
theorem dX6_sameArc_21 : decode cX6_sameArc 21 = .ok (.iload_n 3, 1) := by decide +kernel
theorem dX6_sameArc_22 : decode cX6_sameArc 22 = .ok (.iaload, 1) := by decide +kernel
theorem dX6_sameArc_23 : decode cX6_sameArc 23 = .ok (.iaload, 1) := by decide +kernel
theorem dX6_sameArc_24 : decode cX6_sameArc 24 = .ok (.istore 7, 2) := by decide +kernel
theorem dX6_sameArc_26 : decode cX6_sameArc 26 = .ok (.iconst 0, 1) := by decide +kernel
theorem dX6_sameArc_27 : decode cX6_sameArc 27 = .ok (.istore 8, 2) := by decide +kernel
theorem dX6_sameArc_29 : decode cX6_sameArc 29 = .ok (.iload 8, 2) := by decide +kernel
theorem dX6_sameArc_31 : decode cX6_sameArc 31 = .ok (.aload_n 2, 1) := by decide +kernel
theorem dX6_sameArc_32 : decode cX6_sameArc 32 = .ok (.getfield 35, 3) := by decide +kernel
theorem dX6_sameArc_35 : decode cX6_sameArc 35 = .ok (.if_icmp .ge 147, 3) := by decide +kernel
theorem dX6_sameArc_38 : decode cX6_sameArc 38 = .ok (.aload_n 2, 1) := by decide +kernel
theorem dX6_sameArc_39 : decode cX6_sameArc 39 = .ok (.getfield 74, 3) := by decide +kernel
theorem dX6_sameArc_42 : decode cX6_sameArc 42 = .ok (.iload 8, 2) := by decide +kernel
theorem dX6_sameArc_44 : decode cX6_sameArc 44 = .ok (.iaload, 1) := by decide +kernel
theorem dX6_sameArc_45 : decode cX6_sameArc 45 = .ok (.iload 6, 2) := by decide +kernel
theorem dX6_sameArc_47 : decode cX6_sameArc 47 = .ok (.if_icmp .ne 19, 3) := by decide +kernel
theorem dX6_sameArc_50 : decode cX6_sameArc 50 = .ok (.aload_n 2, 1) := by decide +kernel
theorem dX6_sameArc_51 : decode cX6_sameArc 51 = .ok (.getfield 77, 3) := by decide +kernel
theorem dX6_sameArc_54 : decode cX6_sameArc 54 = .ok (.iload 8, 2) := by decide +kernel
theorem dX6_sameArc_56 : decode cX6_sameArc 56 = .ok (.iaload, 1) := by decide +kernel
theorem dX6_sameArc_57 : decode cX6_sameArc 57 = .ok (.iload 7, 2) := by decide +kernel
theorem dX6_sameArc_59 : decode cX6_sameArc 59 = .ok (.if_icmp .ne 7, 3) := by decide +kernel
theorem dX6_sameArc_62 : decode cX6_sameArc 62 = .ok (.iconst 1, 1) := by decide +kernel
theorem dX6_sameArc_63 : decode cX6_sameArc 63 = .ok (.goto 4, 3) := by decide +kernel
theorem dX6_sameArc_66 : decode cX6_sameArc 66 = .ok (.iconst 0, 1) := by decide +kernel
theorem dX6_sameArc_67 : decode cX6_sameArc 67 = .ok (.istore 9, 2) := by decide +kernel
theorem dX6_sameArc_69 : decode cX6_sameArc 69 = .ok (.aload_n 2, 1) := by decide +kernel
theorem dX6_sameArc_70 : decode cX6_sameArc 70 = .ok (.getfield 31, 3) := by decide +kernel
theorem dX6_sameArc_73 : decode cX6_sameArc 73 = .ok (.ifCond .ne 31, 3) := by decide +kernel
theorem dX6_sameArc_76 : decode cX6_sameArc 76 = .ok (.aload_n 2, 1) := by decide +kernel
theorem dX6_sameArc_77 : decode cX6_sameArc 77 = .ok (.getfield 74, 3) := by decide +kernel
theorem dX6_sameArc_80 : decode cX6_sameArc 80 = .ok (.iload 8, 2) := by decide +kernel
theorem dX6_sameArc_82 : decode cX6_sameArc 82 = .ok (.iaload, 1) := by decide +kernel
theorem dX6_sameArc_83 : decode cX6_sameArc 83 = .ok (.iload 7, 2) := by decide +kernel
theorem dX6_sameArc_85 : decode cX6_sameArc 85 = .ok (.if_icmp .ne 19, 3) := by decide +kernel
theorem dX6_sameArc_88 : decode cX6_sameArc 88 = .ok (.aload_n 2, 1) := by decide +kernel
theorem dX6_sameArc_89 : decode cX6_sameArc 89 = .ok (.getfield 77, 3) := by decide +kernel
theorem dX6_sameArc_92 : decode cX6_sameArc 92 = .ok (.iload 8, 2) := by decide +kernel
theorem dX6_sameArc_94 : decode cX6_sameArc 94 = .ok (.iaload, 1) := by decide +kernel
theorem dX6_sameArc_95 : decode cX6_sameArc 95 = .ok (.iload 6, 2) := by decide +kernel
theorem dX6_sameArc_97 : decode cX6_sameArc 97 = .ok (.if_icmp .ne 7, 3) := by decide +kernel
theorem dX6_sameArc_100 : decode cX6_sameArc 100 = .ok (.iconst 1, 1) := by decide +kernel
theorem dX6_sameArc_101 : decode cX6_sameArc 101 = .ok (.goto 4, 3) := by decide +kernel
theorem dX6_sameArc_104 : decode cX6_sameArc 104 = .ok (.iconst 0, 1) := by decide +kernel
theorem dX6_sameArc_105 : decode cX6_sameArc 105 = .ok (.istore 10, 2) := by decide +kernel
theorem dX6_sameArc_107 : decode cX6_sameArc 107 = .ok (.aload_n 2, 1) := by decide +kernel
theorem dX6_sameArc_108 : decode cX6_sameArc 108 = .ok (.getfield 62, 3) := by decide +kernel
theorem dX6_sameArc_111 : decode cX6_sameArc 111 = .ok (.iload 8, 2) := by decide +kernel
theorem dX6_sameArc_113 : decode cX6_sameArc 113 = .ok (.iaload, 1) := by decide +kernel
theorem dX6_sameArc_114 : decode cX6_sameArc 114 = .ok (.aload_n 1, 1) := by decide +kernel
theorem dX6_sameArc_115 : decode cX6_sameArc 115 = .ok (.getfield 62, 3) := by decide +kernel
theorem dX6_sameArc_118 : decode cX6_sameArc 118 = .ok (.iload_n 3, 1) := by decide +kernel
theorem dX6_sameArc_119 : decode cX6_sameArc 119 = .ok (.iaload, 1) := by decide +kernel
theorem dX6_sameArc_120 : decode cX6_sameArc 120 = .ok (.if_icmp .ne 23, 3) := by decide +kernel
theorem dX6_sameArc_123 : decode cX6_sameArc 123 = .ok (.aload_n 2, 1) := by decide +kernel
theorem dX6_sameArc_124 : decode cX6_sameArc 124 = .ok (.getfield 67, 3) := by decide +kernel
theorem dX6_sameArc_127 : decode cX6_sameArc 127 = .ok (.iload 8, 2) := by decide +kernel
theorem dX6_sameArc_129 : decode cX6_sameArc 129 = .ok (.iaload, 1) := by decide +kernel
theorem dX6_sameArc_130 : decode cX6_sameArc 130 = .ok (.aload_n 1, 1) := by decide +kernel
theorem dX6_sameArc_131 : decode cX6_sameArc 131 = .ok (.getfield 67, 3) := by decide +kernel
theorem dX6_sameArc_134 : decode cX6_sameArc 134 = .ok (.iload_n 3, 1) := by decide +kernel
theorem dX6_sameArc_135 : decode cX6_sameArc 135 = .ok (.iaload, 1) := by decide +kernel
theorem dX6_sameArc_136 : decode cX6_sameArc 136 = .ok (.if_icmp .ne 7, 3) := by decide +kernel
theorem dX6_sameArc_139 : decode cX6_sameArc 139 = .ok (.iconst 1, 1) := by decide +kernel
theorem dX6_sameArc_140 : decode cX6_sameArc 140 = .ok (.goto 4, 3) := by decide +kernel
theorem dX6_sameArc_143 : decode cX6_sameArc 143 = .ok (.iconst 0, 1) := by decide +kernel
theorem dX6_sameArc_144 : decode cX6_sameArc 144 = .ok (.istore 11, 2) := by decide +kernel
theorem dX6_sameArc_146 : decode cX6_sameArc 146 = .ok (.lload 4, 2) := by decide +kernel
theorem dX6_sameArc_148 : decode cX6_sameArc 148 = .ok (.iload 8, 2) := by decide +kernel
theorem dX6_sameArc_150 : decode cX6_sameArc 150 = .ok (.lshr, 1) := by decide +kernel
theorem dX6_sameArc_151 : decode cX6_sameArc 151 = .ok (.lconst 1, 1) := by decide +kernel
theorem dX6_sameArc_152 : decode cX6_sameArc 152 = .ok (.land, 1) := by decide +kernel
theorem dX6_sameArc_153 : decode cX6_sameArc 153 = .ok (.lconst 0, 1) := by decide +kernel
theorem dX6_sameArc_154 : decode cX6_sameArc 154 = .ok (.lcmp, 1) := by decide +kernel
theorem dX6_sameArc_155 : decode cX6_sameArc 155 = .ok (.ifCond .ne 21, 3) := by decide +kernel
theorem dX6_sameArc_158 : decode cX6_sameArc 158 = .ok (.iload 11, 2) := by decide +kernel
theorem dX6_sameArc_160 : decode cX6_sameArc 160 = .ok (.ifCond .eq 16, 3) := by decide +kernel
theorem dX6_sameArc_163 : decode cX6_sameArc 163 = .ok (.iload 9, 2) := by decide +kernel
theorem dX6_sameArc_165 : decode cX6_sameArc 165 = .ok (.ifCond .ne 8, 3) := by decide +kernel
theorem dX6_sameArc_168 : decode cX6_sameArc 168 = .ok (.iload 10, 2) := by decide +kernel
theorem dX6_sameArc_170 : decode cX6_sameArc 170 = .ok (.ifCond .eq 6, 3) := by decide +kernel
theorem dX6_sameArc_173 : decode cX6_sameArc 173 = .ok (.iload 8, 2) := by decide +kernel
theorem dX6_sameArc_175 : decode cX6_sameArc 175 = .ok (.ireturn, 1) := by decide +kernel
theorem dX6_sameArc_176 : decode cX6_sameArc 176 = .ok (.iinc 8 1, 3) := by decide +kernel
theorem dX6_sameArc_179 : decode cX6_sameArc 179 = .ok (.goto (-150), 3) := by decide +kernel
theorem dX6_sameArc_182 : decode cX6_sameArc 182 = .ok (.iconst (-1), 1) := by decide +kernel
theorem dX6_sameArc_183 : decode cX6_sameArc 183 = .ok (.ireturn, 1) := by decide +kernel
theorem dX10_init_0 : decode cX10_init 0 = .ok (.aload_n 0, 1) := by decide +kernel
theorem dX10_init_1 : decode cX10_init 1 = .ok (.aload_n 1, 1) := by decide +kernel
theorem dX10_init_2 : decode cX10_init 2 = .ok (.getfield 3, 3) := by decide +kernel
theorem dX10_init_5 : decode cX10_init 5 = .ok (.invokespecial 9, 3) := by decide +kernel
theorem dX10_init_8 : decode cX10_init 8 = .ok (.aload_n 0, 1) := by decide +kernel
theorem dX10_init_9 : decode cX10_init 9 = .ok (.aload_n 0, 1) := by decide +kernel
theorem dX10_init_10 : decode cX10_init 10 = .ok (.getfield 15, 3) := by decide +kernel
theorem dX10_init_13 : decode cX10_init 13 = .ok (.newarray .int, 2) := by decide +kernel
theorem dX10_init_15 : decode cX10_init 15 = .ok (.putfield 18, 3) := by decide +kernel
theorem dX10_init_18 : decode cX10_init 18 = .ok (.aload_n 0, 1) := by decide +kernel
theorem dX10_init_19 : decode cX10_init 19 = .ok (.aload_n 0, 1) := by decide +kernel
theorem dX10_init_20 : decode cX10_init 20 = .ok (.getfield 15, 3) := by decide +kernel
theorem dX10_init_23 : decode cX10_init 23 = .ok (.newarray .long, 2) := by decide +kernel
theorem dX10_init_25 : decode cX10_init 25 = .ok (.putfield 22, 3) := by decide +kernel
theorem dX10_init_28 : decode cX10_init 28 = .ok (.aload_n 0, 1) := by decide +kernel
theorem dX10_init_29 : decode cX10_init 29 = .ok (.aload_n 0, 1) := by decide +kernel
theorem dX10_init_30 : decode cX10_init 30 = .ok (.getfield 15, 3) := by decide +kernel
theorem dX10_init_33 : decode cX10_init 33 = .ok (.newarray .int, 2) := by decide +kernel
theorem dX10_init_35 : decode cX10_init 35 = .ok (.putfield 26, 3) := by decide +kernel
theorem dX10_init_38 : decode cX10_init 38 = .ok (.aload_n 0, 1) := by decide +kernel
theorem dX10_init_39 : decode cX10_init 39 = .ok (.aload_n 0, 1) := by decide +kernel
theorem dX10_init_40 : decode cX10_init 40 = .ok (.getfield 15, 3) := by decide +kernel
theorem dX10_init_43 : decode cX10_init 43 = .ok (.newarray .long, 2) := by decide +kernel
theorem dX10_init_45 : decode cX10_init 45 = .ok (.putfield 29, 3) := by decide +kernel
theorem dX10_init_48 : decode cX10_init 48 = .ok (.aload_n 0, 1) := by decide +kernel
theorem dX10_init_49 : decode cX10_init 49 = .ok (.aload_n 0, 1) := by decide +kernel
theorem dX10_init_50 : decode cX10_init 50 = .ok (.getfield 15, 3) := by decide +kernel
theorem dX10_init_53 : decode cX10_init 53 = .ok (.aload_n 0, 1) := by decide +kernel
theorem dX10_init_54 : decode cX10_init 54 = .ok (.getfield 15, 3) := by decide +kernel
theorem dX10_init_57 : decode cX10_init 57 = .ok (.imul, 1) := by decide +kernel
theorem dX10_init_58 : decode cX10_init 58 = .ok (.newarray .int, 2) := by decide +kernel
theorem dX10_init_60 : decode cX10_init 60 = .ok (.putfield 32, 3) := by decide +kernel
theorem dX10_init_63 : decode cX10_init 63 = .ok (.aload_n 0, 1) := by decide +kernel
theorem dX10_init_64 : decode cX10_init 64 = .ok (.getfield 26, 3) := by decide +kernel
theorem dX10_init_67 : decode cX10_init 67 = .ok (.iconst (-1), 1) := by decide +kernel
theorem dX10_init_68 : decode cX10_init 68 = .ok (.invokestatic 35, 3) := by decide +kernel
theorem dX10_init_71 : decode cX10_init 71 = .ok (.aload_n 0, 1) := by decide +kernel
theorem dX10_init_72 : decode cX10_init 72 = .ok (.getfield 18, 3) := by decide +kernel
theorem dX10_init_75 : decode cX10_init 75 = .ok (.iload_n 3, 1) := by decide +kernel
theorem dX10_init_76 : decode cX10_init 76 = .ok (.iconst 1, 1) := by decide +kernel
theorem dX10_init_77 : decode cX10_init 77 = .ok (.iastore, 1) := by decide +kernel
theorem dX10_init_78 : decode cX10_init 78 = .ok (.aload_n 0, 1) := by decide +kernel
theorem dX10_init_79 : decode cX10_init 79 = .ok (.getfield 26, 3) := by decide +kernel
theorem dX10_init_82 : decode cX10_init 82 = .ok (.iload_n 3, 1) := by decide +kernel
theorem dX10_init_83 : decode cX10_init 83 = .ok (.iconst 0, 1) := by decide +kernel
theorem dX10_init_84 : decode cX10_init 84 = .ok (.iastore, 1) := by decide +kernel
theorem dX10_init_85 : decode cX10_init 85 = .ok (.aload_n 0, 1) := by decide +kernel
theorem dX10_init_86 : decode cX10_init 86 = .ok (.getfield 29, 3) := by decide +kernel
theorem dX10_init_89 : decode cX10_init 89 = .ok (.iload_n 3, 1) := by decide +kernel
theorem dX10_init_90 : decode cX10_init 90 = .ok (.lconst 1, 1) := by decide +kernel
theorem dX10_init_91 : decode cX10_init 91 = .ok (.lastore, 1) := by decide +kernel
theorem dX10_init_92 : decode cX10_init 92 = .ok (.iload_n 2, 1) := by decide +kernel
theorem dX10_init_93 : decode cX10_init 93 = .ok (.iconst 2, 1) := by decide +kernel
theorem dX10_init_94 : decode cX10_init 94 = .ok (.if_icmp .ne 26, 3) := by decide +kernel
theorem dX10_init_97 : decode cX10_init 97 = .ok (.aload_n 0, 1) := by decide +kernel
theorem dX10_init_98 : decode cX10_init 98 = .ok (.getfield 22, 3) := by decide +kernel
theorem dX10_init_101 : decode cX10_init 101 = .ok (.iload_n 3, 1) := by decide +kernel
theorem dX10_init_102 : decode cX10_init 102 = .ok (.ldc2_w 41, 3) := by decide +kernel
theorem dX10_init_105 : decode cX10_init 105 = .ok (.lastore, 1) := by decide +kernel
theorem dX10_init_106 : decode cX10_init 106 = .ok (.aload_n 0, 1) := by decide +kernel
theorem dX10_init_107 : decode cX10_init 107 = .ok (.aload_n 1, 1) := by decide +kernel
theorem dX10_init_108 : decode cX10_init 108 = .ok (.invokevirtual 43, 3) := by decide +kernel
theorem dX10_init_111 : decode cX10_init 111 = .ok (.aload_n 0, 1) := by decide +kernel
theorem dX10_init_112 : decode cX10_init 112 = .ok (.aload_n 1, 1) := by decide +kernel
theorem dX10_init_113 : decode cX10_init 113 = .ok (.iload_n 3, 1) := by decide +kernel
theorem dX10_init_114 : decode cX10_init 114 = .ok (.invokevirtual 47, 3) := by decide +kernel
theorem dX10_init_117 : decode cX10_init 117 = .ok (.goto 48, 3) := by decide +kernel
theorem dX10_init_120 : decode cX10_init 120 = .ok (.aload_n 0, 1) := by decide +kernel
theorem dX10_init_121 : decode cX10_init 121 = .ok (.aload_n 1, 1) := by decide +kernel
theorem dX10_init_122 : decode cX10_init 122 = .ok (.iload_n 2, 1) := by decide +kernel
theorem dX10_init_123 : decode cX10_init 123 = .ok (.iconst 1, 1) := by decide +kernel
theorem dX10_init_124 : decode cX10_init 124 = .ok (.if_icmp .ne 7, 3) := by decide +kernel
theorem dX10_init_127 : decode cX10_init 127 = .ok (.iconst 1, 1) := by decide +kernel
theorem dX10_init_128 : decode cX10_init 128 = .ok (.goto 4, 3) := by decide +kernel
theorem dX10_init_131 : decode cX10_init 131 = .ok (.iconst 0, 1) := by decide +kernel
theorem dX10_init_132 : decode cX10_init 132 = .ok (.invokevirtual 51, 3) := by decide +kernel
theorem dX10_init_135 : decode cX10_init 135 = .ok (.aload_n 0, 1) := by decide +kernel
theorem dX10_init_136 : decode cX10_init 136 = .ok (.aload_n 1, 1) := by decide +kernel
theorem dX10_init_137 : decode cX10_init 137 = .ok (.iload_n 2, 1) := by decide +kernel
theorem dX10_init_138 : decode cX10_init 138 = .ok (.iconst 1, 1) := by decide +kernel
theorem dX10_init_139 : decode cX10_init 139 = .ok (.if_icmp .ne 7, 3) := by decide +kernel
theorem dX10_init_142 : decode cX10_init 142 = .ok (.iconst 1, 1) := by decide +kernel
theorem dX10_init_143 : decode cX10_init 143 = .ok (.goto 4, 3) := by decide +kernel
theorem dX10_init_146 : decode cX10_init 146 = .ok (.iconst 0, 1) := by decide +kernel
theorem dX10_init_147 : decode cX10_init 147 = .ok (.invokevirtual 55, 3) := by decide +kernel
theorem dX10_init_150 : decode cX10_init 150 = .ok (.aload_n 0, 1) := by decide +kernel
theorem dX10_init_151 : decode cX10_init 151 = .ok (.aload_n 1, 1) := by decide +kernel
theorem dX10_init_152 : decode cX10_init 152 = .ok (.iload_n 2, 1) := by decide +kernel
theorem dX10_init_153 : decode cX10_init 153 = .ok (.iconst 1, 1) := by decide +kernel
theorem dX10_init_154 : decode cX10_init 154 = .ok (.if_icmp .ne 7, 3) := by decide +kernel
theorem dX10_init_157 : decode cX10_init 157 = .ok (.iconst 1, 1) := by decide +kernel
theorem dX10_init_158 : decode cX10_init 158 = .ok (.goto 4, 3) := by decide +kernel
theorem dX10_init_161 : decode cX10_init 161 = .ok (.iconst 0, 1) := by decide +kernel
theorem dX10_init_162 : decode cX10_init 162 = .ok (.invokevirtual 58, 3) := by decide +kernel
theorem dX10_init_165 : decode cX10_init 165 = .ok (.return_, 1) := by decide +kernel
theorem fX10_3 : lkF (gS, X) RX10 3 3 0 "GraphEngine$Graph" RX3 TX3 14 := ⟨rfl, inX3, by decide, (tb_t (k := 350) (w := Cond.fieldLink RX10 3 "GraphEngine$Graph" "nodes" "I") (by decide +kernel)), Or.inr (tb_t (k := 351) (w := Cond.sameField "GraphEngine$Graph" "GraphEngine$Thing" "nodes" "I") (by decide +kernel))⟩
theorem kX10_9 : lkK (gS, X) RX10 9 mX9_init 1 ∧ Cond.instanceMethod yX9_init ∈ g_ws (gS, X) ∧ yX9_init.name = "<init>" ∧ mX9_init.2.2.2 = none := ⟨⟨tb_good, (tb_t (k := 630) (w := Cond.methodLink RX10 9 yX9_init) (by decide +kernel)), (tb_t (k := 9) (w := Cond.initialized RX9) (by decide +kernel)), (tb_t (k := 255) (w := Cond.code yX9_init cX9_init 2 none) (by decide +kernel)), by decide +kernel, by decide⟩, (tb_t (k := 254) (w := Cond.instanceMethod yX9_init) (by decide +kernel)), rfl, rfl⟩
theorem fX10_15 : lkF (gS, X) RX10 15 9 0 "GraphEngine$Ways" RX10 TX10 6 := ⟨rfl, inX10, by decide, (tb_t (k := 354) (w := Cond.fieldLink RX10 15 "GraphEngine$Ways" "nodes" "I") (by decide +kernel)), Or.inr (tb_t (k := 355) (w := Cond.sameField "GraphEngine$Ways" "GraphEngine$Thing" "nodes" "I") (by decide +kernel))⟩
theorem fX10_18 : lkF (gS, X) RX10 18 9 1 "GraphEngine$Ways" RX10 TX10 6 := ⟨rfl, inX10, by decide, (tb_t (k := 677) (w := Cond.fieldLink RX10 18 "GraphEngine$Ways" "state" "[I") (by decide +kernel)), Or.inl rfl⟩
theorem fX10_22 : lkF (gS, X) RX10 22 9 2 "GraphEngine$Ways" RX10 TX10 6 := ⟨rfl, inX10, by decide, (tb_t (k := 678) (w := Cond.fieldLink RX10 22 "GraphEngine$Ways" "worth" "[J") (by decide +kernel)), Or.inl rfl⟩
theorem fX10_26 : lkF (gS, X) RX10 26 9 3 "GraphEngine$Ways" RX10 TX10 6 := ⟨rfl, inX10, by decide, (tb_t (k := 679) (w := Cond.fieldLink RX10 26 "GraphEngine$Ways" "length" "[I") (by decide +kernel)), Or.inl rfl⟩
theorem fX10_29 : lkF (gS, X) RX10 29 9 4 "GraphEngine$Ways" RX10 TX10 6 := ⟨rfl, inX10, by decide, (tb_t (k := 680) (w := Cond.fieldLink RX10 29 "GraphEngine$Ways" "many" "[J") (by decide +kernel)), Or.inl rfl⟩
theorem fX10_32 : lkF (gS, X) RX10 32 9 5 "GraphEngine$Ways" RX10 TX10 6 := ⟨rfl, inX10, by decide, (tb_t (k := 681) (w := Cond.fieldLink RX10 32 "GraphEngine$Ways" "rows" "[I") (by decide +kernel)), Or.inl rfl⟩
theorem kX10_35 : lkK (gS, X) RX10 35 mJ7_fill_53178 2 ∧ Cond.static yJ7_fill_53178 ∈ g_ws (gS, X) := ⟨⟨tb_good, (tb_t (k := 631) (w := Cond.methodLink RX10 35 yJ7_fill_53178) (by decide +kernel)), (tb_t (k := 11) (w := Cond.initialized RJ7) (by decide +kernel)), (tb_t (k := 457) (w := Cond.code yJ7_fill_53178 cJ7_fill_53178 4 none) (by decide +kernel)), by decide +kernel, by decide⟩, (tb_t (k := 456) (w := Cond.static yJ7_fill_53178) (by decide +kernel))⟩
theorem kX10_41 : Cond.constantLong RX10 41 1001 ∈ g_ws (gS, X) := (tb_t (k := 632) (w := Cond.constantLong RX10 41 1001) (by decide +kernel))
theorem kX10_43 : lkK (gS, X) RX10 43 mX10_widenAll 1 ∧ Cond.instanceMethod yX10_widenAll ∈ g_ws (gS, X) ∧ Cond.selects RX10 yX10_widenAll yX10_widenAll ∈ g_ws (gS, X) ∧ yX10_widenAll.cls = RX10 := ⟨⟨tb_good, (tb_t (k := 633) (w := Cond.methodLink RX10 43 yX10_widenAll) (by decide +kernel)), (tb_t (k := 16) (w := Cond.initialized RX10) (by decide +kernel)), (tb_t (k := 636) (w := Cond.code yX10_widenAll cX10_widenAll 9 none) (by decide +kernel)), by decide +kernel, by decide⟩, (tb_t (k := 635) (w := Cond.instanceMethod yX10_widenAll) (by decide +kernel)), (tb_p (k := 23) (q := (yX10_widenAll, 6)) (by decide +kernel)), rfl⟩
theorem kX10_47 : lkK (gS, X) RX10 47 mX10_traceWide 2 ∧ Cond.instanceMethod yX10_traceWide ∈ g_ws (gS, X) ∧ Cond.selects RX10 yX10_traceWide yX10_traceWide ∈ g_ws (gS, X) ∧ yX10_traceWide.cls = RX10 := ⟨⟨tb_good, (tb_t (k := 638) (w := Cond.methodLink RX10 47 yX10_traceWide) (by decide +kernel)), (tb_t (k := 16) (w := Cond.initialized RX10) (by decide +kernel)), (tb_t (k := 641) (w := Cond.code yX10_traceWide cX10_traceWide 6 none) (by decide +kernel)), by decide +kernel, by decide⟩, (tb_t (k := 640) (w := Cond.instanceMethod yX10_traceWide) (by decide +kernel)), (tb_p (k := 24) (q := (yX10_traceWide, 6)) (by decide +kernel)), rfl⟩
theorem kX10_51 : lkK (gS, X) RX10 51 mX10_lowerAll 2 ∧ Cond.instanceMethod yX10_lowerAll ∈ g_ws (gS, X) ∧ Cond.selects RX10 yX10_lowerAll yX10_lowerAll ∈ g_ws (gS, X) ∧ yX10_lowerAll.cls = RX10 := ⟨⟨tb_good, (tb_t (k := 651) (w := Cond.methodLink RX10 51 yX10_lowerAll) (by decide +kernel)), (tb_t (k := 16) (w := Cond.initialized RX10) (by decide +kernel)), (tb_t (k := 654) (w := Cond.code yX10_lowerAll cX10_lowerAll 8 none) (by decide +kernel)), by decide +kernel, by decide⟩, (tb_t (k := 653) (w := Cond.instanceMethod yX10_lowerAll) (by decide +kernel)), (tb_p (k := 27) (q := (yX10_lowerAll, 6)) (by decide +kernel)), rfl⟩
theorem kX10_55 : lkK (gS, X) RX10 55 mX10_markEndless 2 ∧ Cond.instanceMethod yX10_markEndless ∈ g_ws (gS, X) ∧ Cond.selects RX10 yX10_markEndless yX10_markEndless ∈ g_ws (gS, X) ∧ yX10_markEndless.cls = RX10 := ⟨⟨tb_good, (tb_t (k := 662) (w := Cond.methodLink RX10 55 yX10_markEndless) (by decide +kernel)), (tb_t (k := 16) (w := Cond.initialized RX10) (by decide +kernel)), (tb_t (k := 665) (w := Cond.code yX10_markEndless cX10_markEndless 6 none) (by decide +kernel)), by decide +kernel, by decide⟩, (tb_t (k := 664) (w := Cond.instanceMethod yX10_markEndless) (by decide +kernel)), (tb_p (k := 29) (q := (yX10_markEndless, 6)) (by decide +kernel)), rfl⟩
theorem kX10_58 : lkK (gS, X) RX10 58 mX10_traceLow 2 ∧ Cond.instanceMethod yX10_traceLow ∈ g_ws (gS, X) ∧ Cond.selects RX10 yX10_traceLow yX10_traceLow ∈ g_ws (gS, X) ∧ yX10_traceLow.cls = RX10 := ⟨⟨tb_good, (tb_t (k := 668) (w := Cond.methodLink RX10 58 yX10_traceLow) (by decide +kernel)), (tb_t (k := 16) (w := Cond.initialized RX10) (by decide +kernel)), (tb_t (k := 671) (w := Cond.code yX10_traceLow cX10_traceLow 5 none) (by decide +kernel)), by decide +kernel, by decide⟩, (tb_t (k := 670) (w := Cond.instanceMethod yX10_traceLow) (by decide +kernel)), (tb_p (k := 30) (q := (yX10_traceLow, 6)) (by decide +kernel)), rfl⟩
theorem dX10_sortNumber_0 : decode cX10_sortNumber 0 = .ok (.iconst 3, 1) := by decide +kernel
theorem dX10_sortNumber_1 : decode cX10_sortNumber 1 = .ok (.ireturn, 1) := by decide +kernel
theorem dX10_detail_0 : decode cX10_detail 0 = .ok (.iload_n 2, 1) := by decide +kernel
theorem dX10_detail_1 : decode cX10_detail 1 = .ok (.tableswitch 50 0 2 #[27, 35, 42], 27) := by decide +kernel
theorem dX10_detail_28 : decode cX10_detail 28 = .ok (.aload_n 0, 1) := by decide +kernel
theorem dX10_detail_29 : decode cX10_detail 29 = .ok (.getfield 18, 3) := by decide +kernel
theorem dX10_detail_32 : decode cX10_detail 32 = .ok (.iload_n 1, 1) := by decide +kernel
theorem dX10_detail_33 : decode cX10_detail 33 = .ok (.iaload, 1) := by decide +kernel
theorem dX10_detail_34 : decode cX10_detail 34 = .ok (.i2l, 1) := by decide +kernel
theorem dX10_detail_35 : decode cX10_detail 35 = .ok (.lreturn, 1) := by decide +kernel
theorem dX10_detail_36 : decode cX10_detail 36 = .ok (.aload_n 0, 1) := by decide +kernel
theorem dX10_detail_37 : decode cX10_detail 37 = .ok (.getfield 22, 3) := by decide +kernel
theorem dX10_detail_40 : decode cX10_detail 40 = .ok (.iload_n 1, 1) := by decide +kernel
theorem dX10_detail_41 : decode cX10_detail 41 = .ok (.laload, 1) := by decide +kernel
theorem dX10_detail_42 : decode cX10_detail 42 = .ok (.lreturn, 1) := by decide +kernel
theorem dX10_detail_43 : decode cX10_detail 43 = .ok (.aload_n 0, 1) := by decide +kernel
theorem dX10_detail_44 : decode cX10_detail 44 = .ok (.getfield 26, 3) := by decide +kernel
theorem dX10_detail_47 : decode cX10_detail 47 = .ok (.iload_n 1, 1) := by decide +kernel
theorem dX10_detail_48 : decode cX10_detail 48 = .ok (.iaload, 1) := by decide +kernel
theorem dX10_detail_49 : decode cX10_detail 49 = .ok (.i2l, 1) := by decide +kernel
theorem dX10_detail_50 : decode cX10_detail 50 = .ok (.lreturn, 1) := by decide +kernel
theorem dX10_detail_51 : decode cX10_detail 51 = .ok (.aload_n 0, 1) := by decide +kernel
theorem dX10_detail_52 : decode cX10_detail 52 = .ok (.getfield 29, 3) := by decide +kernel
theorem dX10_detail_55 : decode cX10_detail 55 = .ok (.iload_n 1, 1) := by decide +kernel
theorem dX10_detail_56 : decode cX10_detail 56 = .ok (.laload, 1) := by decide +kernel
theorem dX10_detail_57 : decode cX10_detail 57 = .ok (.lreturn, 1) := by decide +kernel
theorem dX10_arcOnWay_0 : decode cX10_arcOnWay 0 = .ok (.iload_n 2, 1) := by decide +kernel
theorem dX10_arcOnWay_1 : decode cX10_arcOnWay 1 = .ok (.ifCond .lt 29, 3) := by decide +kernel
theorem dX10_arcOnWay_4 : decode cX10_arcOnWay 4 = .ok (.iload_n 2, 1) := by decide +kernel
theorem dX10_arcOnWay_5 : decode cX10_arcOnWay 5 = .ok (.aload_n 0, 1) := by decide +kernel
theorem dX10_arcOnWay_6 : decode cX10_arcOnWay 6 = .ok (.getfield 26, 3) := by decide +kernel
theorem dX10_arcOnWay_9 : decode cX10_arcOnWay 9 = .ok (.iload_n 1, 1) := by decide +kernel
theorem dX10_arcOnWay_10 : decode cX10_arcOnWay 10 = .ok (.iaload, 1) := by decide +kernel
theorem dX10_arcOnWay_11 : decode cX10_arcOnWay 11 = .ok (.if_icmp .ge 19, 3) := by decide +kernel
theorem dX10_arcOnWay_14 : decode cX10_arcOnWay 14 = .ok (.aload_n 0, 1) := by decide +kernel
theorem dX10_arcOnWay_15 : decode cX10_arcOnWay 15 = .ok (.getfield 32, 3) := by decide +kernel
theorem dX10_arcOnWay_18 : decode cX10_arcOnWay 18 = .ok (.iload_n 1, 1) := by decide +kernel
theorem dX10_arcOnWay_19 : decode cX10_arcOnWay 19 = .ok (.aload_n 0, 1) := by decide +kernel
theorem dX10_arcOnWay_20 : decode cX10_arcOnWay 20 = .ok (.getfield 15, 3) := by decide +kernel
theorem dX10_arcOnWay_23 : decode cX10_arcOnWay 23 = .ok (.imul, 1) := by decide +kernel
theorem dX10_arcOnWay_24 : decode cX10_arcOnWay 24 = .ok (.iload_n 2, 1) := by decide +kernel
theorem dX10_arcOnWay_25 : decode cX10_arcOnWay 25 = .ok (.iadd, 1) := by decide +kernel
theorem dX10_arcOnWay_26 : decode cX10_arcOnWay 26 = .ok (.iaload, 1) := by decide +kernel
theorem dX10_arcOnWay_27 : decode cX10_arcOnWay 27 = .ok (.goto 4, 3) := by decide +kernel
theorem dX10_arcOnWay_30 : decode cX10_arcOnWay 30 = .ok (.iconst (-1), 1) := by decide +kernel
theorem dX10_arcOnWay_31 : decode cX10_arcOnWay 31 = .ok (.ireturn, 1) := by decide +kernel
theorem dX10_priceOf_0 : decode cX10_priceOf 0 = .ok (.iload_n 1, 1) := by decide +kernel
theorem dX10_priceOf_1 : decode cX10_priceOf 1 = .ok (.ifCond .eq 7, 3) := by decide +kernel
theorem dX10_priceOf_4 : decode cX10_priceOf 4 = .ok (.lconst 1, 1) := by decide +kernel
theorem dX10_priceOf_5 : decode cX10_priceOf 5 = .ok (.goto 15, 3) := by decide +kernel
theorem dX10_priceOf_8 : decode cX10_priceOf 8 = .ok (.aload_n 0, 1) := by decide +kernel
theorem dX10_priceOf_9 : decode cX10_priceOf 9 = .ok (.getfield 61, 3) := by decide +kernel
theorem dX10_priceOf_12 : decode cX10_priceOf 12 = .ok (.aload_n 0, 1) := by decide +kernel
theorem dX10_priceOf_13 : decode cX10_priceOf 13 = .ok (.getfield 64, 3) := by decide +kernel
theorem dX10_priceOf_16 : decode cX10_priceOf 16 = .ok (.iload_n 2, 1) := by decide +kernel
theorem dX10_priceOf_17 : decode cX10_priceOf 17 = .ok (.iaload, 1) := by decide +kernel
theorem dX10_priceOf_18 : decode cX10_priceOf 18 = .ok (.iaload, 1) := by decide +kernel
theorem dX10_priceOf_19 : decode cX10_priceOf 19 = .ok (.i2l, 1) := by decide +kernel
theorem dX10_priceOf_20 : decode cX10_priceOf 20 = .ok (.lreturn, 1) := by decide +kernel
theorem fX10_61 : lkF (gS, X) RX10 61 3 5 "GraphEngine$Graph" RX3 TX3 14 := ⟨rfl, inX3, by decide, (tb_t (k := 308) (w := Cond.fieldLink RX10 61 "GraphEngine$Graph" "weight" "[I") (by decide +kernel)), Or.inl rfl⟩
theorem fX10_64 : lkF (gS, X) RX10 64 3 10 "GraphEngine$Graph" RX3 TX3 14 := ⟨rfl, inX3, by decide, (tb_t (k := 334) (w := Cond.fieldLink RX10 64 "GraphEngine$Graph" "by" "[I") (by decide +kernel)), Or.inl rfl⟩
theorem dX10_lowers_0 : decode cX10_lowers 0 = .ok (.aload_n 1, 1) := by decide +kernel
theorem dX10_lowers_1 : decode cX10_lowers 1 = .ok (.getfield 67, 3) := by decide +kernel
theorem dX10_lowers_4 : decode cX10_lowers 4 = .ok (.iload_n 3, 1) := by decide +kernel
theorem dX10_lowers_5 : decode cX10_lowers 5 = .ok (.iaload, 1) := by decide +kernel
theorem dX10_lowers_6 : decode cX10_lowers 6 = .ok (.istore 4, 2) := by decide +kernel
theorem dX10_lowers_8 : decode cX10_lowers 8 = .ok (.aload_n 1, 1) := by decide +kernel
theorem dX10_lowers_9 : decode cX10_lowers 9 = .ok (.getfield 70, 3) := by decide +kernel
theorem dX10_lowers_12 : decode cX10_lowers 12 = .ok (.iload_n 3, 1) := by decide +kernel
theorem dX10_lowers_13 : decode cX10_lowers 13 = .ok (.iaload, 1) := by decide +kernel
theorem dX10_lowers_14 : decode cX10_lowers 14 = .ok (.istore 5, 2) := by decide +kernel
theorem dX10_lowers_16 : decode cX10_lowers 16 = .ok (.aload_n 0, 1) := by decide +kernel
theorem dX10_lowers_17 : decode cX10_lowers 17 = .ok (.getfield 18, 3) := by decide +kernel
theorem dX10_lowers_20 : decode cX10_lowers 20 = .ok (.iload 4, 2) := by decide +kernel
theorem dX10_lowers_22 : decode cX10_lowers 22 = .ok (.iaload, 1) := by decide +kernel
theorem dX10_lowers_23 : decode cX10_lowers 23 = .ok (.ifCond .ne 5, 3) := by decide +kernel
theorem dX10_lowers_26 : decode cX10_lowers 26 = .ok (.iconst 0, 1) := by decide +kernel
theorem dX10_lowers_27 : decode cX10_lowers 27 = .ok (.ireturn, 1) := by decide +kernel
theorem dX10_lowers_28 : decode cX10_lowers 28 = .ok (.aload_n 0, 1) := by decide +kernel
theorem dX10_lowers_29 : decode cX10_lowers 29 = .ok (.getfield 22, 3) := by decide +kernel
theorem dX10_lowers_32 : decode cX10_lowers 32 = .ok (.iload 4, 2) := by decide +kernel
theorem dX10_lowers_34 : decode cX10_lowers 34 = .ok (.laload, 1) := by decide +kernel
theorem dX10_lowers_35 : decode cX10_lowers 35 = .ok (.aload_n 1, 1) := by decide +kernel
theorem dX10_lowers_36 : decode cX10_lowers 36 = .ok (.iload_n 2, 1) := by decide +kernel
theorem dX10_lowers_37 : decode cX10_lowers 37 = .ok (.iload_n 3, 1) := by decide +kernel
theorem dX10_lowers_38 : decode cX10_lowers 38 = .ok (.invokestatic 73, 3) := by decide +kernel
theorem dX10_lowers_41 : decode cX10_lowers 41 = .ok (.ladd, 1) := by decide +kernel
theorem dX10_lowers_42 : decode cX10_lowers 42 = .ok (.lstore 6, 2) := by decide +kernel
theorem dX10_lowers_44 : decode cX10_lowers 44 = .ok (.aload_n 0, 1) := by decide +kernel
theorem dX10_lowers_45 : decode cX10_lowers 45 = .ok (.getfield 18, 3) := by decide +kernel
theorem dX10_lowers_48 : decode cX10_lowers 48 = .ok (.iload 5, 2) := by decide +kernel
theorem dX10_lowers_50 : decode cX10_lowers 50 = .ok (.iaload, 1) := by decide +kernel
theorem dX10_lowers_51 : decode cX10_lowers 51 = .ok (.ifCond .eq 48, 3) := by decide +kernel
theorem dX10_lowers_54 : decode cX10_lowers 54 = .ok (.lload 6, 2) := by decide +kernel
theorem dX10_lowers_56 : decode cX10_lowers 56 = .ok (.aload_n 0, 1) := by decide +kernel
theorem dX10_lowers_57 : decode cX10_lowers 57 = .ok (.getfield 22, 3) := by decide +kernel
theorem dX10_lowers_60 : decode cX10_lowers 60 = .ok (.iload 5, 2) := by decide +kernel
theorem dX10_lowers_62 : decode cX10_lowers 62 = .ok (.laload, 1) := by decide +kernel
theorem dX10_lowers_63 : decode cX10_lowers 63 = .ok (.lcmp, 1) := by decide +kernel
theorem dX10_lowers_64 : decode cX10_lowers 64 = .ok (.ifCond .lt 35, 3) := by decide +kernel
theorem dX10_lowers_67 : decode cX10_lowers 67 = .ok (.lload 6, 2) := by decide +kernel
theorem dX10_lowers_69 : decode cX10_lowers 69 = .ok (.aload_n 0, 1) := by decide +kernel
theorem dX10_lowers_70 : decode cX10_lowers 70 = .ok (.getfield 22, 3) := by decide +kernel
theorem dX10_lowers_73 : decode cX10_lowers 73 = .ok (.iload 5, 2) := by decide +kernel
theorem dX10_lowers_75 : decode cX10_lowers 75 = .ok (.laload, 1) := by decide +kernel
theorem dX10_lowers_76 : decode cX10_lowers 76 = .ok (.lcmp, 1) := by decide +kernel
theorem dX10_lowers_77 : decode cX10_lowers 77 = .ok (.ifCond .ne 26, 3) := by decide +kernel
theorem dX10_lowers_80 : decode cX10_lowers 80 = .ok (.aload_n 0, 1) := by decide +kernel
theorem dX10_lowers_81 : decode cX10_lowers 81 = .ok (.getfield 26, 3) := by decide +kernel
theorem dX10_lowers_84 : decode cX10_lowers 84 = .ok (.iload 4, 2) := by decide +kernel
theorem dX10_lowers_86 : decode cX10_lowers 86 = .ok (.iaload, 1) := by decide +kernel
theorem dX10_lowers_87 : decode cX10_lowers 87 = .ok (.iconst 1, 1) := by decide +kernel
theorem dX10_lowers_88 : decode cX10_lowers 88 = .ok (.iadd, 1) := by decide +kernel
theorem dX10_lowers_89 : decode cX10_lowers 89 = .ok (.aload_n 0, 1) := by decide +kernel
theorem dX10_lowers_90 : decode cX10_lowers 90 = .ok (.getfield 26, 3) := by decide +kernel
theorem dX10_lowers_93 : decode cX10_lowers 93 = .ok (.iload 5, 2) := by decide +kernel
theorem dX10_lowers_95 : decode cX10_lowers 95 = .ok (.iaload, 1) := by decide +kernel
theorem dX10_lowers_96 : decode cX10_lowers 96 = .ok (.if_icmp .ge 7, 3) := by decide +kernel
theorem dX10_lowers_99 : decode cX10_lowers 99 = .ok (.iconst 1, 1) := by decide +kernel
theorem dX10_lowers_100 : decode cX10_lowers 100 = .ok (.goto 4, 3) := by decide +kernel
theorem dX10_lowers_103 : decode cX10_lowers 103 = .ok (.iconst 0, 1) := by decide +kernel
theorem dX10_lowers_104 : decode cX10_lowers 104 = .ok (.ireturn, 1) := by decide +kernel
theorem fX10_67 : lkF (gS, X) RX10 67 3 8 "GraphEngine$Graph" RX3 TX3 14 := ⟨rfl, inX3, by decide, (tb_t (k := 324) (w := Cond.fieldLink RX10 67 "GraphEngine$Graph" "tail" "[I") (by decide +kernel)), Or.inl rfl⟩
theorem fX10_70 : lkF (gS, X) RX10 70 3 9 "GraphEngine$Graph" RX3 TX3 14 := ⟨rfl, inX3, by decide, (tb_t (k := 329) (w := Cond.fieldLink RX10 70 "GraphEngine$Graph" "head" "[I") (by decide +kernel)), Or.inl rfl⟩
theorem kX10_73 : lkK (gS, X) RX10 73 mX10_priceOf 3 ∧ Cond.static yX10_priceOf ∈ g_ws (gS, X) := ⟨⟨tb_good, (tb_t (k := 659) (w := Cond.methodLink RX10 73 yX10_priceOf) (by decide +kernel)), (tb_t (k := 16) (w := Cond.initialized RX10) (by decide +kernel)), (tb_t (k := 661) (w := Cond.code yX10_priceOf cX10_priceOf 3 (some .long)) (by decide +kernel)), by decide +kernel, by decide⟩, (tb_t (k := 660) (w := Cond.static yX10_priceOf) (by decide +kernel))⟩
theorem dX10_lowerAll_0 : decode cX10_lowerAll 0 = .ok (.iconst 1, 1) := by decide +kernel
theorem dX10_lowerAll_1 : decode cX10_lowerAll 1 = .ok (.istore_n 3, 1) := by decide +kernel
theorem dX10_lowerAll_2 : decode cX10_lowerAll 2 = .ok (.iconst 1, 1) := by decide +kernel
theorem dX10_lowerAll_3 : decode cX10_lowerAll 3 = .ok (.istore 4, 2) := by decide +kernel
theorem dX10_lowerAll_5 : decode cX10_lowerAll 5 = .ok (.iload 4, 2) := by decide +kernel
theorem dX10_lowerAll_7 : decode cX10_lowerAll 7 = .ok (.aload_n 0, 1) := by decide +kernel
theorem dX10_lowerAll_8 : decode cX10_lowerAll 8 = .ok (.getfield 15, 3) := by decide +kernel
theorem dX10_lowerAll_11 : decode cX10_lowerAll 11 = .ok (.if_icmp .ge 110, 3) := by decide +kernel
theorem dX10_lowerAll_14 : decode cX10_lowerAll 14 = .ok (.iload_n 3, 1) := by decide +kernel
theorem dX10_lowerAll_15 : decode cX10_lowerAll 15 = .ok (.ifCond .eq 106, 3) := by decide +kernel
theorem dX10_lowerAll_18 : decode cX10_lowerAll 18 = .ok (.iconst 0, 1) := by decide +kernel
theorem dX10_lowerAll_19 : decode cX10_lowerAll 19 = .ok (.istore_n 3, 1) := by decide +kernel
theorem dX10_lowerAll_20 : decode cX10_lowerAll 20 = .ok (.iconst 0, 1) := by decide +kernel
theorem dX10_lowerAll_21 : decode cX10_lowerAll 21 = .ok (.istore 5, 2) := by decide +kernel
theorem dX10_lowerAll_23 : decode cX10_lowerAll 23 = .ok (.iload 5, 2) := by decide +kernel
theorem dX10_lowerAll_25 : decode cX10_lowerAll 25 = .ok (.aload_n 1, 1) := by decide +kernel
theorem dX10_lowerAll_26 : decode cX10_lowerAll 26 = .ok (.getfield 77, 3) := by decide +kernel
theorem dX10_lowerAll_29 : decode cX10_lowerAll 29 = .ok (.if_icmp .ge 86, 3) := by decide +kernel
theorem dX10_lowerAll_32 : decode cX10_lowerAll 32 = .ok (.aload_n 0, 1) := by decide +kernel
theorem dX10_lowerAll_33 : decode cX10_lowerAll 33 = .ok (.aload_n 1, 1) := by decide +kernel
theorem dX10_lowerAll_34 : decode cX10_lowerAll 34 = .ok (.iload_n 2, 1) := by decide +kernel
theorem dX10_lowerAll_35 : decode cX10_lowerAll 35 = .ok (.iload 5, 2) := by decide +kernel
theorem dX10_lowerAll_37 : decode cX10_lowerAll 37 = .ok (.invokevirtual 80, 3) := by decide +kernel
theorem dX10_lowerAll_40 : decode cX10_lowerAll 40 = .ok (.ifCond .eq 69, 3) := by decide +kernel
theorem dX10_lowerAll_43 : decode cX10_lowerAll 43 = .ok (.aload_n 1, 1) := by decide +kernel
theorem dX10_lowerAll_44 : decode cX10_lowerAll 44 = .ok (.getfield 67, 3) := by decide +kernel
theorem dX10_lowerAll_47 : decode cX10_lowerAll 47 = .ok (.iload 5, 2) := by decide +kernel
theorem dX10_lowerAll_49 : decode cX10_lowerAll 49 = .ok (.iaload, 1) := by decide +kernel
theorem dX10_lowerAll_50 : decode cX10_lowerAll 50 = .ok (.istore 6, 2) := by decide +kernel
theorem dX10_lowerAll_52 : decode cX10_lowerAll 52 = .ok (.aload_n 1, 1) := by decide +kernel
theorem dX10_lowerAll_53 : decode cX10_lowerAll 53 = .ok (.getfield 70, 3) := by decide +kernel
theorem dX10_lowerAll_56 : decode cX10_lowerAll 56 = .ok (.iload 5, 2) := by decide +kernel
theorem dX10_lowerAll_58 : decode cX10_lowerAll 58 = .ok (.iaload, 1) := by decide +kernel
theorem dX10_lowerAll_59 : decode cX10_lowerAll 59 = .ok (.istore 7, 2) := by decide +kernel
theorem dX10_lowerAll_61 : decode cX10_lowerAll 61 = .ok (.aload_n 0, 1) := by decide +kernel
theorem dX10_lowerAll_62 : decode cX10_lowerAll 62 = .ok (.getfield 18, 3) := by decide +kernel
theorem dX10_lowerAll_65 : decode cX10_lowerAll 65 = .ok (.iload 7, 2) := by decide +kernel
theorem dX10_lowerAll_67 : decode cX10_lowerAll 67 = .ok (.iconst 1, 1) := by decide +kernel
theorem dX10_lowerAll_68 : decode cX10_lowerAll 68 = .ok (.iastore, 1) := by decide +kernel
theorem dX10_lowerAll_69 : decode cX10_lowerAll 69 = .ok (.aload_n 0, 1) := by decide +kernel
theorem dX10_lowerAll_70 : decode cX10_lowerAll 70 = .ok (.getfield 22, 3) := by decide +kernel
theorem dX10_lowerAll_73 : decode cX10_lowerAll 73 = .ok (.iload 7, 2) := by decide +kernel
theorem dX10_lowerAll_75 : decode cX10_lowerAll 75 = .ok (.aload_n 0, 1) := by decide +kernel
theorem dX10_lowerAll_76 : decode cX10_lowerAll 76 = .ok (.getfield 22, 3) := by decide +kernel
theorem dX10_lowerAll_79 : decode cX10_lowerAll 79 = .ok (.iload 6, 2) := by decide +kernel
theorem dX10_lowerAll_81 : decode cX10_lowerAll 81 = .ok (.laload, 1) := by decide +kernel
theorem dX10_lowerAll_82 : decode cX10_lowerAll 82 = .ok (.aload_n 1, 1) := by decide +kernel
theorem dX10_lowerAll_83 : decode cX10_lowerAll 83 = .ok (.iload_n 2, 1) := by decide +kernel
theorem dX10_lowerAll_84 : decode cX10_lowerAll 84 = .ok (.iload 5, 2) := by decide +kernel
theorem dX10_lowerAll_86 : decode cX10_lowerAll 86 = .ok (.invokestatic 73, 3) := by decide +kernel
theorem dX10_lowerAll_89 : decode cX10_lowerAll 89 = .ok (.ladd, 1) := by decide +kernel
theorem dX10_lowerAll_90 : decode cX10_lowerAll 90 = .ok (.lastore, 1) := by decide +kernel
theorem dX10_lowerAll_91 : decode cX10_lowerAll 91 = .ok (.aload_n 0, 1) := by decide +kernel
theorem dX10_lowerAll_92 : decode cX10_lowerAll 92 = .ok (.getfield 26, 3) := by decide +kernel
theorem dX10_lowerAll_95 : decode cX10_lowerAll 95 = .ok (.iload 7, 2) := by decide +kernel
theorem dX10_lowerAll_97 : decode cX10_lowerAll 97 = .ok (.aload_n 0, 1) := by decide +kernel
theorem dX10_lowerAll_98 : decode cX10_lowerAll 98 = .ok (.getfield 26, 3) := by decide +kernel
theorem dX10_lowerAll_101 : decode cX10_lowerAll 101 = .ok (.iload 6, 2) := by decide +kernel
theorem dX10_lowerAll_103 : decode cX10_lowerAll 103 = .ok (.iaload, 1) := by decide +kernel
theorem dX10_lowerAll_104 : decode cX10_lowerAll 104 = .ok (.iconst 1, 1) := by decide +kernel
theorem dX10_lowerAll_105 : decode cX10_lowerAll 105 = .ok (.iadd, 1) := by decide +kernel
theorem dX10_lowerAll_106 : decode cX10_lowerAll 106 = .ok (.iastore, 1) := by decide +kernel
theorem dX10_lowerAll_107 : decode cX10_lowerAll 107 = .ok (.iconst 1, 1) := by decide +kernel
theorem dX10_lowerAll_108 : decode cX10_lowerAll 108 = .ok (.istore_n 3, 1) := by decide +kernel
theorem dX10_lowerAll_109 : decode cX10_lowerAll 109 = .ok (.iinc 5 1, 3) := by decide +kernel
theorem dX10_lowerAll_112 : decode cX10_lowerAll 112 = .ok (.goto (-89), 3) := by decide +kernel
theorem dX10_lowerAll_115 : decode cX10_lowerAll 115 = .ok (.iinc 4 1, 3) := by decide +kernel
theorem dX10_lowerAll_118 : decode cX10_lowerAll 118 = .ok (.goto (-113), 3) := by decide +kernel
theorem dX10_lowerAll_121 : decode cX10_lowerAll 121 = .ok (.return_, 1) := by decide +kernel
theorem fX10_77 : lkF (gS, X) RX10 77 3 7 "GraphEngine$Graph" RX3 TX3 14 := ⟨rfl, inX3, by decide, (tb_t (k := 320) (w := Cond.fieldLink RX10 77 "GraphEngine$Graph" "goings" "I") (by decide +kernel)), Or.inl rfl⟩
theorem kX10_80 : lkK (gS, X) RX10 80 mX10_lowers 3 ∧ Cond.instanceMethod yX10_lowers ∈ g_ws (gS, X) ∧ Cond.selects RX10 yX10_lowers yX10_lowers ∈ g_ws (gS, X) ∧ yX10_lowers.cls = RX10 := ⟨⟨tb_good, (tb_t (k := 655) (w := Cond.methodLink RX10 80 yX10_lowers) (by decide +kernel)), (tb_t (k := 16) (w := Cond.initialized RX10) (by decide +kernel)), (tb_t (k := 658) (w := Cond.code yX10_lowers cX10_lowers 8 (some .boolean)) (by decide +kernel)), by decide +kernel, by decide⟩, (tb_t (k := 657) (w := Cond.instanceMethod yX10_lowers) (by decide +kernel)), (tb_p (k := 28) (q := (yX10_lowers, 6)) (by decide +kernel)), rfl⟩
theorem dX10_markEndless_0 : decode cX10_markEndless 0 = .ok (.iconst 0, 1) := by decide +kernel
theorem dX10_markEndless_1 : decode cX10_markEndless 1 = .ok (.istore_n 3, 1) := by decide +kernel
theorem dX10_markEndless_2 : decode cX10_markEndless 2 = .ok (.iconst 0, 1) := by decide +kernel
theorem dX10_markEndless_3 : decode cX10_markEndless 3 = .ok (.istore 4, 2) := by decide +kernel
theorem dX10_markEndless_5 : decode cX10_markEndless 5 = .ok (.iload 4, 2) := by decide +kernel
theorem dX10_markEndless_7 : decode cX10_markEndless 7 = .ok (.aload_n 1, 1) := by decide +kernel
theorem dX10_markEndless_8 : decode cX10_markEndless 8 = .ok (.getfield 77, 3) := by decide +kernel
theorem dX10_markEndless_11 : decode cX10_markEndless 11 = .ok (.if_icmp .ge 32, 3) := by decide +kernel
theorem dX10_markEndless_14 : decode cX10_markEndless 14 = .ok (.aload_n 0, 1) := by decide +kernel
theorem dX10_markEndless_15 : decode cX10_markEndless 15 = .ok (.aload_n 1, 1) := by decide +kernel
theorem dX10_markEndless_16 : decode cX10_markEndless 16 = .ok (.iload_n 2, 1) := by decide +kernel
theorem dX10_markEndless_17 : decode cX10_markEndless 17 = .ok (.iload 4, 2) := by decide +kernel
theorem dX10_markEndless_19 : decode cX10_markEndless 19 = .ok (.invokevirtual 80, 3) := by decide +kernel
theorem dX10_markEndless_22 : decode cX10_markEndless 22 = .ok (.ifCond .eq 15, 3) := by decide +kernel
theorem dX10_markEndless_25 : decode cX10_markEndless 25 = .ok (.iload_n 3, 1) := by decide +kernel
theorem dX10_markEndless_26 : decode cX10_markEndless 26 = .ok (.iconst 1, 1) := by decide +kernel
theorem dX10_markEndless_27 : decode cX10_markEndless 27 = .ok (.aload_n 1, 1) := by decide +kernel
theorem dX10_markEndless_28 : decode cX10_markEndless 28 = .ok (.getfield 70, 3) := by decide +kernel
theorem dX10_markEndless_31 : decode cX10_markEndless 31 = .ok (.iload 4, 2) := by decide +kernel
theorem dX10_markEndless_33 : decode cX10_markEndless 33 = .ok (.iaload, 1) := by decide +kernel
theorem dX10_markEndless_34 : decode cX10_markEndless 34 = .ok (.ishl, 1) := by decide +kernel
theorem dX10_markEndless_35 : decode cX10_markEndless 35 = .ok (.ior, 1) := by decide +kernel
theorem dX10_markEndless_36 : decode cX10_markEndless 36 = .ok (.istore_n 3, 1) := by decide +kernel
theorem dX10_markEndless_37 : decode cX10_markEndless 37 = .ok (.iinc 4 1, 3) := by decide +kernel
theorem dX10_markEndless_40 : decode cX10_markEndless 40 = .ok (.goto (-35), 3) := by decide +kernel
theorem dX10_markEndless_43 : decode cX10_markEndless 43 = .ok (.aload_n 1, 1) := by decide +kernel
theorem dX10_markEndless_44 : decode cX10_markEndless 44 = .ok (.getfield 84, 3) := by decide +kernel
theorem dX10_markEndless_47 : decode cX10_markEndless 47 = .ok (.iload_n 3, 1) := by decide +kernel
theorem dX10_markEndless_48 : decode cX10_markEndless 48 = .ok (.aload_n 1, 1) := by decide +kernel
theorem dX10_markEndless_49 : decode cX10_markEndless 49 = .ok (.invokevirtual 87, 3) := by decide +kernel
theorem dX10_markEndless_52 : decode cX10_markEndless 52 = .ok (.invokestatic 91, 3) := by decide +kernel
theorem dX10_markEndless_55 : decode cX10_markEndless 55 = .ok (.istore 4, 2) := by decide +kernel
theorem dX10_markEndless_57 : decode cX10_markEndless 57 = .ok (.iconst 0, 1) := by decide +kernel
theorem dX10_markEndless_58 : decode cX10_markEndless 58 = .ok (.istore 5, 2) := by decide +kernel
theorem dX10_markEndless_60 : decode cX10_markEndless 60 = .ok (.iload 5, 2) := by decide +kernel
theorem dX10_markEndless_62 : decode cX10_markEndless 62 = .ok (.aload_n 0, 1) := by decide +kernel
theorem dX10_markEndless_63 : decode cX10_markEndless 63 = .ok (.getfield 15, 3) := by decide +kernel
theorem dX10_markEndless_66 : decode cX10_markEndless 66 = .ok (.if_icmp .ge 51, 3) := by decide +kernel
theorem dX10_markEndless_69 : decode cX10_markEndless 69 = .ok (.iload 4, 2) := by decide +kernel
theorem dX10_markEndless_71 : decode cX10_markEndless 71 = .ok (.iload 5, 2) := by decide +kernel
theorem dX10_markEndless_73 : decode cX10_markEndless 73 = .ok (.ishr, 1) := by decide +kernel
theorem dX10_markEndless_74 : decode cX10_markEndless 74 = .ok (.iconst 1, 1) := by decide +kernel
theorem dX10_markEndless_75 : decode cX10_markEndless 75 = .ok (.iand, 1) := by decide +kernel
theorem dX10_markEndless_76 : decode cX10_markEndless 76 = .ok (.ifCond .eq 35, 3) := by decide +kernel
theorem dX10_markEndless_79 : decode cX10_markEndless 79 = .ok (.aload_n 0, 1) := by decide +kernel
theorem dX10_markEndless_80 : decode cX10_markEndless 80 = .ok (.getfield 18, 3) := by decide +kernel
theorem dX10_markEndless_83 : decode cX10_markEndless 83 = .ok (.iload 5, 2) := by decide +kernel
theorem dX10_markEndless_85 : decode cX10_markEndless 85 = .ok (.iconst 2, 1) := by decide +kernel
theorem dX10_markEndless_86 : decode cX10_markEndless 86 = .ok (.iastore, 1) := by decide +kernel
theorem dX10_markEndless_87 : decode cX10_markEndless 87 = .ok (.aload_n 0, 1) := by decide +kernel
theorem dX10_markEndless_88 : decode cX10_markEndless 88 = .ok (.getfield 22, 3) := by decide +kernel
theorem dX10_markEndless_91 : decode cX10_markEndless 91 = .ok (.iload 5, 2) := by decide +kernel
theorem dX10_markEndless_93 : decode cX10_markEndless 93 = .ok (.lconst 0, 1) := by decide +kernel
theorem dX10_markEndless_94 : decode cX10_markEndless 94 = .ok (.lastore, 1) := by decide +kernel
theorem dX10_markEndless_95 : decode cX10_markEndless 95 = .ok (.aload_n 0, 1) := by decide +kernel
theorem dX10_markEndless_96 : decode cX10_markEndless 96 = .ok (.getfield 26, 3) := by decide +kernel
theorem dX10_markEndless_99 : decode cX10_markEndless 99 = .ok (.iload 5, 2) := by decide +kernel
theorem dX10_markEndless_101 : decode cX10_markEndless 101 = .ok (.iconst (-1), 1) := by decide +kernel
theorem dX10_markEndless_102 : decode cX10_markEndless 102 = .ok (.iastore, 1) := by decide +kernel
theorem dX10_markEndless_103 : decode cX10_markEndless 103 = .ok (.aload_n 0, 1) := by decide +kernel
theorem dX10_markEndless_104 : decode cX10_markEndless 104 = .ok (.getfield 29, 3) := by decide +kernel
theorem dX10_markEndless_107 : decode cX10_markEndless 107 = .ok (.iload 5, 2) := by decide +kernel
theorem dX10_markEndless_109 : decode cX10_markEndless 109 = .ok (.lconst 0, 1) := by decide +kernel
theorem dX10_markEndless_110 : decode cX10_markEndless 110 = .ok (.lastore, 1) := by decide +kernel
theorem dX10_markEndless_111 : decode cX10_markEndless 111 = .ok (.iinc 5 1, 3) := by decide +kernel
theorem dX10_markEndless_114 : decode cX10_markEndless 114 = .ok (.goto (-54), 3) := by decide +kernel
theorem dX10_markEndless_117 : decode cX10_markEndless 117 = .ok (.return_, 1) := by decide +kernel
theorem fX10_84 : lkF (gS, X) RX10 84 3 11 "GraphEngine$Graph" RX3 TX3 14 := ⟨rfl, inX3, by decide, (tb_t (k := 340) (w := Cond.fieldLink RX10 84 "GraphEngine$Graph" "out" "[I") (by decide +kernel)), Or.inl rfl⟩
theorem kX10_87 : lkK (gS, X) RX10 87 mX3_allNodes 0 ∧ Cond.instanceMethod yX3_allNodes ∈ g_ws (gS, X) ∧ Cond.selects RX3 yX3_allNodes yX3_allNodes ∈ g_ws (gS, X) ∧ yX3_allNodes.cls = RX3 := ⟨⟨tb_good, (tb_t (k := 666) (w := Cond.methodLink RX10 87 yX3_allNodes) (by decide +kernel)), (tb_t (k := 10) (w := Cond.initialized RX3) (by decide +kernel)), (tb_t (k := 427) (w := Cond.code yX3_allNodes cX3_allNodes 1 (some .int)) (by decide +kernel)), by decide +kernel, by decide⟩, (tb_t (k := 425) (w := Cond.instanceMethod yX3_allNodes) (by decide +kernel)), (tb_t (k := 426) (w := Cond.selects RX3 yX3_allNodes yX3_allNodes) (by decide +kernel)), rfl⟩
theorem kX10_91 : lkK (gS, X) RX10 91 mX8_reach 3 ∧ Cond.static yX8_reach ∈ g_ws (gS, X) := ⟨⟨tb_good, (tb_t (k := 667) (w := Cond.methodLink RX10 91 yX8_reach) (by decide +kernel)), (tb_t (k := 3) (w := Cond.initialized RX8) (by decide +kernel)), (tb_t (k := 579) (w := Cond.code yX8_reach cX8_reach 6 (some .int)) (by decide +kernel)), by decide +kernel, by decide⟩, (tb_t (k := 578) (w := Cond.static yX8_reach) (by decide +kernel))⟩
theorem dX10_traceLow_0 : decode cX10_traceLow 0 = .ok (.iconst 1, 1) := by decide +kernel
theorem dX10_traceLow_1 : decode cX10_traceLow 1 = .ok (.istore_n 3, 1) := by decide +kernel
theorem dX10_traceLow_2 : decode cX10_traceLow 2 = .ok (.iload_n 3, 1) := by decide +kernel
theorem dX10_traceLow_3 : decode cX10_traceLow 3 = .ok (.aload_n 0, 1) := by decide +kernel
theorem dX10_traceLow_4 : decode cX10_traceLow 4 = .ok (.getfield 15, 3) := by decide +kernel
theorem dX10_traceLow_7 : decode cX10_traceLow 7 = .ok (.if_icmp .ge 57, 3) := by decide +kernel
theorem dX10_traceLow_10 : decode cX10_traceLow 10 = .ok (.iconst 0, 1) := by decide +kernel
theorem dX10_traceLow_11 : decode cX10_traceLow 11 = .ok (.istore 4, 2) := by decide +kernel
theorem dX10_traceLow_13 : decode cX10_traceLow 13 = .ok (.iload 4, 2) := by decide +kernel
theorem dX10_traceLow_15 : decode cX10_traceLow 15 = .ok (.aload_n 0, 1) := by decide +kernel
theorem dX10_traceLow_16 : decode cX10_traceLow 16 = .ok (.getfield 15, 3) := by decide +kernel
theorem dX10_traceLow_19 : decode cX10_traceLow 19 = .ok (.if_icmp .ge 39, 3) := by decide +kernel
theorem dX10_traceLow_22 : decode cX10_traceLow 22 = .ok (.aload_n 0, 1) := by decide +kernel
theorem dX10_traceLow_23 : decode cX10_traceLow 23 = .ok (.getfield 18, 3) := by decide +kernel
theorem dX10_traceLow_26 : decode cX10_traceLow 26 = .ok (.iload 4, 2) := by decide +kernel
theorem dX10_traceLow_28 : decode cX10_traceLow 28 = .ok (.iaload, 1) := by decide +kernel
theorem dX10_traceLow_29 : decode cX10_traceLow 29 = .ok (.iconst 1, 1) := by decide +kernel
theorem dX10_traceLow_30 : decode cX10_traceLow 30 = .ok (.if_icmp .ne 22, 3) := by decide +kernel
theorem dX10_traceLow_33 : decode cX10_traceLow 33 = .ok (.aload_n 0, 1) := by decide +kernel
theorem dX10_traceLow_34 : decode cX10_traceLow 34 = .ok (.getfield 26, 3) := by decide +kernel
theorem dX10_traceLow_37 : decode cX10_traceLow 37 = .ok (.iload 4, 2) := by decide +kernel
theorem dX10_traceLow_39 : decode cX10_traceLow 39 = .ok (.iaload, 1) := by decide +kernel
theorem dX10_traceLow_40 : decode cX10_traceLow 40 = .ok (.iload_n 3, 1) := by decide +kernel
theorem dX10_traceLow_41 : decode cX10_traceLow 41 = .ok (.if_icmp .ne 11, 3) := by decide +kernel
theorem dX10_traceLow_44 : decode cX10_traceLow 44 = .ok (.aload_n 0, 1) := by decide +kernel
theorem dX10_traceLow_45 : decode cX10_traceLow 45 = .ok (.aload_n 1, 1) := by decide +kernel
theorem dX10_traceLow_46 : decode cX10_traceLow 46 = .ok (.iload_n 2, 1) := by decide +kernel
theorem dX10_traceLow_47 : decode cX10_traceLow 47 = .ok (.iload 4, 2) := by decide +kernel
theorem dX10_traceLow_49 : decode cX10_traceLow 49 = .ok (.invokevirtual 97, 3) := by decide +kernel
theorem dX10_traceLow_52 : decode cX10_traceLow 52 = .ok (.iinc 4 1, 3) := by decide +kernel
theorem dX10_traceLow_55 : decode cX10_traceLow 55 = .ok (.goto (-42), 3) := by decide +kernel
theorem dX10_traceLow_58 : decode cX10_traceLow 58 = .ok (.iinc 3 1, 3) := by decide +kernel
theorem dX10_traceLow_61 : decode cX10_traceLow 61 = .ok (.goto (-59), 3) := by decide +kernel
theorem dX10_traceLow_64 : decode cX10_traceLow 64 = .ok (.return_, 1) := by decide +kernel
theorem kX10_97 : lkK (gS, X) RX10 97 mX10_traceLowTo 3 ∧ Cond.instanceMethod yX10_traceLowTo ∈ g_ws (gS, X) ∧ Cond.selects RX10 yX10_traceLowTo yX10_traceLowTo ∈ g_ws (gS, X) ∧ yX10_traceLowTo.cls = RX10 := ⟨⟨tb_good, (tb_t (k := 672) (w := Cond.methodLink RX10 97 yX10_traceLowTo) (by decide +kernel)), (tb_t (k := 16) (w := Cond.initialized RX10) (by decide +kernel)), (tb_t (k := 675) (w := Cond.code yX10_traceLowTo cX10_traceLowTo 9 none) (by decide +kernel)), by decide +kernel, by decide⟩, (tb_t (k := 674) (w := Cond.instanceMethod yX10_traceLowTo) (by decide +kernel)), (tb_p (k := 31) (q := (yX10_traceLowTo, 6)) (by decide +kernel)), rfl⟩
theorem dX10_traceLowTo_0 : decode cX10_traceLowTo 0 = .ok (.iconst 0, 1) := by decide +kernel
theorem dX10_traceLowTo_1 : decode cX10_traceLowTo 1 = .ok (.istore 4, 2) := by decide +kernel
theorem dX10_traceLowTo_3 : decode cX10_traceLowTo 3 = .ok (.aload_n 0, 1) := by decide +kernel
theorem dX10_traceLowTo_4 : decode cX10_traceLowTo 4 = .ok (.getfield 26, 3) := by decide +kernel
theorem dX10_traceLowTo_7 : decode cX10_traceLowTo 7 = .ok (.iload_n 3, 1) := by decide +kernel
theorem dX10_traceLowTo_8 : decode cX10_traceLowTo 8 = .ok (.iaload, 1) := by decide +kernel
theorem dX10_traceLowTo_9 : decode cX10_traceLowTo 9 = .ok (.istore 5, 2) := by decide +kernel
theorem dX10_traceLowTo_11 : decode cX10_traceLowTo 11 = .ok (.iconst 0, 1) := by decide +kernel
theorem dX10_traceLowTo_12 : decode cX10_traceLowTo 12 = .ok (.istore 6, 2) := by decide +kernel
theorem dX10_traceLowTo_14 : decode cX10_traceLowTo 14 = .ok (.iload 6, 2) := by decide +kernel
theorem dX10_traceLowTo_16 : decode cX10_traceLowTo 16 = .ok (.aload_n 1, 1) := by decide +kernel
theorem dX10_traceLowTo_17 : decode cX10_traceLowTo 17 = .ok (.getfield 77, 3) := by decide +kernel
theorem dX10_traceLowTo_20 : decode cX10_traceLowTo 20 = .ok (.if_icmp .ge 166, 3) := by decide +kernel
theorem dX10_traceLowTo_23 : decode cX10_traceLowTo 23 = .ok (.aload_n 1, 1) := by decide +kernel
theorem dX10_traceLowTo_24 : decode cX10_traceLowTo 24 = .ok (.getfield 67, 3) := by decide +kernel
theorem dX10_traceLowTo_27 : decode cX10_traceLowTo 27 = .ok (.iload 6, 2) := by decide +kernel
theorem dX10_traceLowTo_29 : decode cX10_traceLowTo 29 = .ok (.iaload, 1) := by decide +kernel
theorem dX10_traceLowTo_30 : decode cX10_traceLowTo 30 = .ok (.istore 7, 2) := by decide +kernel
theorem dX10_traceLowTo_32 : decode cX10_traceLowTo 32 = .ok (.aload_n 1, 1) := by decide +kernel
theorem dX10_traceLowTo_33 : decode cX10_traceLowTo 33 = .ok (.getfield 70, 3) := by decide +kernel
theorem dX10_traceLowTo_36 : decode cX10_traceLowTo 36 = .ok (.iload 6, 2) := by decide +kernel
theorem dX10_traceLowTo_38 : decode cX10_traceLowTo 38 = .ok (.iaload, 1) := by decide +kernel
theorem dX10_traceLowTo_39 : decode cX10_traceLowTo 39 = .ok (.iload_n 3, 1) := by decide +kernel
theorem dX10_traceLowTo_40 : decode cX10_traceLowTo 40 = .ok (.if_icmp .ne 57, 3) := by decide +kernel
theorem dX10_traceLowTo_43 : decode cX10_traceLowTo 43 = .ok (.aload_n 0, 1) := by decide +kernel
theorem dX10_traceLowTo_44 : decode cX10_traceLowTo 44 = .ok (.getfield 18, 3) := by decide +kernel
theorem dX10_traceLowTo_47 : decode cX10_traceLowTo 47 = .ok (.iload 7, 2) := by decide +kernel
theorem dX10_traceLowTo_49 : decode cX10_traceLowTo 49 = .ok (.iaload, 1) := by decide +kernel
theorem dX10_traceLowTo_50 : decode cX10_traceLowTo 50 = .ok (.iconst 1, 1) := by decide +kernel
theorem dX10_traceLowTo_51 : decode cX10_traceLowTo 51 = .ok (.if_icmp .ne 46, 3) := by decide +kernel
theorem dX10_traceLowTo_54 : decode cX10_traceLowTo 54 = .ok (.aload_n 0, 1) := by decide +kernel
theorem dX10_traceLowTo_55 : decode cX10_traceLowTo 55 = .ok (.getfield 26, 3) := by decide +kernel
theorem dX10_traceLowTo_58 : decode cX10_traceLowTo 58 = .ok (.iload 7, 2) := by decide +kernel
theorem dX10_traceLowTo_60 : decode cX10_traceLowTo 60 = .ok (.iaload, 1) := by decide +kernel
theorem dX10_traceLowTo_61 : decode cX10_traceLowTo 61 = .ok (.iload 5, 2) := by decide +kernel
theorem dX10_traceLowTo_63 : decode cX10_traceLowTo 63 = .ok (.iconst 1, 1) := by decide +kernel
theorem dX10_traceLowTo_64 : decode cX10_traceLowTo 64 = .ok (.isub, 1) := by decide +kernel
theorem dX10_traceLowTo_65 : decode cX10_traceLowTo 65 = .ok (.if_icmp .ne 32, 3) := by decide +kernel
theorem dX10_traceLowTo_68 : decode cX10_traceLowTo 68 = .ok (.aload_n 0, 1) := by decide +kernel
theorem dX10_traceLowTo_69 : decode cX10_traceLowTo 69 = .ok (.getfield 22, 3) := by decide +kernel
theorem dX10_traceLowTo_72 : decode cX10_traceLowTo 72 = .ok (.iload 7, 2) := by decide +kernel
theorem dX10_traceLowTo_74 : decode cX10_traceLowTo 74 = .ok (.laload, 1) := by decide +kernel
theorem dX10_traceLowTo_75 : decode cX10_traceLowTo 75 = .ok (.aload_n 1, 1) := by decide +kernel
theorem dX10_traceLowTo_76 : decode cX10_traceLowTo 76 = .ok (.iload_n 2, 1) := by decide +kernel
theorem dX10_traceLowTo_77 : decode cX10_traceLowTo 77 = .ok (.iload 6, 2) := by decide +kernel
theorem dX10_traceLowTo_79 : decode cX10_traceLowTo 79 = .ok (.invokestatic 73, 3) := by decide +kernel
theorem dX10_traceLowTo_82 : decode cX10_traceLowTo 82 = .ok (.ladd, 1) := by decide +kernel
theorem dX10_traceLowTo_83 : decode cX10_traceLowTo 83 = .ok (.aload_n 0, 1) := by decide +kernel
theorem dX10_traceLowTo_84 : decode cX10_traceLowTo 84 = .ok (.getfield 22, 3) := by decide +kernel
theorem dX10_traceLowTo_87 : decode cX10_traceLowTo 87 = .ok (.iload_n 3, 1) := by decide +kernel
theorem dX10_traceLowTo_88 : decode cX10_traceLowTo 88 = .ok (.laload, 1) := by decide +kernel
theorem dX10_traceLowTo_89 : decode cX10_traceLowTo 89 = .ok (.lcmp, 1) := by decide +kernel
theorem dX10_traceLowTo_90 : decode cX10_traceLowTo 90 = .ok (.ifCond .ne 7, 3) := by decide +kernel
theorem dX10_traceLowTo_93 : decode cX10_traceLowTo 93 = .ok (.iconst 1, 1) := by decide +kernel
theorem dX10_traceLowTo_94 : decode cX10_traceLowTo 94 = .ok (.goto 4, 3) := by decide +kernel
theorem dX10_traceLowTo_97 : decode cX10_traceLowTo 97 = .ok (.iconst 0, 1) := by decide +kernel
theorem dX10_traceLowTo_98 : decode cX10_traceLowTo 98 = .ok (.istore 8, 2) := by decide +kernel
theorem dX10_traceLowTo_100 : decode cX10_traceLowTo 100 = .ok (.iload 8, 2) := by decide +kernel
theorem dX10_traceLowTo_102 : decode cX10_traceLowTo 102 = .ok (.ifCond .eq 78, 3) := by decide +kernel
theorem dX10_traceLowTo_105 : decode cX10_traceLowTo 105 = .ok (.aload_n 0, 1) := by decide +kernel
theorem dX10_traceLowTo_106 : decode cX10_traceLowTo 106 = .ok (.getfield 29, 3) := by decide +kernel
theorem dX10_traceLowTo_109 : decode cX10_traceLowTo 109 = .ok (.iload_n 3, 1) := by decide +kernel
theorem dX10_traceLowTo_110 : decode cX10_traceLowTo 110 = .ok (.dup2, 1) := by decide +kernel
theorem dX10_traceLowTo_111 : decode cX10_traceLowTo 111 = .ok (.laload, 1) := by decide +kernel
theorem dX10_traceLowTo_112 : decode cX10_traceLowTo 112 = .ok (.aload_n 0, 1) := by decide +kernel
theorem dX10_traceLowTo_113 : decode cX10_traceLowTo 113 = .ok (.getfield 29, 3) := by decide +kernel
theorem dX10_traceLowTo_116 : decode cX10_traceLowTo 116 = .ok (.iload 7, 2) := by decide +kernel
theorem dX10_traceLowTo_118 : decode cX10_traceLowTo 118 = .ok (.laload, 1) := by decide +kernel
theorem dX10_traceLowTo_119 : decode cX10_traceLowTo 119 = .ok (.ladd, 1) := by decide +kernel
theorem dX10_traceLowTo_120 : decode cX10_traceLowTo 120 = .ok (.lastore, 1) := by decide +kernel
theorem dX10_traceLowTo_121 : decode cX10_traceLowTo 121 = .ok (.iload 4, 2) := by decide +kernel
theorem dX10_traceLowTo_123 : decode cX10_traceLowTo 123 = .ok (.ifCond .ne 57, 3) := by decide +kernel
theorem dX10_traceLowTo_126 : decode cX10_traceLowTo 126 = .ok (.aload_n 0, 1) := by decide +kernel
theorem dX10_traceLowTo_127 : decode cX10_traceLowTo 127 = .ok (.getfield 32, 3) := by decide +kernel
theorem dX10_traceLowTo_130 : decode cX10_traceLowTo 130 = .ok (.iload 7, 2) := by decide +kernel
theorem dX10_traceLowTo_132 : decode cX10_traceLowTo 132 = .ok (.aload_n 0, 1) := by decide +kernel
theorem dX10_traceLowTo_133 : decode cX10_traceLowTo 133 = .ok (.getfield 15, 3) := by decide +kernel
theorem dX10_traceLowTo_136 : decode cX10_traceLowTo 136 = .ok (.imul, 1) := by decide +kernel
theorem dX10_traceLowTo_137 : decode cX10_traceLowTo 137 = .ok (.aload_n 0, 1) := by decide +kernel
theorem dX10_traceLowTo_138 : decode cX10_traceLowTo 138 = .ok (.getfield 32, 3) := by decide +kernel
theorem dX10_traceLowTo_141 : decode cX10_traceLowTo 141 = .ok (.iload_n 3, 1) := by decide +kernel
theorem dX10_traceLowTo_142 : decode cX10_traceLowTo 142 = .ok (.aload_n 0, 1) := by decide +kernel
theorem dX10_traceLowTo_143 : decode cX10_traceLowTo 143 = .ok (.getfield 15, 3) := by decide +kernel
theorem dX10_traceLowTo_146 : decode cX10_traceLowTo 146 = .ok (.imul, 1) := by decide +kernel
theorem dX10_traceLowTo_147 : decode cX10_traceLowTo 147 = .ok (.iload 5, 2) := by decide +kernel
theorem dX10_traceLowTo_149 : decode cX10_traceLowTo 149 = .ok (.iconst 1, 1) := by decide +kernel
theorem dX10_traceLowTo_150 : decode cX10_traceLowTo 150 = .ok (.isub, 1) := by decide +kernel
theorem dX10_traceLowTo_151 : decode cX10_traceLowTo 151 = .ok (.invokestatic 101, 3) := by decide +kernel
theorem dX10_traceLowTo_154 : decode cX10_traceLowTo 154 = .ok (.aload_n 0, 1) := by decide +kernel
theorem dX10_traceLowTo_155 : decode cX10_traceLowTo 155 = .ok (.getfield 32, 3) := by decide +kernel
theorem dX10_traceLowTo_158 : decode cX10_traceLowTo 158 = .ok (.iload_n 3, 1) := by decide +kernel
theorem dX10_traceLowTo_159 : decode cX10_traceLowTo 159 = .ok (.aload_n 0, 1) := by decide +kernel
theorem dX10_traceLowTo_160 : decode cX10_traceLowTo 160 = .ok (.getfield 15, 3) := by decide +kernel
theorem dX10_traceLowTo_163 : decode cX10_traceLowTo 163 = .ok (.imul, 1) := by decide +kernel
theorem dX10_traceLowTo_164 : decode cX10_traceLowTo 164 = .ok (.iload 5, 2) := by decide +kernel
theorem dX10_traceLowTo_166 : decode cX10_traceLowTo 166 = .ok (.iadd, 1) := by decide +kernel
theorem dX10_traceLowTo_167 : decode cX10_traceLowTo 167 = .ok (.iconst 1, 1) := by decide +kernel
theorem dX10_traceLowTo_168 : decode cX10_traceLowTo 168 = .ok (.isub, 1) := by decide +kernel
theorem dX10_traceLowTo_169 : decode cX10_traceLowTo 169 = .ok (.aload_n 1, 1) := by decide +kernel
theorem dX10_traceLowTo_170 : decode cX10_traceLowTo 170 = .ok (.getfield 64, 3) := by decide +kernel
theorem dX10_traceLowTo_173 : decode cX10_traceLowTo 173 = .ok (.iload 6, 2) := by decide +kernel
theorem dX10_traceLowTo_175 : decode cX10_traceLowTo 175 = .ok (.iaload, 1) := by decide +kernel
theorem dX10_traceLowTo_176 : decode cX10_traceLowTo 176 = .ok (.iastore, 1) := by decide +kernel
theorem dX10_traceLowTo_177 : decode cX10_traceLowTo 177 = .ok (.iconst 1, 1) := by decide +kernel
theorem dX10_traceLowTo_178 : decode cX10_traceLowTo 178 = .ok (.istore 4, 2) := by decide +kernel
theorem dX10_traceLowTo_180 : decode cX10_traceLowTo 180 = .ok (.iinc 6 1, 3) := by decide +kernel
theorem dX10_traceLowTo_183 : decode cX10_traceLowTo 183 = .ok (.goto (-169), 3) := by decide +kernel
theorem dX10_traceLowTo_186 : decode cX10_traceLowTo 186 = .ok (.return_, 1) := by decide +kernel
theorem aX10_101 : lkA (gS, X) RX10 101 := ⟨(tb_t (k := 676) (w := Cond.methodLink RX10 101 arraycopyName) (by decide +kernel)), (tb_t (k := 272) (w := Cond.native arraycopyName) (by decide +kernel)), (tb_t (k := 271) (w := Cond.static arraycopyName) (by decide +kernel)), (tb_t (k := 13) (w := Cond.initialized "java/lang/System") (by decide +kernel))⟩
theorem dX10_widenAll_0 : decode cX10_widenAll 0 = .ok (.iconst 1, 1) := by decide +kernel
theorem dX10_widenAll_1 : decode cX10_widenAll 1 = .ok (.istore_n 2, 1) := by decide +kernel
theorem dX10_widenAll_2 : decode cX10_widenAll 2 = .ok (.iconst 0, 1) := by decide +kernel
theorem dX10_widenAll_3 : decode cX10_widenAll 3 = .ok (.istore_n 3, 1) := by decide +kernel
theorem dX10_widenAll_4 : decode cX10_widenAll 4 = .ok (.iload_n 3, 1) := by decide +kernel
theorem dX10_widenAll_5 : decode cX10_widenAll 5 = .ok (.aload_n 0, 1) := by decide +kernel
theorem dX10_widenAll_6 : decode cX10_widenAll 6 = .ok (.getfield 15, 3) := by decide +kernel
theorem dX10_widenAll_9 : decode cX10_widenAll 9 = .ok (.if_icmp .ge 128, 3) := by decide +kernel
theorem dX10_widenAll_12 : decode cX10_widenAll 12 = .ok (.iload_n 2, 1) := by decide +kernel
theorem dX10_widenAll_13 : decode cX10_widenAll 13 = .ok (.ifCond .eq 124, 3) := by decide +kernel
theorem dX10_widenAll_16 : decode cX10_widenAll 16 = .ok (.iconst 0, 1) := by decide +kernel
theorem dX10_widenAll_17 : decode cX10_widenAll 17 = .ok (.istore_n 2, 1) := by decide +kernel
theorem dX10_widenAll_18 : decode cX10_widenAll 18 = .ok (.iconst 0, 1) := by decide +kernel
theorem dX10_widenAll_19 : decode cX10_widenAll 19 = .ok (.istore 4, 2) := by decide +kernel
theorem dX10_widenAll_21 : decode cX10_widenAll 21 = .ok (.iload 4, 2) := by decide +kernel
theorem dX10_widenAll_23 : decode cX10_widenAll 23 = .ok (.aload_n 1, 1) := by decide +kernel
theorem dX10_widenAll_24 : decode cX10_widenAll 24 = .ok (.getfield 77, 3) := by decide +kernel
theorem dX10_widenAll_27 : decode cX10_widenAll 27 = .ok (.if_icmp .ge 104, 3) := by decide +kernel
theorem dX10_widenAll_30 : decode cX10_widenAll 30 = .ok (.aload_n 1, 1) := by decide +kernel
theorem dX10_widenAll_31 : decode cX10_widenAll 31 = .ok (.getfield 67, 3) := by decide +kernel
theorem dX10_widenAll_34 : decode cX10_widenAll 34 = .ok (.iload 4, 2) := by decide +kernel
theorem dX10_widenAll_36 : decode cX10_widenAll 36 = .ok (.iaload, 1) := by decide +kernel
theorem dX10_widenAll_37 : decode cX10_widenAll 37 = .ok (.istore 5, 2) := by decide +kernel
theorem dX10_widenAll_39 : decode cX10_widenAll 39 = .ok (.aload_n 1, 1) := by decide +kernel
theorem dX10_widenAll_40 : decode cX10_widenAll 40 = .ok (.getfield 70, 3) := by decide +kernel
theorem dX10_widenAll_43 : decode cX10_widenAll 43 = .ok (.iload 4, 2) := by decide +kernel
theorem dX10_widenAll_45 : decode cX10_widenAll 45 = .ok (.iaload, 1) := by decide +kernel
theorem dX10_widenAll_46 : decode cX10_widenAll 46 = .ok (.istore 6, 2) := by decide +kernel
theorem dX10_widenAll_48 : decode cX10_widenAll 48 = .ok (.aload_n 0, 1) := by decide +kernel
theorem dX10_widenAll_49 : decode cX10_widenAll 49 = .ok (.getfield 22, 3) := by decide +kernel
theorem dX10_widenAll_52 : decode cX10_widenAll 52 = .ok (.iload 5, 2) := by decide +kernel
theorem dX10_widenAll_54 : decode cX10_widenAll 54 = .ok (.laload, 1) := by decide +kernel
theorem dX10_widenAll_55 : decode cX10_widenAll 55 = .ok (.aload_n 1, 1) := by decide +kernel
theorem dX10_widenAll_56 : decode cX10_widenAll 56 = .ok (.getfield 61, 3) := by decide +kernel
theorem dX10_widenAll_59 : decode cX10_widenAll 59 = .ok (.aload_n 1, 1) := by decide +kernel
theorem dX10_widenAll_60 : decode cX10_widenAll 60 = .ok (.getfield 64, 3) := by decide +kernel
theorem dX10_widenAll_63 : decode cX10_widenAll 63 = .ok (.iload 4, 2) := by decide +kernel
theorem dX10_widenAll_65 : decode cX10_widenAll 65 = .ok (.iaload, 1) := by decide +kernel
theorem dX10_widenAll_66 : decode cX10_widenAll 66 = .ok (.iaload, 1) := by decide +kernel
theorem dX10_widenAll_67 : decode cX10_widenAll 67 = .ok (.i2l, 1) := by decide +kernel
theorem dX10_widenAll_68 : decode cX10_widenAll 68 = .ok (.invokestatic 107, 3) := by decide +kernel
theorem dX10_widenAll_71 : decode cX10_widenAll 71 = .ok (.lstore 7, 2) := by decide +kernel
theorem dX10_widenAll_73 : decode cX10_widenAll 73 = .ok (.aload_n 0, 1) := by decide +kernel
theorem dX10_widenAll_74 : decode cX10_widenAll 74 = .ok (.getfield 18, 3) := by decide +kernel
theorem dX10_widenAll_77 : decode cX10_widenAll 77 = .ok (.iload 5, 2) := by decide +kernel
theorem dX10_widenAll_79 : decode cX10_widenAll 79 = .ok (.iaload, 1) := by decide +kernel
theorem dX10_widenAll_80 : decode cX10_widenAll 80 = .ok (.ifCond .eq 45, 3) := by decide +kernel
theorem dX10_widenAll_83 : decode cX10_widenAll 83 = .ok (.aload_n 0, 1) := by decide +kernel
theorem dX10_widenAll_84 : decode cX10_widenAll 84 = .ok (.getfield 18, 3) := by decide +kernel
theorem dX10_widenAll_87 : decode cX10_widenAll 87 = .ok (.iload 6, 2) := by decide +kernel
theorem dX10_widenAll_89 : decode cX10_widenAll 89 = .ok (.iaload, 1) := by decide +kernel
theorem dX10_widenAll_90 : decode cX10_widenAll 90 = .ok (.ifCond .eq 16, 3) := by decide +kernel
theorem dX10_widenAll_93 : decode cX10_widenAll 93 = .ok (.lload 7, 2) := by decide +kernel
theorem dX10_widenAll_95 : decode cX10_widenAll 95 = .ok (.aload_n 0, 1) := by decide +kernel
theorem dX10_widenAll_96 : decode cX10_widenAll 96 = .ok (.getfield 22, 3) := by decide +kernel
theorem dX10_widenAll_99 : decode cX10_widenAll 99 = .ok (.iload 6, 2) := by decide +kernel
theorem dX10_widenAll_101 : decode cX10_widenAll 101 = .ok (.laload, 1) := by decide +kernel
theorem dX10_widenAll_102 : decode cX10_widenAll 102 = .ok (.lcmp, 1) := by decide +kernel
theorem dX10_widenAll_103 : decode cX10_widenAll 103 = .ok (.ifCond .le 22, 3) := by decide +kernel
theorem dX10_widenAll_106 : decode cX10_widenAll 106 = .ok (.aload_n 0, 1) := by decide +kernel
theorem dX10_widenAll_107 : decode cX10_widenAll 107 = .ok (.getfield 18, 3) := by decide +kernel
theorem dX10_widenAll_110 : decode cX10_widenAll 110 = .ok (.iload 6, 2) := by decide +kernel
theorem dX10_widenAll_112 : decode cX10_widenAll 112 = .ok (.iconst 1, 1) := by decide +kernel
theorem dX10_widenAll_113 : decode cX10_widenAll 113 = .ok (.iastore, 1) := by decide +kernel
theorem dX10_widenAll_114 : decode cX10_widenAll 114 = .ok (.aload_n 0, 1) := by decide +kernel
theorem dX10_widenAll_115 : decode cX10_widenAll 115 = .ok (.getfield 22, 3) := by decide +kernel
theorem dX10_widenAll_118 : decode cX10_widenAll 118 = .ok (.iload 6, 2) := by decide +kernel
theorem dX10_widenAll_120 : decode cX10_widenAll 120 = .ok (.lload 7, 2) := by decide +kernel
theorem dX10_widenAll_122 : decode cX10_widenAll 122 = .ok (.lastore, 1) := by decide +kernel
theorem dX10_widenAll_123 : decode cX10_widenAll 123 = .ok (.iconst 1, 1) := by decide +kernel
theorem dX10_widenAll_124 : decode cX10_widenAll 124 = .ok (.istore_n 2, 1) := by decide +kernel
theorem dX10_widenAll_125 : decode cX10_widenAll 125 = .ok (.iinc 4 1, 3) := by decide +kernel
theorem dX10_widenAll_128 : decode cX10_widenAll 128 = .ok (.goto (-107), 3) := by decide +kernel
theorem dX10_widenAll_131 : decode cX10_widenAll 131 = .ok (.iinc 3 1, 3) := by decide +kernel
theorem dX10_widenAll_134 : decode cX10_widenAll 134 = .ok (.goto (-130), 3) := by decide +kernel
theorem dX10_widenAll_137 : decode cX10_widenAll 137 = .ok (.return_, 1) := by decide +kernel
theorem kX10_107 : lkK (gS, X) RX10 107 mJ9_min_f86c9 2 ∧ Cond.static yJ9_min_f86c9 ∈ g_ws (gS, X) := ⟨⟨tb_good, (tb_t (k := 637) (w := Cond.methodLink RX10 107 yJ9_min_f86c9) (by decide +kernel)), (tb_t (k := 12) (w := Cond.initialized RJ9) (by decide +kernel)), (tb_t (k := 602) (w := Cond.code yJ9_min_f86c9 cJ9_min_f86c9 4 (some .long)) (by decide +kernel)), by decide +kernel, by decide⟩, (tb_t (k := 601) (w := Cond.static yJ9_min_f86c9) (by decide +kernel))⟩
theorem dX10_traceWide_0 : decode cX10_traceWide 0 = .ok (.aload_n 0, 1) := by decide +kernel
theorem dX10_traceWide_1 : decode cX10_traceWide 1 = .ok (.getfield 15, 3) := by decide +kernel
theorem dX10_traceWide_4 : decode cX10_traceWide 4 = .ok (.newarray .int, 2) := by decide +kernel
theorem dX10_traceWide_6 : decode cX10_traceWide 6 = .ok (.astore_n 3, 1) := by decide +kernel
theorem dX10_traceWide_7 : decode cX10_traceWide 7 = .ok (.aload_n 0, 1) := by decide +kernel
theorem dX10_traceWide_8 : decode cX10_traceWide 8 = .ok (.getfield 15, 3) := by decide +kernel
theorem dX10_traceWide_11 : decode cX10_traceWide 11 = .ok (.newarray .long, 2) := by decide +kernel
theorem dX10_traceWide_13 : decode cX10_traceWide 13 = .ok (.astore 4, 2) := by decide +kernel
theorem dX10_traceWide_15 : decode cX10_traceWide 15 = .ok (.iconst 0, 1) := by decide +kernel
theorem dX10_traceWide_16 : decode cX10_traceWide 16 = .ok (.istore 5, 2) := by decide +kernel
theorem dX10_traceWide_18 : decode cX10_traceWide 18 = .ok (.iload 5, 2) := by decide +kernel
theorem dX10_traceWide_20 : decode cX10_traceWide 20 = .ok (.aload_n 0, 1) := by decide +kernel
theorem dX10_traceWide_21 : decode cX10_traceWide 21 = .ok (.getfield 15, 3) := by decide +kernel
theorem dX10_traceWide_24 : decode cX10_traceWide 24 = .ok (.if_icmp .ge 68, 3) := by decide +kernel
theorem dX10_traceWide_27 : decode cX10_traceWide 27 = .ok (.iload 5, 2) := by decide +kernel
theorem dX10_traceWide_29 : decode cX10_traceWide 29 = .ok (.iload_n 2, 1) := by decide +kernel
theorem dX10_traceWide_30 : decode cX10_traceWide 30 = .ok (.if_icmp .eq 56, 3) := by decide +kernel
theorem dX10_traceWide_33 : decode cX10_traceWide 33 = .ok (.aload_n 0, 1) := by decide +kernel
theorem dX10_traceWide_34 : decode cX10_traceWide 34 = .ok (.getfield 18, 3) := by decide +kernel
theorem dX10_traceWide_37 : decode cX10_traceWide 37 = .ok (.iload 5, 2) := by decide +kernel
theorem dX10_traceWide_39 : decode cX10_traceWide 39 = .ok (.iaload, 1) := by decide +kernel
theorem dX10_traceWide_40 : decode cX10_traceWide 40 = .ok (.iconst 1, 1) := by decide +kernel
theorem dX10_traceWide_41 : decode cX10_traceWide 41 = .ok (.if_icmp .ne 45, 3) := by decide +kernel
theorem dX10_traceWide_44 : decode cX10_traceWide 44 = .ok (.aload_n 0, 1) := by decide +kernel
theorem dX10_traceWide_45 : decode cX10_traceWide 45 = .ok (.aload_n 1, 1) := by decide +kernel
theorem dX10_traceWide_46 : decode cX10_traceWide 46 = .ok (.iload_n 2, 1) := by decide +kernel
theorem dX10_traceWide_47 : decode cX10_traceWide 47 = .ok (.iload 5, 2) := by decide +kernel
theorem dX10_traceWide_49 : decode cX10_traceWide 49 = .ok (.aload_n 3, 1) := by decide +kernel
theorem dX10_traceWide_50 : decode cX10_traceWide 50 = .ok (.aload 4, 2) := by decide +kernel
theorem dX10_traceWide_52 : decode cX10_traceWide 52 = .ok (.invokevirtual 113, 3) := by decide +kernel
theorem dX10_traceWide_55 : decode cX10_traceWide 55 = .ok (.aload_n 0, 1) := by decide +kernel
theorem dX10_traceWide_56 : decode cX10_traceWide 56 = .ok (.getfield 26, 3) := by decide +kernel
theorem dX10_traceWide_59 : decode cX10_traceWide 59 = .ok (.iload 5, 2) := by decide +kernel
theorem dX10_traceWide_61 : decode cX10_traceWide 61 = .ok (.aload_n 3, 1) := by decide +kernel
theorem dX10_traceWide_62 : decode cX10_traceWide 62 = .ok (.iload 5, 2) := by decide +kernel
theorem dX10_traceWide_64 : decode cX10_traceWide 64 = .ok (.iaload, 1) := by decide +kernel
theorem dX10_traceWide_65 : decode cX10_traceWide 65 = .ok (.iastore, 1) := by decide +kernel
theorem dX10_traceWide_66 : decode cX10_traceWide 66 = .ok (.aload_n 0, 1) := by decide +kernel
theorem dX10_traceWide_67 : decode cX10_traceWide 67 = .ok (.getfield 29, 3) := by decide +kernel
theorem dX10_traceWide_70 : decode cX10_traceWide 70 = .ok (.iload 5, 2) := by decide +kernel
theorem dX10_traceWide_72 : decode cX10_traceWide 72 = .ok (.aload 4, 2) := by decide +kernel
theorem dX10_traceWide_74 : decode cX10_traceWide 74 = .ok (.iload 5, 2) := by decide +kernel
theorem dX10_traceWide_76 : decode cX10_traceWide 76 = .ok (.laload, 1) := by decide +kernel
theorem dX10_traceWide_77 : decode cX10_traceWide 77 = .ok (.lastore, 1) := by decide +kernel
theorem dX10_traceWide_78 : decode cX10_traceWide 78 = .ok (.aload_n 0, 1) := by decide +kernel
theorem dX10_traceWide_79 : decode cX10_traceWide 79 = .ok (.aload_n 1, 1) := by decide +kernel
theorem dX10_traceWide_80 : decode cX10_traceWide 80 = .ok (.iload 5, 2) := by decide +kernel
theorem dX10_traceWide_82 : decode cX10_traceWide 82 = .ok (.aload_n 3, 1) := by decide +kernel
theorem dX10_traceWide_83 : decode cX10_traceWide 83 = .ok (.invokevirtual 117, 3) := by decide +kernel
theorem dX10_traceWide_86 : decode cX10_traceWide 86 = .ok (.iinc 5 1, 3) := by decide +kernel
theorem dX10_traceWide_89 : decode cX10_traceWide 89 = .ok (.goto (-71), 3) := by decide +kernel
theorem dX10_traceWide_92 : decode cX10_traceWide 92 = .ok (.return_, 1) := by decide +kernel
theorem kX10_113 : lkK (gS, X) RX10 113 mX10_countWide 5 ∧ Cond.instanceMethod yX10_countWide ∈ g_ws (gS, X) ∧ Cond.selects RX10 yX10_countWide yX10_countWide ∈ g_ws (gS, X) ∧ yX10_countWide.cls = RX10 := ⟨⟨tb_good, (tb_t (k := 642) (w := Cond.methodLink RX10 113 yX10_countWide) (by decide +kernel)), (tb_t (k := 16) (w := Cond.initialized RX10) (by decide +kernel)), (tb_t (k := 645) (w := Cond.code yX10_countWide cX10_countWide 10 none) (by decide +kernel)), by decide +kernel, by decide⟩, (tb_t (k := 644) (w := Cond.instanceMethod yX10_countWide) (by decide +kernel)), (tb_p (k := 25) (q := (yX10_countWide, 6)) (by decide +kernel)), rfl⟩
theorem kX10_117 : lkK (gS, X) RX10 117 mX10_followBack 3 ∧ Cond.instanceMethod yX10_followBack ∈ g_ws (gS, X) ∧ Cond.selects RX10 yX10_followBack yX10_followBack ∈ g_ws (gS, X) ∧ yX10_followBack.cls = RX10 := ⟨⟨tb_good, (tb_t (k := 647) (w := Cond.methodLink RX10 117 yX10_followBack) (by decide +kernel)), (tb_t (k := 16) (w := Cond.initialized RX10) (by decide +kernel)), (tb_t (k := 650) (w := Cond.code yX10_followBack cX10_followBack 9 none) (by decide +kernel)), by decide +kernel, by decide⟩, (tb_t (k := 649) (w := Cond.instanceMethod yX10_followBack) (by decide +kernel)), (tb_p (k := 26) (q := (yX10_followBack, 6)) (by decide +kernel)), rfl⟩
theorem dX10_countWide_0 : decode cX10_countWide 0 = .ok (.aload 4, 2) := by decide +kernel
theorem dX10_countWide_2 : decode cX10_countWide 2 = .ok (.iconst (-1), 1) := by decide +kernel
theorem dX10_countWide_3 : decode cX10_countWide 3 = .ok (.invokestatic 35, 3) := by decide +kernel
theorem dX10_countWide_6 : decode cX10_countWide 6 = .ok (.aload 5, 2) := by decide +kernel
theorem dX10_countWide_8 : decode cX10_countWide 8 = .ok (.lconst 0, 1) := by decide +kernel
theorem dX10_countWide_9 : decode cX10_countWide 9 = .ok (.invokestatic 121, 3) := by decide +kernel
theorem dX10_countWide_12 : decode cX10_countWide 12 = .ok (.aload 4, 2) := by decide +kernel
theorem dX10_countWide_14 : decode cX10_countWide 14 = .ok (.iload_n 2, 1) := by decide +kernel
theorem dX10_countWide_15 : decode cX10_countWide 15 = .ok (.iconst 0, 1) := by decide +kernel
theorem dX10_countWide_16 : decode cX10_countWide 16 = .ok (.iastore, 1) := by decide +kernel
theorem dX10_countWide_17 : decode cX10_countWide 17 = .ok (.aload 5, 2) := by decide +kernel
theorem dX10_countWide_19 : decode cX10_countWide 19 = .ok (.iload_n 2, 1) := by decide +kernel
theorem dX10_countWide_20 : decode cX10_countWide 20 = .ok (.lconst 1, 1) := by decide +kernel
theorem dX10_countWide_21 : decode cX10_countWide 21 = .ok (.lastore, 1) := by decide +kernel
theorem dX10_countWide_22 : decode cX10_countWide 22 = .ok (.iconst 1, 1) := by decide +kernel
theorem dX10_countWide_23 : decode cX10_countWide 23 = .ok (.istore 6, 2) := by decide +kernel
theorem dX10_countWide_25 : decode cX10_countWide 25 = .ok (.iload 6, 2) := by decide +kernel
theorem dX10_countWide_27 : decode cX10_countWide 27 = .ok (.aload_n 0, 1) := by decide +kernel
theorem dX10_countWide_28 : decode cX10_countWide 28 = .ok (.getfield 15, 3) := by decide +kernel
theorem dX10_countWide_31 : decode cX10_countWide 31 = .ok (.if_icmp .ge 137, 3) := by decide +kernel
theorem dX10_countWide_34 : decode cX10_countWide 34 = .ok (.aload 4, 2) := by decide +kernel
theorem dX10_countWide_36 : decode cX10_countWide 36 = .ok (.iload_n 3, 1) := by decide +kernel
theorem dX10_countWide_37 : decode cX10_countWide 37 = .ok (.iaload, 1) := by decide +kernel
theorem dX10_countWide_38 : decode cX10_countWide 38 = .ok (.ifCond .ge 130, 3) := by decide +kernel
theorem dX10_countWide_41 : decode cX10_countWide 41 = .ok (.iconst 0, 1) := by decide +kernel
theorem dX10_countWide_42 : decode cX10_countWide 42 = .ok (.istore 7, 2) := by decide +kernel
theorem dX10_countWide_44 : decode cX10_countWide 44 = .ok (.iload 7, 2) := by decide +kernel
theorem dX10_countWide_46 : decode cX10_countWide 46 = .ok (.aload_n 1, 1) := by decide +kernel
theorem dX10_countWide_47 : decode cX10_countWide 47 = .ok (.getfield 77, 3) := by decide +kernel
theorem dX10_countWide_50 : decode cX10_countWide 50 = .ok (.if_icmp .ge 112, 3) := by decide +kernel
theorem dX10_countWide_53 : decode cX10_countWide 53 = .ok (.aload_n 1, 1) := by decide +kernel
theorem dX10_countWide_54 : decode cX10_countWide 54 = .ok (.getfield 67, 3) := by decide +kernel
theorem dX10_countWide_57 : decode cX10_countWide 57 = .ok (.iload 7, 2) := by decide +kernel
theorem dX10_countWide_59 : decode cX10_countWide 59 = .ok (.iaload, 1) := by decide +kernel
theorem dX10_countWide_60 : decode cX10_countWide 60 = .ok (.istore 8, 2) := by decide +kernel
theorem dX10_countWide_62 : decode cX10_countWide 62 = .ok (.aload_n 1, 1) := by decide +kernel
theorem dX10_countWide_63 : decode cX10_countWide 63 = .ok (.getfield 70, 3) := by decide +kernel
theorem dX10_countWide_66 : decode cX10_countWide 66 = .ok (.iload 7, 2) := by decide +kernel
theorem dX10_countWide_68 : decode cX10_countWide 68 = .ok (.iaload, 1) := by decide +kernel
theorem dX10_countWide_69 : decode cX10_countWide 69 = .ok (.istore 9, 2) := by decide +kernel
theorem dX10_countWide_71 : decode cX10_countWide 71 = .ok (.aload 4, 2) := by decide +kernel
theorem dX10_countWide_73 : decode cX10_countWide 73 = .ok (.iload 8, 2) := by decide +kernel
theorem dX10_countWide_75 : decode cX10_countWide 75 = .ok (.iaload, 1) := by decide +kernel
theorem dX10_countWide_76 : decode cX10_countWide 76 = .ok (.iload 6, 2) := by decide +kernel
theorem dX10_countWide_78 : decode cX10_countWide 78 = .ok (.iconst 1, 1) := by decide +kernel
theorem dX10_countWide_79 : decode cX10_countWide 79 = .ok (.isub, 1) := by decide +kernel
theorem dX10_countWide_80 : decode cX10_countWide 80 = .ok (.if_icmp .ne 76, 3) := by decide +kernel
theorem dX10_countWide_83 : decode cX10_countWide 83 = .ok (.aload_n 1, 1) := by decide +kernel
theorem dX10_countWide_84 : decode cX10_countWide 84 = .ok (.getfield 61, 3) := by decide +kernel
theorem dX10_countWide_87 : decode cX10_countWide 87 = .ok (.aload_n 1, 1) := by decide +kernel
theorem dX10_countWide_88 : decode cX10_countWide 88 = .ok (.getfield 64, 3) := by decide +kernel
theorem dX10_countWide_91 : decode cX10_countWide 91 = .ok (.iload 7, 2) := by decide +kernel
theorem dX10_countWide_93 : decode cX10_countWide 93 = .ok (.iaload, 1) := by decide +kernel
theorem dX10_countWide_94 : decode cX10_countWide 94 = .ok (.iaload, 1) := by decide +kernel
theorem dX10_countWide_95 : decode cX10_countWide 95 = .ok (.i2l, 1) := by decide +kernel
theorem dX10_countWide_96 : decode cX10_countWide 96 = .ok (.aload_n 0, 1) := by decide +kernel
theorem dX10_countWide_97 : decode cX10_countWide 97 = .ok (.getfield 22, 3) := by decide +kernel
theorem dX10_countWide_100 : decode cX10_countWide 100 = .ok (.iload_n 3, 1) := by decide +kernel
theorem dX10_countWide_101 : decode cX10_countWide 101 = .ok (.laload, 1) := by decide +kernel
theorem dX10_countWide_102 : decode cX10_countWide 102 = .ok (.lcmp, 1) := by decide +kernel
theorem dX10_countWide_103 : decode cX10_countWide 103 = .ok (.ifCond .lt 53, 3) := by decide +kernel
theorem dX10_countWide_106 : decode cX10_countWide 106 = .ok (.aload 4, 2) := by decide +kernel
theorem dX10_countWide_108 : decode cX10_countWide 108 = .ok (.iload 9, 2) := by decide +kernel
theorem dX10_countWide_110 : decode cX10_countWide 110 = .ok (.aload 4, 2) := by decide +kernel
theorem dX10_countWide_112 : decode cX10_countWide 112 = .ok (.iload 9, 2) := by decide +kernel
theorem dX10_countWide_114 : decode cX10_countWide 114 = .ok (.iaload, 1) := by decide +kernel
theorem dX10_countWide_115 : decode cX10_countWide 115 = .ok (.ifCond .ge 8, 3) := by decide +kernel
theorem dX10_countWide_118 : decode cX10_countWide 118 = .ok (.iload 6, 2) := by decide +kernel
theorem dX10_countWide_120 : decode cX10_countWide 120 = .ok (.goto 8, 3) := by decide +kernel
theorem dX10_countWide_123 : decode cX10_countWide 123 = .ok (.aload 4, 2) := by decide +kernel
theorem dX10_countWide_125 : decode cX10_countWide 125 = .ok (.iload 9, 2) := by decide +kernel
theorem dX10_countWide_127 : decode cX10_countWide 127 = .ok (.iaload, 1) := by decide +kernel
theorem dX10_countWide_128 : decode cX10_countWide 128 = .ok (.iastore, 1) := by decide +kernel
theorem dX10_countWide_129 : decode cX10_countWide 129 = .ok (.aload 5, 2) := by decide +kernel
theorem dX10_countWide_131 : decode cX10_countWide 131 = .ok (.iload 9, 2) := by decide +kernel
theorem dX10_countWide_133 : decode cX10_countWide 133 = .ok (.dup2, 1) := by decide +kernel
theorem dX10_countWide_134 : decode cX10_countWide 134 = .ok (.laload, 1) := by decide +kernel
theorem dX10_countWide_135 : decode cX10_countWide 135 = .ok (.aload 4, 2) := by decide +kernel
theorem dX10_countWide_137 : decode cX10_countWide 137 = .ok (.iload 9, 2) := by decide +kernel
theorem dX10_countWide_139 : decode cX10_countWide 139 = .ok (.iaload, 1) := by decide +kernel
theorem dX10_countWide_140 : decode cX10_countWide 140 = .ok (.iload 6, 2) := by decide +kernel
theorem dX10_countWide_142 : decode cX10_countWide 142 = .ok (.if_icmp .ne 11, 3) := by decide +kernel
theorem dX10_countWide_145 : decode cX10_countWide 145 = .ok (.aload 5, 2) := by decide +kernel
theorem dX10_countWide_147 : decode cX10_countWide 147 = .ok (.iload 8, 2) := by decide +kernel
theorem dX10_countWide_149 : decode cX10_countWide 149 = .ok (.laload, 1) := by decide +kernel
theorem dX10_countWide_150 : decode cX10_countWide 150 = .ok (.goto 4, 3) := by decide +kernel
theorem dX10_countWide_153 : decode cX10_countWide 153 = .ok (.lconst 0, 1) := by decide +kernel
theorem dX10_countWide_154 : decode cX10_countWide 154 = .ok (.ladd, 1) := by decide +kernel
theorem dX10_countWide_155 : decode cX10_countWide 155 = .ok (.lastore, 1) := by decide +kernel
theorem dX10_countWide_156 : decode cX10_countWide 156 = .ok (.iinc 7 1, 3) := by decide +kernel
theorem dX10_countWide_159 : decode cX10_countWide 159 = .ok (.goto (-115), 3) := by decide +kernel
theorem dX10_countWide_162 : decode cX10_countWide 162 = .ok (.iinc 6 1, 3) := by decide +kernel
theorem dX10_countWide_165 : decode cX10_countWide 165 = .ok (.goto (-140), 3) := by decide +kernel
theorem dX10_countWide_168 : decode cX10_countWide 168 = .ok (.return_, 1) := by decide +kernel
theorem kX10_121 : lkK (gS, X) RX10 121 mJ7_fill_d0a16 2 ∧ Cond.static yJ7_fill_d0a16 ∈ g_ws (gS, X) := ⟨⟨tb_good, (tb_t (k := 646) (w := Cond.methodLink RX10 121 yJ7_fill_d0a16) (by decide +kernel)), (tb_t (k := 11) (w := Cond.initialized RJ7) (by decide +kernel)), (tb_t (k := 565) (w := Cond.code yJ7_fill_d0a16 cJ7_fill_d0a16 5 none) (by decide +kernel)), by decide +kernel, by decide⟩, (tb_t (k := 564) (w := Cond.static yJ7_fill_d0a16) (by decide +kernel))⟩
theorem dX10_followBack_0 : decode cX10_followBack 0 = .ok (.iload_n 2, 1) := by decide +kernel
theorem dX10_followBack_1 : decode cX10_followBack 1 = .ok (.istore 4, 2) := by decide +kernel
theorem dX10_followBack_3 : decode cX10_followBack 3 = .ok (.aload_n 0, 1) := by decide +kernel
theorem dX10_followBack_4 : decode cX10_followBack 4 = .ok (.getfield 26, 3) := by decide +kernel
theorem dX10_followBack_7 : decode cX10_followBack 7 = .ok (.iload_n 2, 1) := by decide +kernel
theorem dX10_followBack_8 : decode cX10_followBack 8 = .ok (.iaload, 1) := by decide +kernel
theorem dX10_followBack_9 : decode cX10_followBack 9 = .ok (.iconst 1, 1) := by decide +kernel
theorem dX10_followBack_10 : decode cX10_followBack 10 = .ok (.isub, 1) := by decide +kernel
theorem dX10_followBack_11 : decode cX10_followBack 11 = .ok (.istore 5, 2) := by decide +kernel
theorem dX10_followBack_13 : decode cX10_followBack 13 = .ok (.iload 5, 2) := by decide +kernel
theorem dX10_followBack_15 : decode cX10_followBack 15 = .ok (.ifCond .lt 135, 3) := by decide +kernel
theorem dX10_followBack_18 : decode cX10_followBack 18 = .ok (.iconst (-1), 1) := by decide +kernel
theorem dX10_followBack_19 : decode cX10_followBack 19 = .ok (.istore 6, 2) := by decide +kernel
theorem dX10_followBack_21 : decode cX10_followBack 21 = .ok (.iconst 0, 1) := by decide +kernel
theorem dX10_followBack_22 : decode cX10_followBack 22 = .ok (.istore 7, 2) := by decide +kernel
theorem dX10_followBack_24 : decode cX10_followBack 24 = .ok (.iload 7, 2) := by decide +kernel
theorem dX10_followBack_26 : decode cX10_followBack 26 = .ok (.aload_n 1, 1) := by decide +kernel
theorem dX10_followBack_27 : decode cX10_followBack 27 = .ok (.getfield 77, 3) := by decide +kernel
theorem dX10_followBack_30 : decode cX10_followBack 30 = .ok (.if_icmp .ge 79, 3) := by decide +kernel
theorem dX10_followBack_33 : decode cX10_followBack 33 = .ok (.iload 6, 2) := by decide +kernel
theorem dX10_followBack_35 : decode cX10_followBack 35 = .ok (.ifCond .ge 74, 3) := by decide +kernel
theorem dX10_followBack_38 : decode cX10_followBack 38 = .ok (.aload_n 1, 1) := by decide +kernel
theorem dX10_followBack_39 : decode cX10_followBack 39 = .ok (.getfield 61, 3) := by decide +kernel
theorem dX10_followBack_42 : decode cX10_followBack 42 = .ok (.aload_n 1, 1) := by decide +kernel
theorem dX10_followBack_43 : decode cX10_followBack 43 = .ok (.getfield 64, 3) := by decide +kernel
theorem dX10_followBack_46 : decode cX10_followBack 46 = .ok (.iload 7, 2) := by decide +kernel
theorem dX10_followBack_48 : decode cX10_followBack 48 = .ok (.iaload, 1) := by decide +kernel
theorem dX10_followBack_49 : decode cX10_followBack 49 = .ok (.iaload, 1) := by decide +kernel
theorem dX10_followBack_50 : decode cX10_followBack 50 = .ok (.i2l, 1) := by decide +kernel
theorem dX10_followBack_51 : decode cX10_followBack 51 = .ok (.aload_n 0, 1) := by decide +kernel
theorem dX10_followBack_52 : decode cX10_followBack 52 = .ok (.getfield 22, 3) := by decide +kernel
theorem dX10_followBack_55 : decode cX10_followBack 55 = .ok (.iload_n 2, 1) := by decide +kernel
theorem dX10_followBack_56 : decode cX10_followBack 56 = .ok (.laload, 1) := by decide +kernel
theorem dX10_followBack_57 : decode cX10_followBack 57 = .ok (.lcmp, 1) := by decide +kernel
theorem dX10_followBack_58 : decode cX10_followBack 58 = .ok (.ifCond .lt 7, 3) := by decide +kernel
theorem dX10_followBack_61 : decode cX10_followBack 61 = .ok (.iconst 1, 1) := by decide +kernel
theorem dX10_followBack_62 : decode cX10_followBack 62 = .ok (.goto 4, 3) := by decide +kernel
theorem dX10_followBack_65 : decode cX10_followBack 65 = .ok (.iconst 0, 1) := by decide +kernel
theorem dX10_followBack_66 : decode cX10_followBack 66 = .ok (.istore 8, 2) := by decide +kernel
theorem dX10_followBack_68 : decode cX10_followBack 68 = .ok (.aload_n 1, 1) := by decide +kernel
theorem dX10_followBack_69 : decode cX10_followBack 69 = .ok (.getfield 70, 3) := by decide +kernel
theorem dX10_followBack_72 : decode cX10_followBack 72 = .ok (.iload 7, 2) := by decide +kernel
theorem dX10_followBack_74 : decode cX10_followBack 74 = .ok (.iaload, 1) := by decide +kernel
theorem dX10_followBack_75 : decode cX10_followBack 75 = .ok (.iload 4, 2) := by decide +kernel
theorem dX10_followBack_77 : decode cX10_followBack 77 = .ok (.if_icmp .ne 26, 3) := by decide +kernel
theorem dX10_followBack_80 : decode cX10_followBack 80 = .ok (.iload 8, 2) := by decide +kernel
theorem dX10_followBack_82 : decode cX10_followBack 82 = .ok (.ifCond .eq 21, 3) := by decide +kernel
theorem dX10_followBack_85 : decode cX10_followBack 85 = .ok (.aload_n 3, 1) := by decide +kernel
theorem dX10_followBack_86 : decode cX10_followBack 86 = .ok (.aload_n 1, 1) := by decide +kernel
theorem dX10_followBack_87 : decode cX10_followBack 87 = .ok (.getfield 67, 3) := by decide +kernel
theorem dX10_followBack_90 : decode cX10_followBack 90 = .ok (.iload 7, 2) := by decide +kernel
theorem dX10_followBack_92 : decode cX10_followBack 92 = .ok (.iaload, 1) := by decide +kernel
theorem dX10_followBack_93 : decode cX10_followBack 93 = .ok (.iaload, 1) := by decide +kernel
theorem dX10_followBack_94 : decode cX10_followBack 94 = .ok (.iload 5, 2) := by decide +kernel
theorem dX10_followBack_96 : decode cX10_followBack 96 = .ok (.if_icmp .ne 7, 3) := by decide +kernel
theorem dX10_followBack_99 : decode cX10_followBack 99 = .ok (.iload 7, 2) := by decide +kernel
theorem dX10_followBack_101 : decode cX10_followBack 101 = .ok (.istore 6, 2) := by decide +kernel
theorem dX10_followBack_103 : decode cX10_followBack 103 = .ok (.iinc 7 1, 3) := by decide +kernel
theorem dX10_followBack_106 : decode cX10_followBack 106 = .ok (.goto (-82), 3) := by decide +kernel
theorem dX10_followBack_109 : decode cX10_followBack 109 = .ok (.iload 6, 2) := by decide +kernel
theorem dX10_followBack_111 : decode cX10_followBack 111 = .ok (.ifCond .lt 33, 3) := by decide +kernel
theorem dX10_followBack_114 : decode cX10_followBack 114 = .ok (.aload_n 0, 1) := by decide +kernel
theorem dX10_followBack_115 : decode cX10_followBack 115 = .ok (.getfield 32, 3) := by decide +kernel
theorem dX10_followBack_118 : decode cX10_followBack 118 = .ok (.iload_n 2, 1) := by decide +kernel
theorem dX10_followBack_119 : decode cX10_followBack 119 = .ok (.aload_n 0, 1) := by decide +kernel
theorem dX10_followBack_120 : decode cX10_followBack 120 = .ok (.getfield 15, 3) := by decide +kernel
theorem dX10_followBack_123 : decode cX10_followBack 123 = .ok (.imul, 1) := by decide +kernel
theorem dX10_followBack_124 : decode cX10_followBack 124 = .ok (.iload 5, 2) := by decide +kernel
theorem dX10_followBack_126 : decode cX10_followBack 126 = .ok (.iadd, 1) := by decide +kernel
theorem dX10_followBack_127 : decode cX10_followBack 127 = .ok (.aload_n 1, 1) := by decide +kernel
theorem dX10_followBack_128 : decode cX10_followBack 128 = .ok (.getfield 64, 3) := by decide +kernel
theorem dX10_followBack_131 : decode cX10_followBack 131 = .ok (.iload 6, 2) := by decide +kernel
theorem dX10_followBack_133 : decode cX10_followBack 133 = .ok (.iaload, 1) := by decide +kernel
theorem dX10_followBack_134 : decode cX10_followBack 134 = .ok (.iastore, 1) := by decide +kernel
theorem dX10_followBack_135 : decode cX10_followBack 135 = .ok (.aload_n 1, 1) := by decide +kernel
theorem dX10_followBack_136 : decode cX10_followBack 136 = .ok (.getfield 67, 3) := by decide +kernel
theorem dX10_followBack_139 : decode cX10_followBack 139 = .ok (.iload 6, 2) := by decide +kernel
theorem dX10_followBack_141 : decode cX10_followBack 141 = .ok (.iaload, 1) := by decide +kernel
theorem dX10_followBack_142 : decode cX10_followBack 142 = .ok (.istore 4, 2) := by decide +kernel
theorem dX10_followBack_144 : decode cX10_followBack 144 = .ok (.iinc 5 (-1), 3) := by decide +kernel
theorem dX10_followBack_147 : decode cX10_followBack 147 = .ok (.goto (-134), 3) := by decide +kernel
theorem dX10_followBack_150 : decode cX10_followBack 150 = .ok (.return_, 1) := by decide +kernel
theorem dX11_isQuestion_0 : decode cX11_isQuestion 0 = .ok (.iload_n 1, 1) := by decide +kernel
theorem dX11_isQuestion_1 : decode cX11_isQuestion 1 = .ok (.ifCond .lt 9, 3) := by decide +kernel
theorem dX11_isQuestion_4 : decode cX11_isQuestion 4 = .ok (.iload_n 1, 1) := by decide +kernel
theorem dX11_isQuestion_5 : decode cX11_isQuestion 5 = .ok (.bipush 17, 2) := by decide +kernel
theorem dX11_isQuestion_7 : decode cX11_isQuestion 7 = .ok (.if_icmp .le 5, 3) := by decide +kernel
theorem dX11_isQuestion_10 : decode cX11_isQuestion 10 = .ok (.iconst 0, 1) := by decide +kernel
theorem dX11_isQuestion_11 : decode cX11_isQuestion 11 = .ok (.ireturn, 1) := by decide +kernel
theorem dX11_isQuestion_12 : decode cX11_isQuestion 12 = .ok (.iload_n 1, 1) := by decide +kernel
theorem dX11_isQuestion_13 : decode cX11_isQuestion 13 = .ok (.ifCond .eq 8, 3) := by decide +kernel
theorem dX11_isQuestion_16 : decode cX11_isQuestion 16 = .ok (.iload_n 1, 1) := by decide +kernel
theorem dX11_isQuestion_17 : decode cX11_isQuestion 17 = .ok (.iconst 2, 1) := by decide +kernel
theorem dX11_isQuestion_18 : decode cX11_isQuestion 18 = .ok (.if_icmp .ne 12, 3) := by decide +kernel
theorem dX11_isQuestion_21 : decode cX11_isQuestion 21 = .ok (.iload_n 2, 1) := by decide +kernel
theorem dX11_isQuestion_22 : decode cX11_isQuestion 22 = .ok (.aload_n 0, 1) := by decide +kernel
theorem dX11_isQuestion_23 : decode cX11_isQuestion 23 = .ok (.getfield 134, 3) := by decide +kernel
theorem dX11_isQuestion_26 : decode cX11_isQuestion 26 = .ok (.invokestatic 74, 3) := by decide +kernel
theorem dX11_isQuestion_29 : decode cX11_isQuestion 29 = .ok (.ireturn, 1) := by decide +kernel
theorem dX11_isQuestion_30 : decode cX11_isQuestion 30 = .ok (.iload_n 1, 1) := by decide +kernel
theorem dX11_isQuestion_31 : decode cX11_isQuestion 31 = .ok (.bipush 11, 2) := by decide +kernel
theorem dX11_isQuestion_33 : decode cX11_isQuestion 33 = .ok (.if_icmp .ne 12, 3) := by decide +kernel
theorem dX11_isQuestion_36 : decode cX11_isQuestion 36 = .ok (.iload_n 2, 1) := by decide +kernel
theorem dX11_isQuestion_37 : decode cX11_isQuestion 37 = .ok (.aload_n 0, 1) := by decide +kernel
theorem dX11_isQuestion_38 : decode cX11_isQuestion 38 = .ok (.getfield 135, 3) := by decide +kernel
theorem dX11_isQuestion_41 : decode cX11_isQuestion 41 = .ok (.invokestatic 74, 3) := by decide +kernel
theorem dX11_isQuestion_44 : decode cX11_isQuestion 44 = .ok (.ireturn, 1) := by decide +kernel
theorem dX11_isQuestion_45 : decode cX11_isQuestion 45 = .ok (.iload_n 1, 1) := by decide +kernel
theorem dX11_isQuestion_46 : decode cX11_isQuestion 46 = .ok (.bipush 12, 2) := by decide +kernel
theorem dX11_isQuestion_48 : decode cX11_isQuestion 48 = .ok (.if_icmp .lt 42, 3) := by decide +kernel
theorem dX11_isQuestion_51 : decode cX11_isQuestion 51 = .ok (.iload_n 1, 1) := by decide +kernel
theorem dX11_isQuestion_52 : decode cX11_isQuestion 52 = .ok (.bipush 15, 2) := by decide +kernel
theorem dX11_isQuestion_54 : decode cX11_isQuestion 54 = .ok (.if_icmp .gt 36, 3) := by decide +kernel
theorem dX11_isQuestion_57 : decode cX11_isQuestion 57 = .ok (.iload_n 2, 1) := by decide +kernel
theorem dX11_isQuestion_58 : decode cX11_isQuestion 58 = .ok (.aload_n 0, 1) := by decide +kernel
theorem dX11_isQuestion_59 : decode cX11_isQuestion 59 = .ok (.getfield 134, 3) := by decide +kernel
theorem dX11_isQuestion_62 : decode cX11_isQuestion 62 = .ok (.invokestatic 74, 3) := by decide +kernel
theorem dX11_isQuestion_65 : decode cX11_isQuestion 65 = .ok (.ifCond .eq 23, 3) := by decide +kernel
theorem dX11_isQuestion_68 : decode cX11_isQuestion 68 = .ok (.iload_n 3, 1) := by decide +kernel
theorem dX11_isQuestion_69 : decode cX11_isQuestion 69 = .ok (.aload_n 0, 1) := by decide +kernel
theorem dX11_isQuestion_70 : decode cX11_isQuestion 70 = .ok (.getfield 134, 3) := by decide +kernel
theorem dX11_isQuestion_73 : decode cX11_isQuestion 73 = .ok (.invokestatic 74, 3) := by decide +kernel
theorem dX11_isQuestion_76 : decode cX11_isQuestion 76 = .ok (.ifCond .eq 12, 3) := by decide +kernel
theorem dX11_isQuestion_79 : decode cX11_isQuestion 79 = .ok (.iload_n 2, 1) := by decide +kernel
theorem dX11_isQuestion_80 : decode cX11_isQuestion 80 = .ok (.iload_n 3, 1) := by decide +kernel
theorem dX11_isQuestion_81 : decode cX11_isQuestion 81 = .ok (.if_icmp .eq 7, 3) := by decide +kernel
theorem dX11_isQuestion_84 : decode cX11_isQuestion 84 = .ok (.iconst 1, 1) := by decide +kernel
theorem dX11_isQuestion_85 : decode cX11_isQuestion 85 = .ok (.goto 4, 3) := by decide +kernel
theorem dX11_isQuestion_88 : decode cX11_isQuestion 88 = .ok (.iconst 0, 1) := by decide +kernel
theorem dX11_isQuestion_89 : decode cX11_isQuestion 89 = .ok (.ireturn, 1) := by decide +kernel
theorem dX11_isQuestion_90 : decode cX11_isQuestion 90 = .ok (.iconst 1, 1) := by decide +kernel
theorem dX11_isQuestion_91 : decode cX11_isQuestion 91 = .ok (.ireturn, 1) := by decide +kernel
theorem dX11_answer_0 : decode cX11_answer 0 = .ok (.iload_n 2, 1) := by decide +kernel
theorem dX11_answer_1 : decode cX11_answer 1 = .ok (.tableswitch 216 0 14 #[75, 82, 88, 95, 105, 115, 125, 135, 145, 155, 164, 169, 178, 191, 204], 75) := by decide +kernel
theorem dX11_answer_76 : decode cX11_answer 76 = .ok (.aload_n 1, 1) := by decide +kernel
theorem dX11_answer_77 : decode cX11_answer 77 = .ok (.iload_n 3, 1) := by decide +kernel
theorem dX11_answer_78 : decode cX11_answer 78 = .ok (.invokestatic 259, 3) := by decide +kernel
theorem dX11_answer_81 : decode cX11_answer 81 = .ok (.i2l, 1) := by decide +kernel
theorem dX11_answer_82 : decode cX11_answer 82 = .ok (.lreturn, 1) := by decide +kernel
theorem dX11_answer_83 : decode cX11_answer 83 = .ok (.aload_n 1, 1) := by decide +kernel
theorem dX11_answer_84 : decode cX11_answer 84 = .ok (.invokestatic 263, 3) := by decide +kernel
theorem dX11_answer_87 : decode cX11_answer 87 = .ok (.i2l, 1) := by decide +kernel
theorem dX11_answer_88 : decode cX11_answer 88 = .ok (.lreturn, 1) := by decide +kernel
theorem dX11_answer_89 : decode cX11_answer 89 = .ok (.aload_n 1, 1) := by decide +kernel
theorem dX11_answer_90 : decode cX11_answer 90 = .ok (.iload_n 3, 1) := by decide +kernel
theorem dX11_answer_91 : decode cX11_answer 91 = .ok (.invokestatic 267, 3) := by decide +kernel
theorem dX11_answer_94 : decode cX11_answer 94 = .ok (.i2l, 1) := by decide +kernel
theorem dX11_answer_95 : decode cX11_answer 95 = .ok (.lreturn, 1) := by decide +kernel
theorem dX11_answer_96 : decode cX11_answer 96 = .ok (.aload_n 0, 1) := by decide +kernel
theorem dX11_answer_97 : decode cX11_answer 97 = .ok (.getfield 42, 3) := by decide +kernel
theorem dX11_answer_100 : decode cX11_answer 100 = .ok (.aload_n 1, 1) := by decide +kernel
theorem dX11_answer_101 : decode cX11_answer 101 = .ok (.invokevirtual 270, 3) := by decide +kernel
theorem dX11_answer_104 : decode cX11_answer 104 = .ok (.i2l, 1) := by decide +kernel
theorem dX11_answer_105 : decode cX11_answer 105 = .ok (.lreturn, 1) := by decide +kernel
theorem dX11_answer_106 : decode cX11_answer 106 = .ok (.aload_n 0, 1) := by decide +kernel
theorem dX11_answer_107 : decode cX11_answer 107 = .ok (.getfield 42, 3) := by decide +kernel
theorem dX11_answer_110 : decode cX11_answer 110 = .ok (.aload_n 1, 1) := by decide +kernel
theorem dX11_answer_111 : decode cX11_answer 111 = .ok (.invokevirtual 273, 3) := by decide +kernel
theorem dX11_answer_114 : decode cX11_answer 114 = .ok (.i2l, 1) := by decide +kernel
theorem dX11_answer_115 : decode cX11_answer 115 = .ok (.lreturn, 1) := by decide +kernel
theorem dX11_answer_116 : decode cX11_answer 116 = .ok (.aload_n 0, 1) := by decide +kernel
theorem dX11_answer_117 : decode cX11_answer 117 = .ok (.getfield 42, 3) := by decide +kernel
theorem dX11_answer_120 : decode cX11_answer 120 = .ok (.aload_n 1, 1) := by decide +kernel
theorem dX11_answer_121 : decode cX11_answer 121 = .ok (.invokevirtual 276, 3) := by decide +kernel
theorem dX11_answer_124 : decode cX11_answer 124 = .ok (.i2l, 1) := by decide +kernel
theorem dX11_answer_125 : decode cX11_answer 125 = .ok (.lreturn, 1) := by decide +kernel
theorem dX11_answer_126 : decode cX11_answer 126 = .ok (.aload_n 0, 1) := by decide +kernel
theorem dX11_answer_127 : decode cX11_answer 127 = .ok (.getfield 42, 3) := by decide +kernel
theorem dX11_answer_130 : decode cX11_answer 130 = .ok (.aload_n 1, 1) := by decide +kernel
theorem dX11_answer_131 : decode cX11_answer 131 = .ok (.invokevirtual 279, 3) := by decide +kernel
theorem dX11_answer_134 : decode cX11_answer 134 = .ok (.i2l, 1) := by decide +kernel
theorem dX11_answer_135 : decode cX11_answer 135 = .ok (.lreturn, 1) := by decide +kernel
theorem dX11_answer_136 : decode cX11_answer 136 = .ok (.aload_n 0, 1) := by decide +kernel
theorem dX11_answer_137 : decode cX11_answer 137 = .ok (.getfield 49, 3) := by decide +kernel
theorem dX11_answer_140 : decode cX11_answer 140 = .ok (.aload_n 1, 1) := by decide +kernel
theorem dX11_answer_141 : decode cX11_answer 141 = .ok (.invokevirtual 282, 3) := by decide +kernel
theorem dX11_answer_144 : decode cX11_answer 144 = .ok (.i2l, 1) := by decide +kernel
theorem dX11_answer_145 : decode cX11_answer 145 = .ok (.lreturn, 1) := by decide +kernel
theorem dX11_answer_146 : decode cX11_answer 146 = .ok (.aload_n 0, 1) := by decide +kernel
theorem dX11_answer_147 : decode cX11_answer 147 = .ok (.getfield 49, 3) := by decide +kernel
theorem dX11_answer_150 : decode cX11_answer 150 = .ok (.aload_n 1, 1) := by decide +kernel
theorem dX11_answer_151 : decode cX11_answer 151 = .ok (.invokevirtual 285, 3) := by decide +kernel
theorem dX11_answer_154 : decode cX11_answer 154 = .ok (.i2l, 1) := by decide +kernel
theorem dX11_answer_155 : decode cX11_answer 155 = .ok (.lreturn, 1) := by decide +kernel
theorem dX11_answer_156 : decode cX11_answer 156 = .ok (.aload_n 0, 1) := by decide +kernel
theorem dX11_answer_157 : decode cX11_answer 157 = .ok (.getfield 35, 3) := by decide +kernel
theorem dX11_answer_160 : decode cX11_answer 160 = .ok (.aload_n 1, 1) := by decide +kernel
theorem dX11_answer_161 : decode cX11_answer 161 = .ok (.invokevirtual 288, 3) := by decide +kernel
theorem dX11_answer_164 : decode cX11_answer 164 = .ok (.lreturn, 1) := by decide +kernel
theorem dX11_answer_165 : decode cX11_answer 165 = .ok (.aload_n 1, 1) := by decide +kernel
theorem dX11_answer_166 : decode cX11_answer 166 = .ok (.invokestatic 292, 3) := by decide +kernel
theorem dX11_answer_169 : decode cX11_answer 169 = .ok (.lreturn, 1) := by decide +kernel
theorem dX11_answer_170 : decode cX11_answer 170 = .ok (.aload_n 1, 1) := by decide +kernel
theorem dX11_answer_171 : decode cX11_answer 171 = .ok (.invokestatic 295, 3) := by decide +kernel
theorem dX11_answer_174 : decode cX11_answer 174 = .ok (.iload_n 3, 1) := by decide +kernel
theorem dX11_answer_175 : decode cX11_answer 175 = .ok (.lshr, 1) := by decide +kernel
theorem dX11_answer_176 : decode cX11_answer 176 = .ok (.lconst 1, 1) := by decide +kernel
theorem dX11_answer_177 : decode cX11_answer 177 = .ok (.land, 1) := by decide +kernel
theorem dX11_answer_178 : decode cX11_answer 178 = .ok (.lreturn, 1) := by decide +kernel
theorem dX11_answer_179 : decode cX11_answer 179 = .ok (.aload_n 0, 1) := by decide +kernel
theorem dX11_answer_180 : decode cX11_answer 180 = .ok (.getfield 56, 3) := by decide +kernel
theorem dX11_answer_183 : decode cX11_answer 183 = .ok (.aload_n 1, 1) := by decide +kernel
theorem dX11_answer_184 : decode cX11_answer 184 = .ok (.iconst 0, 1) := by decide +kernel
theorem dX11_answer_185 : decode cX11_answer 185 = .ok (.iload_n 3, 1) := by decide +kernel
theorem dX11_answer_186 : decode cX11_answer 186 = .ok (.iload 4, 2) := by decide +kernel
theorem dX11_answer_188 : decode cX11_answer 188 = .ok (.invokevirtual 298, 3) := by decide +kernel
theorem dX11_answer_191 : decode cX11_answer 191 = .ok (.lreturn, 1) := by decide +kernel
theorem dX11_answer_192 : decode cX11_answer 192 = .ok (.aload_n 0, 1) := by decide +kernel
theorem dX11_answer_193 : decode cX11_answer 193 = .ok (.getfield 56, 3) := by decide +kernel
theorem dX11_answer_196 : decode cX11_answer 196 = .ok (.aload_n 1, 1) := by decide +kernel
theorem dX11_answer_197 : decode cX11_answer 197 = .ok (.iload_n 3, 1) := by decide +kernel
theorem dX11_answer_198 : decode cX11_answer 198 = .ok (.iload 4, 2) := by decide +kernel
theorem dX11_answer_200 : decode cX11_answer 200 = .ok (.invokevirtual 302, 3) := by decide +kernel
theorem dX11_answer_203 : decode cX11_answer 203 = .ok (.i2l, 1) := by decide +kernel
theorem dX11_answer_204 : decode cX11_answer 204 = .ok (.lreturn, 1) := by decide +kernel
theorem dX11_answer_205 : decode cX11_answer 205 = .ok (.aload_n 0, 1) := by decide +kernel
theorem dX11_answer_206 : decode cX11_answer 206 = .ok (.getfield 56, 3) := by decide +kernel
theorem dX11_answer_209 : decode cX11_answer 209 = .ok (.aload_n 1, 1) := by decide +kernel
theorem dX11_answer_210 : decode cX11_answer 210 = .ok (.iload_n 3, 1) := by decide +kernel
theorem dX11_answer_211 : decode cX11_answer 211 = .ok (.iload 4, 2) := by decide +kernel
theorem dX11_answer_213 : decode cX11_answer 213 = .ok (.invokevirtual 306, 3) := by decide +kernel
theorem dX11_answer_216 : decode cX11_answer 216 = .ok (.lreturn, 1) := by decide +kernel
theorem dX11_answer_217 : decode cX11_answer 217 = .ok (.aload_n 0, 1) := by decide +kernel
theorem dX11_answer_218 : decode cX11_answer 218 = .ok (.getfield 56, 3) := by decide +kernel
theorem dX11_answer_221 : decode cX11_answer 221 = .ok (.aload_n 1, 1) := by decide +kernel
theorem dX11_answer_222 : decode cX11_answer 222 = .ok (.iconst 1, 1) := by decide +kernel
theorem dX11_answer_223 : decode cX11_answer 223 = .ok (.iload_n 3, 1) := by decide +kernel
theorem dX11_answer_224 : decode cX11_answer 224 = .ok (.iload 4, 2) := by decide +kernel
theorem dX11_answer_226 : decode cX11_answer 226 = .ok (.invokevirtual 298, 3) := by decide +kernel
theorem dX11_answer_229 : decode cX11_answer 229 = .ok (.lreturn, 1) := by decide +kernel
theorem kX11_259 : lkK (gS, X) RX11 259 mX8_order 2 ∧ Cond.static yX8_order ∈ g_ws (gS, X) := ⟨⟨tb_good, (tb_t (k := 909) (w := Cond.methodLink RX11 259 yX8_order) (by decide +kernel)), (tb_t (k := 3) (w := Cond.initialized RX8) (by decide +kernel)), (tb_t (k := 911) (w := Cond.code yX8_order cX8_order 6 (some .int)) (by decide +kernel)), by decide +kernel, by decide⟩, (tb_t (k := 910) (w := Cond.static yX8_order) (by decide +kernel))⟩
theorem kX11_263 : lkK (gS, X) RX11 263 mX8_ring 1 ∧ Cond.static yX8_ring ∈ g_ws (gS, X) := ⟨⟨tb_good, (tb_t (k := 915) (w := Cond.methodLink RX11 263 yX8_ring) (by decide +kernel)), (tb_t (k := 3) (w := Cond.initialized RX8) (by decide +kernel)), (tb_t (k := 917) (w := Cond.code yX8_ring cX8_ring 1 (some .int)) (by decide +kernel)), by decide +kernel, by decide⟩, (tb_t (k := 916) (w := Cond.static yX8_ring) (by decide +kernel))⟩
theorem kX11_267 : lkK (gS, X) RX11 267 mX8_side 2 ∧ Cond.static yX8_side ∈ g_ws (gS, X) := ⟨⟨tb_good, (tb_t (k := 927) (w := Cond.methodLink RX11 267 yX8_side) (by decide +kernel)), (tb_t (k := 3) (w := Cond.initialized RX8) (by decide +kernel)), (tb_t (k := 929) (w := Cond.code yX8_side cX8_side 7 (some .int)) (by decide +kernel)), by decide +kernel, by decide⟩, (tb_t (k := 928) (w := Cond.static yX8_side) (by decide +kernel))⟩
theorem kX11_270 : lkK (gS, X) RX11 270 mX7_greatestJoined 1 ∧ Cond.instanceMethod yX7_greatestJoined ∈ g_ws (gS, X) ∧ Cond.selects RX7 yX7_greatestJoined yX7_greatestJoined ∈ g_ws (gS, X) ∧ yX7_greatestJoined.cls = RX7 := ⟨⟨tb_good, (tb_t (k := 930) (w := Cond.methodLink RX11 270 yX7_greatestJoined) (by decide +kernel)), (tb_t (k := 4) (w := Cond.initialized RX7) (by decide +kernel)), (tb_t (k := 933) (w := Cond.code yX7_greatestJoined cX7_greatestJoined 2 (some .int)) (by decide +kernel)), by decide +kernel, by decide⟩, (tb_t (k := 931) (w := Cond.instanceMethod yX7_greatestJoined) (by decide +kernel)), (tb_t (k := 932) (w := Cond.selects RX7 yX7_greatestJoined yX7_greatestJoined) (by decide +kernel)), rfl⟩
theorem kX11_273 : lkK (gS, X) RX11 273 mX7_greatestApart 1 ∧ Cond.instanceMethod yX7_greatestApart ∈ g_ws (gS, X) ∧ Cond.selects RX7 yX7_greatestApart yX7_greatestApart ∈ g_ws (gS, X) ∧ yX7_greatestApart.cls = RX7 := ⟨⟨tb_good, (tb_t (k := 947) (w := Cond.methodLink RX11 273 yX7_greatestApart) (by decide +kernel)), (tb_t (k := 4) (w := Cond.initialized RX7) (by decide +kernel)), (tb_t (k := 950) (w := Cond.code yX7_greatestApart cX7_greatestApart 2 (some .int)) (by decide +kernel)), by decide +kernel, by decide⟩, (tb_t (k := 948) (w := Cond.instanceMethod yX7_greatestApart) (by decide +kernel)), (tb_t (k := 949) (w := Cond.selects RX7 yX7_greatestApart yX7_greatestApart) (by decide +kernel)), rfl⟩
theorem kX11_276 : lkK (gS, X) RX11 276 mX7_colours 1 ∧ Cond.instanceMethod yX7_colours ∈ g_ws (gS, X) ∧ Cond.selects RX7 yX7_colours yX7_colours ∈ g_ws (gS, X) ∧ yX7_colours.cls = RX7 := ⟨⟨tb_good, (tb_t (k := 951) (w := Cond.methodLink RX11 276 yX7_colours) (by decide +kernel)), (tb_t (k := 4) (w := Cond.initialized RX7) (by decide +kernel)), (tb_t (k := 954) (w := Cond.code yX7_colours cX7_colours 4 (some .int)) (by decide +kernel)), by decide +kernel, by decide⟩, (tb_t (k := 952) (w := Cond.instanceMethod yX7_colours) (by decide +kernel)), (tb_t (k := 953) (w := Cond.selects RX7 yX7_colours yX7_colours) (by decide +kernel)), rfl⟩
theorem kX11_279 : lkK (gS, X) RX11 279 mX7_width 1 ∧ Cond.instanceMethod yX7_width ∈ g_ws (gS, X) ∧ Cond.selects RX7 yX7_width yX7_width ∈ g_ws (gS, X) ∧ yX7_width.cls = RX7 := ⟨⟨tb_good, (tb_t (k := 967) (w := Cond.methodLink RX11 279 yX7_width) (by decide +kernel)), (tb_t (k := 4) (w := Cond.initialized RX7) (by decide +kernel)), (tb_t (k := 970) (w := Cond.code yX7_width cX7_width 6 (some .int)) (by decide +kernel)), by decide +kernel, by decide⟩, (tb_t (k := 968) (w := Cond.instanceMethod yX7_width) (by decide +kernel)), (tb_t (k := 969) (w := Cond.selects RX7 yX7_width yX7_width) (by decide +kernel)), rfl⟩
theorem kX11_282 : lkK (gS, X) RX11 282 mX4_greatest 1 ∧ Cond.instanceMethod yX4_greatest ∈ g_ws (gS, X) ∧ Cond.selects RX4 yX4_greatest yX4_greatest ∈ g_ws (gS, X) ∧ yX4_greatest.cls = RX4 := ⟨⟨tb_good, (tb_t (k := 1014) (w := Cond.methodLink RX11 282 yX4_greatest) (by decide +kernel)), (tb_t (k := 5) (w := Cond.initialized RX4) (by decide +kernel)), (tb_t (k := 1017) (w := Cond.code yX4_greatest cX4_greatest 5 (some .int)) (by decide +kernel)), by decide +kernel, by decide⟩, (tb_t (k := 1015) (w := Cond.instanceMethod yX4_greatest) (by decide +kernel)), (tb_t (k := 1016) (w := Cond.selects RX4 yX4_greatest yX4_greatest) (by decide +kernel)), rfl⟩
theorem kX11_285 : lkK (gS, X) RX11 285 mX4_missed 1 ∧ Cond.instanceMethod yX4_missed ∈ g_ws (gS, X) ∧ Cond.selects RX4 yX4_missed yX4_missed ∈ g_ws (gS, X) ∧ yX4_missed.cls = RX4 := ⟨⟨tb_good, (tb_t (k := 1043) (w := Cond.methodLink RX11 285 yX4_missed) (by decide +kernel)), (tb_t (k := 5) (w := Cond.initialized RX4) (by decide +kernel)), (tb_t (k := 1046) (w := Cond.code yX4_missed cX4_missed 5 (some .int)) (by decide +kernel)), by decide +kernel, by decide⟩, (tb_t (k := 1044) (w := Cond.instanceMethod yX4_missed) (by decide +kernel)), (tb_t (k := 1045) (w := Cond.selects RX4 yX4_missed yX4_missed) (by decide +kernel)), rfl⟩
theorem kX11_288 : lkK (gS, X) RX11 288 mX8_trees 1 ∧ Cond.instanceMethod yX8_trees ∈ g_ws (gS, X) ∧ Cond.selects RX8 yX8_trees yX8_trees ∈ g_ws (gS, X) ∧ yX8_trees.cls = RX8 := ⟨⟨tb_good, (tb_t (k := 1048) (w := Cond.methodLink RX11 288 yX8_trees) (by decide +kernel)), (tb_t (k := 3) (w := Cond.initialized RX8) (by decide +kernel)), (tb_t (k := 1051) (w := Cond.code yX8_trees cX8_trees 6 (some .long)) (by decide +kernel)), by decide +kernel, by decide⟩, (tb_t (k := 1049) (w := Cond.instanceMethod yX8_trees) (by decide +kernel)), (tb_t (k := 1050) (w := Cond.selects RX8 yX8_trees yX8_trees) (by decide +kernel)), rfl⟩
theorem kX11_292 : lkK (gS, X) RX11 292 mX8_lightWeight 1 ∧ Cond.static yX8_lightWeight ∈ g_ws (gS, X) := ⟨⟨tb_good, (tb_t (k := 1075) (w := Cond.methodLink RX11 292 yX8_lightWeight) (by decide +kernel)), (tb_t (k := 3) (w := Cond.initialized RX8) (by decide +kernel)), (tb_t (k := 1077) (w := Cond.code yX8_lightWeight cX8_lightWeight 6 (some .long)) (by decide +kernel)), by decide +kernel, by decide⟩, (tb_t (k := 1076) (w := Cond.static yX8_lightWeight) (by decide +kernel))⟩
theorem kX11_295 : lkK (gS, X) RX11 295 mX8_lightArcs 1 ∧ Cond.static yX8_lightArcs ∈ g_ws (gS, X) := ⟨⟨tb_good, (tb_t (k := 1087) (w := Cond.methodLink RX11 295 yX8_lightArcs) (by decide +kernel)), (tb_t (k := 3) (w := Cond.initialized RX8) (by decide +kernel)), (tb_t (k := 1080) (w := Cond.code yX8_lightArcs cX8_lightArcs 8 (some .long)) (by decide +kernel)), by decide +kernel, by decide⟩, (tb_t (k := 1079) (w := Cond.static yX8_lightArcs) (by decide +kernel))⟩
theorem kX11_298 : lkK (gS, X) RX11 298 mX2_most 4 ∧ Cond.instanceMethod yX2_most ∈ g_ws (gS, X) ∧ Cond.selects RX2 yX2_most yX2_most ∈ g_ws (gS, X) ∧ yX2_most.cls = RX2 := ⟨⟨tb_good, (tb_t (k := 1088) (w := Cond.methodLink RX11 298 yX2_most) (by decide +kernel)), (tb_t (k := 6) (w := Cond.initialized RX2) (by decide +kernel)), (tb_t (k := 1091) (w := Cond.code yX2_most cX2_most 8 (some .long)) (by decide +kernel)), by decide +kernel, by decide⟩, (tb_t (k := 1089) (w := Cond.instanceMethod yX2_most) (by decide +kernel)), (tb_t (k := 1090) (w := Cond.selects RX2 yX2_most yX2_most) (by decide +kernel)), rfl⟩
theorem kX11_302 : lkK (gS, X) RX11 302 mX2_cut 3 ∧ Cond.instanceMethod yX2_cut ∈ g_ws (gS, X) ∧ Cond.selects RX2 yX2_cut yX2_cut ∈ g_ws (gS, X) ∧ yX2_cut.cls = RX2 := ⟨⟨tb_good, (tb_t (k := 1105) (w := Cond.methodLink RX11 302 yX2_cut) (by decide +kernel)), (tb_t (k := 6) (w := Cond.initialized RX2) (by decide +kernel)), (tb_t (k := 1108) (w := Cond.code yX2_cut cX2_cut 4 (some .int)) (by decide +kernel)), by decide +kernel, by decide⟩, (tb_t (k := 1106) (w := Cond.instanceMethod yX2_cut) (by decide +kernel)), (tb_t (k := 1107) (w := Cond.selects RX2 yX2_cut yX2_cut) (by decide +kernel)), rfl⟩
theorem kX11_306 : lkK (gS, X) RX11 306 mX2_price 3 ∧ Cond.instanceMethod yX2_price ∈ g_ws (gS, X) ∧ Cond.selects RX2 yX2_price yX2_price ∈ g_ws (gS, X) ∧ yX2_price.cls = RX2 := ⟨⟨tb_good, (tb_t (k := 1110) (w := Cond.methodLink RX11 306 yX2_price) (by decide +kernel)), (tb_t (k := 6) (w := Cond.initialized RX2) (by decide +kernel)), (tb_t (k := 1113) (w := Cond.code yX2_price cX2_price 7 (some .long)) (by decide +kernel)), by decide +kernel, by decide⟩, (tb_t (k := 1111) (w := Cond.instanceMethod yX2_price) (by decide +kernel)), (tb_t (k := 1112) (w := Cond.selects RX2 yX2_price yX2_price) (by decide +kernel)), rfl⟩
end NM
