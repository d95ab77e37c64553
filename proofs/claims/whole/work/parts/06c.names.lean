section NM
variable {X : va_G × List (ClassId × FieldType) × (Nat × Nat × Nat × (Nat → Int32))}
theorem dX3_init_0 : decode cX3_init 0 = .ok (.aload_n 0, 1) := by decide +kernel
theorem dX3_init_1 : decode cX3_init 1 = .ok (.aload_n 1, 1) := by decide +kernel
theorem dX3_init_2 : decode cX3_init 2 = .ok (.getfield 3, 3) := by decide +kernel
theorem dX3_init_5 : decode cX3_init 5 = .ok (.invokespecial 9, 3) := by decide +kernel
theorem dX3_init_8 : decode cX3_init 8 = .ok (.aload_n 0, 1) := by decide +kernel
theorem dX3_init_9 : decode cX3_init 9 = .ok (.aload_n 1, 1) := by decide +kernel
theorem dX3_init_10 : decode cX3_init 10 = .ok (.getfield 15, 3) := by decide +kernel
theorem dX3_init_13 : decode cX3_init 13 = .ok (.putfield 19, 3) := by decide +kernel
theorem dX3_init_16 : decode cX3_init 16 = .ok (.aload_n 0, 1) := by decide +kernel
theorem dX3_init_17 : decode cX3_init 17 = .ok (.aload_n 1, 1) := by decide +kernel
theorem dX3_init_18 : decode cX3_init 18 = .ok (.getfield 22, 3) := by decide +kernel
theorem dX3_init_21 : decode cX3_init 21 = .ok (.putfield 25, 3) := by decide +kernel
theorem dX3_init_24 : decode cX3_init 24 = .ok (.aload_n 0, 1) := by decide +kernel
theorem dX3_init_25 : decode cX3_init 25 = .ok (.aload_n 1, 1) := by decide +kernel
theorem dX3_init_26 : decode cX3_init 26 = .ok (.getfield 26, 3) := by decide +kernel
theorem dX3_init_29 : decode cX3_init 29 = .ok (.aload_n 0, 1) := by decide +kernel
theorem dX3_init_30 : decode cX3_init 30 = .ok (.getfield 25, 3) := by decide +kernel
theorem dX3_init_33 : decode cX3_init 33 = .ok (.invokestatic 30, 3) := by decide +kernel
theorem dX3_init_36 : decode cX3_init 36 = .ok (.putfield 36, 3) := by decide +kernel
theorem dX3_init_39 : decode cX3_init 39 = .ok (.aload_n 0, 1) := by decide +kernel
theorem dX3_init_40 : decode cX3_init 40 = .ok (.aload_n 1, 1) := by decide +kernel
theorem dX3_init_41 : decode cX3_init 41 = .ok (.getfield 37, 3) := by decide +kernel
theorem dX3_init_44 : decode cX3_init 44 = .ok (.aload_n 0, 1) := by decide +kernel
theorem dX3_init_45 : decode cX3_init 45 = .ok (.getfield 25, 3) := by decide +kernel
theorem dX3_init_48 : decode cX3_init 48 = .ok (.invokestatic 30, 3) := by decide +kernel
theorem dX3_init_51 : decode cX3_init 51 = .ok (.putfield 40, 3) := by decide +kernel
theorem dX3_init_54 : decode cX3_init 54 = .ok (.aload_n 0, 1) := by decide +kernel
theorem dX3_init_55 : decode cX3_init 55 = .ok (.aload_n 1, 1) := by decide +kernel
theorem dX3_init_56 : decode cX3_init 56 = .ok (.getfield 41, 3) := by decide +kernel
theorem dX3_init_59 : decode cX3_init 59 = .ok (.aload_n 0, 1) := by decide +kernel
theorem dX3_init_60 : decode cX3_init 60 = .ok (.getfield 25, 3) := by decide +kernel
theorem dX3_init_63 : decode cX3_init 63 = .ok (.invokestatic 30, 3) := by decide +kernel
theorem dX3_init_66 : decode cX3_init 66 = .ok (.putfield 44, 3) := by decide +kernel
theorem dX3_init_69 : decode cX3_init 69 = .ok (.aload_n 0, 1) := by decide +kernel
theorem dX3_init_70 : decode cX3_init 70 = .ok (.aload_n 1, 1) := by decide +kernel
theorem dX3_init_71 : decode cX3_init 71 = .ok (.getfield 45, 3) := by decide +kernel
theorem dX3_init_74 : decode cX3_init 74 = .ok (.aload_n 0, 1) := by decide +kernel
theorem dX3_init_75 : decode cX3_init 75 = .ok (.getfield 25, 3) := by decide +kernel
theorem dX3_init_78 : decode cX3_init 78 = .ok (.invokestatic 30, 3) := by decide +kernel
theorem dX3_init_81 : decode cX3_init 81 = .ok (.putfield 48, 3) := by decide +kernel
theorem dX3_init_84 : decode cX3_init 84 = .ok (.aload_n 0, 1) := by decide +kernel
theorem dX3_init_85 : decode cX3_init 85 = .ok (.aload_n 0, 1) := by decide +kernel
theorem dX3_init_86 : decode cX3_init 86 = .ok (.getfield 49, 3) := by decide +kernel
theorem dX3_init_89 : decode cX3_init 89 = .ok (.newarray .int, 2) := by decide +kernel
theorem dX3_init_91 : decode cX3_init 91 = .ok (.putfield 50, 3) := by decide +kernel
theorem dX3_init_94 : decode cX3_init 94 = .ok (.aload_n 0, 1) := by decide +kernel
theorem dX3_init_95 : decode cX3_init 95 = .ok (.aload_n 0, 1) := by decide +kernel
theorem dX3_init_96 : decode cX3_init 96 = .ok (.getfield 49, 3) := by decide +kernel
theorem dX3_init_99 : decode cX3_init 99 = .ok (.newarray .int, 2) := by decide +kernel
theorem dX3_init_101 : decode cX3_init 101 = .ok (.putfield 53, 3) := by decide +kernel
theorem dX3_init_104 : decode cX3_init 104 = .ok (.aload_n 0, 1) := by decide +kernel
theorem dX3_init_105 : decode cX3_init 105 = .ok (.aload_n 0, 1) := by decide +kernel
theorem dX3_init_106 : decode cX3_init 106 = .ok (.getfield 49, 3) := by decide +kernel
theorem dX3_init_109 : decode cX3_init 109 = .ok (.newarray .int, 2) := by decide +kernel
theorem dX3_init_111 : decode cX3_init 111 = .ok (.putfield 56, 3) := by decide +kernel
theorem dX3_init_114 : decode cX3_init 114 = .ok (.aload_n 0, 1) := by decide +kernel
theorem dX3_init_115 : decode cX3_init 115 = .ok (.aload_n 1, 1) := by decide +kernel
theorem dX3_init_116 : decode cX3_init 116 = .ok (.invokestatic 59, 3) := by decide +kernel
theorem dX3_init_119 : decode cX3_init 119 = .ok (.putfield 63, 3) := by decide +kernel
theorem dX3_init_122 : decode cX3_init 122 = .ok (.aload_n 0, 1) := by decide +kernel
theorem dX3_init_123 : decode cX3_init 123 = .ok (.aload_n 0, 1) := by decide +kernel
theorem dX3_init_124 : decode cX3_init 124 = .ok (.getfield 63, 3) := by decide +kernel
theorem dX3_init_127 : decode cX3_init 127 = .ok (.newarray .int, 2) := by decide +kernel
theorem dX3_init_129 : decode cX3_init 129 = .ok (.putfield 66, 3) := by decide +kernel
theorem dX3_init_132 : decode cX3_init 132 = .ok (.aload_n 0, 1) := by decide +kernel
theorem dX3_init_133 : decode cX3_init 133 = .ok (.aload_n 0, 1) := by decide +kernel
theorem dX3_init_134 : decode cX3_init 134 = .ok (.getfield 63, 3) := by decide +kernel
theorem dX3_init_137 : decode cX3_init 137 = .ok (.newarray .int, 2) := by decide +kernel
theorem dX3_init_139 : decode cX3_init 139 = .ok (.putfield 69, 3) := by decide +kernel
theorem dX3_init_142 : decode cX3_init 142 = .ok (.aload_n 0, 1) := by decide +kernel
theorem dX3_init_143 : decode cX3_init 143 = .ok (.aload_n 0, 1) := by decide +kernel
theorem dX3_init_144 : decode cX3_init 144 = .ok (.getfield 63, 3) := by decide +kernel
theorem dX3_init_147 : decode cX3_init 147 = .ok (.newarray .int, 2) := by decide +kernel
theorem dX3_init_149 : decode cX3_init 149 = .ok (.putfield 72, 3) := by decide +kernel
theorem dX3_init_152 : decode cX3_init 152 = .ok (.aload_n 0, 1) := by decide +kernel
theorem dX3_init_153 : decode cX3_init 153 = .ok (.invokevirtual 75, 3) := by decide +kernel
theorem dX3_init_156 : decode cX3_init 156 = .ok (.aload_n 0, 1) := by decide +kernel
theorem dX3_init_157 : decode cX3_init 157 = .ok (.invokevirtual 79, 3) := by decide +kernel
theorem dX3_init_160 : decode cX3_init 160 = .ok (.return_, 1) := by decide +kernel
theorem fX3_3 : lkF (gS, X) RX3 3 1 0 "GraphEngine$Draft" RX1 TX1 8 := ⟨rfl, inX1, by decide, (tb_t (k := 34) (w := Cond.fieldLink RX3 3 "GraphEngine$Draft" "nodes" "I") (by decide +kernel)), Or.inl rfl⟩
theorem kX3_9 : lkK (gS, X) RX3 9 mX9_init 1 ∧ Cond.instanceMethod yX9_init ∈ g_ws (gS, X) ∧ yX9_init.name = "<init>" ∧ mX9_init.2.2.2 = none := ⟨⟨tb_good, (tb_t (k := 253) (w := Cond.methodLink RX3 9 yX9_init) (by decide +kernel)), (tb_t (k := 9) (w := Cond.initialized RX9) (by decide +kernel)), (tb_t (k := 255) (w := Cond.code yX9_init cX9_init 2 none) (by decide +kernel)), by decide +kernel, by decide⟩, (tb_t (k := 254) (w := Cond.instanceMethod yX9_init) (by decide +kernel)), rfl, rfl⟩
theorem fX3_15 : lkF (gS, X) RX3 15 1 1 "GraphEngine$Draft" RX1 TX1 8 := ⟨rfl, inX1, by decide, (tb_t (k := 37) (w := Cond.fieldLink RX3 15 "GraphEngine$Draft" "directed" "Z") (by decide +kernel)), Or.inl rfl⟩
theorem fX3_19 : lkF (gS, X) RX3 19 3 1 "GraphEngine$Graph" RX3 TX3 14 := ⟨rfl, inX3, by decide, (tb_t (k := 284) (w := Cond.fieldLink RX3 19 "GraphEngine$Graph" "directed" "Z") (by decide +kernel)), Or.inl rfl⟩
theorem fX3_22 : lkF (gS, X) RX3 22 1 2 "GraphEngine$Draft" RX1 TX1 8 := ⟨rfl, inX1, by decide, (tb_t (k := 40) (w := Cond.fieldLink RX3 22 "GraphEngine$Draft" "arcs" "I") (by decide +kernel)), Or.inl rfl⟩
theorem fX3_25 : lkF (gS, X) RX3 25 3 2 "GraphEngine$Graph" RX3 TX3 14 := ⟨rfl, inX3, by decide, (tb_t (k := 290) (w := Cond.fieldLink RX3 25 "GraphEngine$Graph" "arcs" "I") (by decide +kernel)), Or.inl rfl⟩
theorem fX3_26 : lkF (gS, X) RX3 26 1 3 "GraphEngine$Draft" RX1 TX1 8 := ⟨rfl, inX1, by decide, (tb_t (k := 43) (w := Cond.fieldLink RX3 26 "GraphEngine$Draft" "from" "[I") (by decide +kernel)), Or.inl rfl⟩
theorem kX3_30 : lkK (gS, X) RX3 30 mJ7_copyOf_59c91 2 ∧ Cond.static yJ7_copyOf_59c91 ∈ g_ws (gS, X) := ⟨⟨tb_good, (tb_t (k := 257) (w := Cond.methodLink RX3 30 yJ7_copyOf_59c91) (by decide +kernel)), (tb_t (k := 11) (w := Cond.initialized RJ7) (by decide +kernel)), (tb_t (k := 259) (w := Cond.code yJ7_copyOf_59c91 cJ7_copyOf_59c91 3 (some (.array .int))) (by decide +kernel)), by decide +kernel, by decide⟩, (tb_t (k := 258) (w := Cond.static yJ7_copyOf_59c91) (by decide +kernel))⟩
theorem fX3_36 : lkF (gS, X) RX3 36 3 3 "GraphEngine$Graph" RX3 TX3 14 := ⟨rfl, inX3, by decide, (tb_t (k := 296) (w := Cond.fieldLink RX3 36 "GraphEngine$Graph" "from" "[I") (by decide +kernel)), Or.inl rfl⟩
theorem fX3_37 : lkF (gS, X) RX3 37 1 4 "GraphEngine$Draft" RX1 TX1 8 := ⟨rfl, inX1, by decide, (tb_t (k := 45) (w := Cond.fieldLink RX3 37 "GraphEngine$Draft" "to" "[I") (by decide +kernel)), Or.inl rfl⟩
theorem fX3_40 : lkF (gS, X) RX3 40 3 4 "GraphEngine$Graph" RX3 TX3 14 := ⟨rfl, inX3, by decide, (tb_t (k := 301) (w := Cond.fieldLink RX3 40 "GraphEngine$Graph" "to" "[I") (by decide +kernel)), Or.inl rfl⟩
theorem fX3_41 : lkF (gS, X) RX3 41 1 5 "GraphEngine$Draft" RX1 TX1 8 := ⟨rfl, inX1, by decide, (tb_t (k := 47) (w := Cond.fieldLink RX3 41 "GraphEngine$Draft" "weight" "[I") (by decide +kernel)), Or.inl rfl⟩
theorem fX3_44 : lkF (gS, X) RX3 44 3 5 "GraphEngine$Graph" RX3 TX3 14 := ⟨rfl, inX3, by decide, (tb_t (k := 306) (w := Cond.fieldLink RX3 44 "GraphEngine$Graph" "weight" "[I") (by decide +kernel)), Or.inl rfl⟩
theorem fX3_45 : lkF (gS, X) RX3 45 1 6 "GraphEngine$Draft" RX1 TX1 8 := ⟨rfl, inX1, by decide, (tb_t (k := 49) (w := Cond.fieldLink RX3 45 "GraphEngine$Draft" "cost" "[I") (by decide +kernel)), Or.inl rfl⟩
theorem fX3_48 : lkF (gS, X) RX3 48 3 6 "GraphEngine$Graph" RX3 TX3 14 := ⟨rfl, inX3, by decide, (tb_t (k := 313) (w := Cond.fieldLink RX3 48 "GraphEngine$Graph" "cost" "[I") (by decide +kernel)), Or.inl rfl⟩
theorem fX3_49 : lkF (gS, X) RX3 49 3 0 "GraphEngine$Graph" RX3 TX3 14 := ⟨rfl, inX3, by decide, (tb_t (k := 358) (w := Cond.fieldLink RX3 49 "GraphEngine$Graph" "nodes" "I") (by decide +kernel)), Or.inr (tb_t (k := 351) (w := Cond.sameField "GraphEngine$Graph" "GraphEngine$Thing" "nodes" "I") (by decide +kernel))⟩
theorem fX3_50 : lkF (gS, X) RX3 50 3 11 "GraphEngine$Graph" RX3 TX3 14 := ⟨rfl, inX3, by decide, (tb_t (k := 337) (w := Cond.fieldLink RX3 50 "GraphEngine$Graph" "out" "[I") (by decide +kernel)), Or.inl rfl⟩
theorem fX3_53 : lkF (gS, X) RX3 53 3 12 "GraphEngine$Graph" RX3 TX3 14 := ⟨rfl, inX3, by decide, (tb_t (k := 342) (w := Cond.fieldLink RX3 53 "GraphEngine$Graph" "in" "[I") (by decide +kernel)), Or.inl rfl⟩
theorem fX3_56 : lkF (gS, X) RX3 56 3 13 "GraphEngine$Graph" RX3 TX3 14 := ⟨rfl, inX3, by decide, (tb_t (k := 346) (w := Cond.fieldLink RX3 56 "GraphEngine$Graph" "joined" "[I") (by decide +kernel)), Or.inl rfl⟩
theorem kX3_59 : lkK (gS, X) RX3 59 mX3_countGoings 1 ∧ Cond.static yX3_countGoings ∈ g_ws (gS, X) := ⟨⟨tb_good, (tb_t (k := 273) (w := Cond.methodLink RX3 59 yX3_countGoings) (by decide +kernel)), (tb_t (k := 10) (w := Cond.initialized RX3) (by decide +kernel)), (tb_t (k := 275) (w := Cond.code yX3_countGoings cX3_countGoings 3 (some .int)) (by decide +kernel)), by decide +kernel, by decide⟩, (tb_t (k := 274) (w := Cond.static yX3_countGoings) (by decide +kernel))⟩
theorem fX3_63 : lkF (gS, X) RX3 63 3 7 "GraphEngine$Graph" RX3 TX3 14 := ⟨rfl, inX3, by decide, (tb_t (k := 317) (w := Cond.fieldLink RX3 63 "GraphEngine$Graph" "goings" "I") (by decide +kernel)), Or.inl rfl⟩
theorem fX3_66 : lkF (gS, X) RX3 66 3 8 "GraphEngine$Graph" RX3 TX3 14 := ⟨rfl, inX3, by decide, (tb_t (k := 322) (w := Cond.fieldLink RX3 66 "GraphEngine$Graph" "tail" "[I") (by decide +kernel)), Or.inl rfl⟩
theorem fX3_69 : lkF (gS, X) RX3 69 3 9 "GraphEngine$Graph" RX3 TX3 14 := ⟨rfl, inX3, by decide, (tb_t (k := 327) (w := Cond.fieldLink RX3 69 "GraphEngine$Graph" "head" "[I") (by decide +kernel)), Or.inl rfl⟩
theorem fX3_72 : lkF (gS, X) RX3 72 3 10 "GraphEngine$Graph" RX3 TX3 14 := ⟨rfl, inX3, by decide, (tb_t (k := 332) (w := Cond.fieldLink RX3 72 "GraphEngine$Graph" "by" "[I") (by decide +kernel)), Or.inl rfl⟩
theorem kX3_75 : lkK (gS, X) RX3 75 mX3_fillGoings 0 ∧ Cond.instanceMethod yX3_fillGoings ∈ g_ws (gS, X) ∧ Cond.selects RX3 yX3_fillGoings yX3_fillGoings ∈ g_ws (gS, X) ∧ yX3_fillGoings.cls = RX3 := ⟨⟨tb_good, (tb_t (k := 276) (w := Cond.methodLink RX3 75 yX3_fillGoings) (by decide +kernel)), (tb_t (k := 10) (w := Cond.initialized RX3) (by decide +kernel)), (tb_t (k := 279) (w := Cond.code yX3_fillGoings cX3_fillGoings 3 none) (by decide +kernel)), by decide +kernel, by decide⟩, (tb_t (k := 278) (w := Cond.instanceMethod yX3_fillGoings) (by decide +kernel)), (tb_p (k := 2) (q := (yX3_fillGoings, 14)) (by decide +kernel)), rfl⟩
theorem kX3_79 : lkK (gS, X) RX3 79 mX3_fillNeighbours 0 ∧ Cond.instanceMethod yX3_fillNeighbours ∈ g_ws (gS, X) ∧ Cond.selects RX3 yX3_fillNeighbours yX3_fillNeighbours ∈ g_ws (gS, X) ∧ yX3_fillNeighbours.cls = RX3 := ⟨⟨tb_good, (tb_t (k := 280) (w := Cond.methodLink RX3 79 yX3_fillNeighbours) (by decide +kernel)), (tb_t (k := 10) (w := Cond.initialized RX3) (by decide +kernel)), (tb_t (k := 283) (w := Cond.code yX3_fillNeighbours cX3_fillNeighbours 4 none) (by decide +kernel)), by decide +kernel, by decide⟩, (tb_t (k := 282) (w := Cond.instanceMethod yX3_fillNeighbours) (by decide +kernel)), (tb_p (k := 3) (q := (yX3_fillNeighbours, 14)) (by decide +kernel)), rfl⟩
theorem dX3_countGoings_0 : decode cX3_countGoings 0 = .ok (.aload_n 0, 1) := by decide +kernel
theorem dX3_countGoings_1 : decode cX3_countGoings 1 = .ok (.getfield 22, 3) := by decide +kernel
theorem dX3_countGoings_4 : decode cX3_countGoings 4 = .ok (.istore_n 1, 1) := by decide +kernel
theorem dX3_countGoings_5 : decode cX3_countGoings 5 = .ok (.iconst 0, 1) := by decide +kernel
theorem dX3_countGoings_6 : decode cX3_countGoings 6 = .ok (.istore_n 2, 1) := by decide +kernel
theorem dX3_countGoings_7 : decode cX3_countGoings 7 = .ok (.iload_n 2, 1) := by decide +kernel
theorem dX3_countGoings_8 : decode cX3_countGoings 8 = .ok (.aload_n 0, 1) := by decide +kernel
theorem dX3_countGoings_9 : decode cX3_countGoings 9 = .ok (.getfield 22, 3) := by decide +kernel
theorem dX3_countGoings_12 : decode cX3_countGoings 12 = .ok (.if_icmp .ge 34, 3) := by decide +kernel
theorem dX3_countGoings_15 : decode cX3_countGoings 15 = .ok (.aload_n 0, 1) := by decide +kernel
theorem dX3_countGoings_16 : decode cX3_countGoings 16 = .ok (.getfield 15, 3) := by decide +kernel
theorem dX3_countGoings_19 : decode cX3_countGoings 19 = .ok (.ifCond .ne 21, 3) := by decide +kernel
theorem dX3_countGoings_22 : decode cX3_countGoings 22 = .ok (.aload_n 0, 1) := by decide +kernel
theorem dX3_countGoings_23 : decode cX3_countGoings 23 = .ok (.getfield 26, 3) := by decide +kernel
theorem dX3_countGoings_26 : decode cX3_countGoings 26 = .ok (.iload_n 2, 1) := by decide +kernel
theorem dX3_countGoings_27 : decode cX3_countGoings 27 = .ok (.iaload, 1) := by decide +kernel
theorem dX3_countGoings_28 : decode cX3_countGoings 28 = .ok (.aload_n 0, 1) := by decide +kernel
theorem dX3_countGoings_29 : decode cX3_countGoings 29 = .ok (.getfield 37, 3) := by decide +kernel
theorem dX3_countGoings_32 : decode cX3_countGoings 32 = .ok (.iload_n 2, 1) := by decide +kernel
theorem dX3_countGoings_33 : decode cX3_countGoings 33 = .ok (.iaload, 1) := by decide +kernel
theorem dX3_countGoings_34 : decode cX3_countGoings 34 = .ok (.if_icmp .eq 6, 3) := by decide +kernel
theorem dX3_countGoings_37 : decode cX3_countGoings 37 = .ok (.iinc 1 1, 3) := by decide +kernel
theorem dX3_countGoings_40 : decode cX3_countGoings 40 = .ok (.iinc 2 1, 3) := by decide +kernel
theorem dX3_countGoings_43 : decode cX3_countGoings 43 = .ok (.goto (-36), 3) := by decide +kernel
theorem dX3_countGoings_46 : decode cX3_countGoings 46 = .ok (.iload_n 1, 1) := by decide +kernel
theorem dX3_countGoings_47 : decode cX3_countGoings 47 = .ok (.ireturn, 1) := by decide +kernel
theorem dX3_fillGoings_0 : decode cX3_fillGoings 0 = .ok (.iconst 0, 1) := by decide +kernel
theorem dX3_fillGoings_1 : decode cX3_fillGoings 1 = .ok (.istore_n 1, 1) := by decide +kernel
theorem dX3_fillGoings_2 : decode cX3_fillGoings 2 = .ok (.iconst 0, 1) := by decide +kernel
theorem dX3_fillGoings_3 : decode cX3_fillGoings 3 = .ok (.istore_n 2, 1) := by decide +kernel
theorem dX3_fillGoings_4 : decode cX3_fillGoings 4 = .ok (.iload_n 2, 1) := by decide +kernel
theorem dX3_fillGoings_5 : decode cX3_fillGoings 5 = .ok (.aload_n 0, 1) := by decide +kernel
theorem dX3_fillGoings_6 : decode cX3_fillGoings 6 = .ok (.getfield 25, 3) := by decide +kernel
theorem dX3_fillGoings_9 : decode cX3_fillGoings 9 = .ok (.if_icmp .ge 99, 3) := by decide +kernel
theorem dX3_fillGoings_12 : decode cX3_fillGoings 12 = .ok (.aload_n 0, 1) := by decide +kernel
theorem dX3_fillGoings_13 : decode cX3_fillGoings 13 = .ok (.getfield 66, 3) := by decide +kernel
theorem dX3_fillGoings_16 : decode cX3_fillGoings 16 = .ok (.iload_n 1, 1) := by decide +kernel
theorem dX3_fillGoings_17 : decode cX3_fillGoings 17 = .ok (.aload_n 0, 1) := by decide +kernel
theorem dX3_fillGoings_18 : decode cX3_fillGoings 18 = .ok (.getfield 36, 3) := by decide +kernel
theorem dX3_fillGoings_21 : decode cX3_fillGoings 21 = .ok (.iload_n 2, 1) := by decide +kernel
theorem dX3_fillGoings_22 : decode cX3_fillGoings 22 = .ok (.iaload, 1) := by decide +kernel
theorem dX3_fillGoings_23 : decode cX3_fillGoings 23 = .ok (.iastore, 1) := by decide +kernel
theorem dX3_fillGoings_24 : decode cX3_fillGoings 24 = .ok (.aload_n 0, 1) := by decide +kernel
theorem dX3_fillGoings_25 : decode cX3_fillGoings 25 = .ok (.getfield 69, 3) := by decide +kernel
theorem dX3_fillGoings_28 : decode cX3_fillGoings 28 = .ok (.iload_n 1, 1) := by decide +kernel
theorem dX3_fillGoings_29 : decode cX3_fillGoings 29 = .ok (.aload_n 0, 1) := by decide +kernel
theorem dX3_fillGoings_30 : decode cX3_fillGoings 30 = .ok (.getfield 40, 3) := by decide +kernel
theorem dX3_fillGoings_33 : decode cX3_fillGoings 33 = .ok (.iload_n 2, 1) := by decide +kernel
theorem dX3_fillGoings_34 : decode cX3_fillGoings 34 = .ok (.iaload, 1) := by decide +kernel
theorem dX3_fillGoings_35 : decode cX3_fillGoings 35 = .ok (.iastore, 1) := by decide +kernel
theorem dX3_fillGoings_36 : decode cX3_fillGoings 36 = .ok (.aload_n 0, 1) := by decide +kernel
theorem dX3_fillGoings_37 : decode cX3_fillGoings 37 = .ok (.getfield 72, 3) := by decide +kernel
theorem dX3_fillGoings_40 : decode cX3_fillGoings 40 = .ok (.iload_n 1, 1) := by decide +kernel
theorem dX3_fillGoings_41 : decode cX3_fillGoings 41 = .ok (.iload_n 2, 1) := by decide +kernel
theorem dX3_fillGoings_42 : decode cX3_fillGoings 42 = .ok (.iastore, 1) := by decide +kernel
theorem dX3_fillGoings_43 : decode cX3_fillGoings 43 = .ok (.iinc 1 1, 3) := by decide +kernel
theorem dX3_fillGoings_46 : decode cX3_fillGoings 46 = .ok (.aload_n 0, 1) := by decide +kernel
theorem dX3_fillGoings_47 : decode cX3_fillGoings 47 = .ok (.getfield 19, 3) := by decide +kernel
theorem dX3_fillGoings_50 : decode cX3_fillGoings 50 = .ok (.ifCond .ne 52, 3) := by decide +kernel
theorem dX3_fillGoings_53 : decode cX3_fillGoings 53 = .ok (.aload_n 0, 1) := by decide +kernel
theorem dX3_fillGoings_54 : decode cX3_fillGoings 54 = .ok (.getfield 36, 3) := by decide +kernel
theorem dX3_fillGoings_57 : decode cX3_fillGoings 57 = .ok (.iload_n 2, 1) := by decide +kernel
theorem dX3_fillGoings_58 : decode cX3_fillGoings 58 = .ok (.iaload, 1) := by decide +kernel
theorem dX3_fillGoings_59 : decode cX3_fillGoings 59 = .ok (.aload_n 0, 1) := by decide +kernel
theorem dX3_fillGoings_60 : decode cX3_fillGoings 60 = .ok (.getfield 40, 3) := by decide +kernel
theorem dX3_fillGoings_63 : decode cX3_fillGoings 63 = .ok (.iload_n 2, 1) := by decide +kernel
theorem dX3_fillGoings_64 : decode cX3_fillGoings 64 = .ok (.iaload, 1) := by decide +kernel
theorem dX3_fillGoings_65 : decode cX3_fillGoings 65 = .ok (.if_icmp .eq 37, 3) := by decide +kernel
theorem dX3_fillGoings_68 : decode cX3_fillGoings 68 = .ok (.aload_n 0, 1) := by decide +kernel
theorem dX3_fillGoings_69 : decode cX3_fillGoings 69 = .ok (.getfield 66, 3) := by decide +kernel
theorem dX3_fillGoings_72 : decode cX3_fillGoings 72 = .ok (.iload_n 1, 1) := by decide +kernel
theorem dX3_fillGoings_73 : decode cX3_fillGoings 73 = .ok (.aload_n 0, 1) := by decide +kernel
theorem dX3_fillGoings_74 : decode cX3_fillGoings 74 = .ok (.getfield 40, 3) := by decide +kernel
theorem dX3_fillGoings_77 : decode cX3_fillGoings 77 = .ok (.iload_n 2, 1) := by decide +kernel
theorem dX3_fillGoings_78 : decode cX3_fillGoings 78 = .ok (.iaload, 1) := by decide +kernel
theorem dX3_fillGoings_79 : decode cX3_fillGoings 79 = .ok (.iastore, 1) := by decide +kernel
theorem dX3_fillGoings_80 : decode cX3_fillGoings 80 = .ok (.aload_n 0, 1) := by decide +kernel
theorem dX3_fillGoings_81 : decode cX3_fillGoings 81 = .ok (.getfield 69, 3) := by decide +kernel
theorem dX3_fillGoings_84 : decode cX3_fillGoings 84 = .ok (.iload_n 1, 1) := by decide +kernel
theorem dX3_fillGoings_85 : decode cX3_fillGoings 85 = .ok (.aload_n 0, 1) := by decide +kernel
theorem dX3_fillGoings_86 : decode cX3_fillGoings 86 = .ok (.getfield 36, 3) := by decide +kernel
theorem dX3_fillGoings_89 : decode cX3_fillGoings 89 = .ok (.iload_n 2, 1) := by decide +kernel
theorem dX3_fillGoings_90 : decode cX3_fillGoings 90 = .ok (.iaload, 1) := by decide +kernel
theorem dX3_fillGoings_91 : decode cX3_fillGoings 91 = .ok (.iastore, 1) := by decide +kernel
theorem dX3_fillGoings_92 : decode cX3_fillGoings 92 = .ok (.aload_n 0, 1) := by decide +kernel
theorem dX3_fillGoings_93 : decode cX3_fillGoings 93 = .ok (.getfield 72, 3) := by decide +kernel
theorem dX3_fillGoings_96 : decode cX3_fillGoings 96 = .ok (.iload_n 1, 1) := by decide +kernel
theorem dX3_fillGoings_97 : decode cX3_fillGoings 97 = .ok (.iload_n 2, 1) := by decide +kernel
theorem dX3_fillGoings_98 : decode cX3_fillGoings 98 = .ok (.iastore, 1) := by decide +kernel
theorem dX3_fillGoings_99 : decode cX3_fillGoings 99 = .ok (.iinc 1 1, 3) := by decide +kernel
theorem dX3_fillGoings_102 : decode cX3_fillGoings 102 = .ok (.iinc 2 1, 3) := by decide +kernel
theorem dX3_fillGoings_105 : decode cX3_fillGoings 105 = .ok (.goto (-101), 3) := by decide +kernel
theorem dX3_fillGoings_108 : decode cX3_fillGoings 108 = .ok (.return_, 1) := by decide +kernel
theorem dX3_fillNeighbours_0 : decode cX3_fillNeighbours 0 = .ok (.iconst 0, 1) := by decide +kernel
theorem dX3_fillNeighbours_1 : decode cX3_fillNeighbours 1 = .ok (.istore_n 1, 1) := by decide +kernel
theorem dX3_fillNeighbours_2 : decode cX3_fillNeighbours 2 = .ok (.iload_n 1, 1) := by decide +kernel
theorem dX3_fillNeighbours_3 : decode cX3_fillNeighbours 3 = .ok (.aload_n 0, 1) := by decide +kernel
theorem dX3_fillNeighbours_4 : decode cX3_fillNeighbours 4 = .ok (.getfield 63, 3) := by decide +kernel
theorem dX3_fillNeighbours_7 : decode cX3_fillNeighbours 7 = .ok (.if_icmp .ge 76, 3) := by decide +kernel
theorem dX3_fillNeighbours_10 : decode cX3_fillNeighbours 10 = .ok (.aload_n 0, 1) := by decide +kernel
theorem dX3_fillNeighbours_11 : decode cX3_fillNeighbours 11 = .ok (.getfield 66, 3) := by decide +kernel
theorem dX3_fillNeighbours_14 : decode cX3_fillNeighbours 14 = .ok (.iload_n 1, 1) := by decide +kernel
theorem dX3_fillNeighbours_15 : decode cX3_fillNeighbours 15 = .ok (.iaload, 1) := by decide +kernel
theorem dX3_fillNeighbours_16 : decode cX3_fillNeighbours 16 = .ok (.istore_n 2, 1) := by decide +kernel
theorem dX3_fillNeighbours_17 : decode cX3_fillNeighbours 17 = .ok (.aload_n 0, 1) := by decide +kernel
theorem dX3_fillNeighbours_18 : decode cX3_fillNeighbours 18 = .ok (.getfield 69, 3) := by decide +kernel
theorem dX3_fillNeighbours_21 : decode cX3_fillNeighbours 21 = .ok (.iload_n 1, 1) := by decide +kernel
theorem dX3_fillNeighbours_22 : decode cX3_fillNeighbours 22 = .ok (.iaload, 1) := by decide +kernel
theorem dX3_fillNeighbours_23 : decode cX3_fillNeighbours 23 = .ok (.istore_n 3, 1) := by decide +kernel
theorem dX3_fillNeighbours_24 : decode cX3_fillNeighbours 24 = .ok (.aload_n 0, 1) := by decide +kernel
theorem dX3_fillNeighbours_25 : decode cX3_fillNeighbours 25 = .ok (.getfield 50, 3) := by decide +kernel
theorem dX3_fillNeighbours_28 : decode cX3_fillNeighbours 28 = .ok (.iload_n 2, 1) := by decide +kernel
theorem dX3_fillNeighbours_29 : decode cX3_fillNeighbours 29 = .ok (.dup2, 1) := by decide +kernel
theorem dX3_fillNeighbours_30 : decode cX3_fillNeighbours 30 = .ok (.iaload, 1) := by decide +kernel
theorem dX3_fillNeighbours_31 : decode cX3_fillNeighbours 31 = .ok (.iconst 1, 1) := by decide +kernel
theorem dX3_fillNeighbours_32 : decode cX3_fillNeighbours 32 = .ok (.iload_n 3, 1) := by decide +kernel
theorem dX3_fillNeighbours_33 : decode cX3_fillNeighbours 33 = .ok (.ishl, 1) := by decide +kernel
theorem dX3_fillNeighbours_34 : decode cX3_fillNeighbours 34 = .ok (.ior, 1) := by decide +kernel
theorem dX3_fillNeighbours_35 : decode cX3_fillNeighbours 35 = .ok (.iastore, 1) := by decide +kernel
theorem dX3_fillNeighbours_36 : decode cX3_fillNeighbours 36 = .ok (.aload_n 0, 1) := by decide +kernel
theorem dX3_fillNeighbours_37 : decode cX3_fillNeighbours 37 = .ok (.getfield 53, 3) := by decide +kernel
theorem dX3_fillNeighbours_40 : decode cX3_fillNeighbours 40 = .ok (.iload_n 3, 1) := by decide +kernel
theorem dX3_fillNeighbours_41 : decode cX3_fillNeighbours 41 = .ok (.dup2, 1) := by decide +kernel
theorem dX3_fillNeighbours_42 : decode cX3_fillNeighbours 42 = .ok (.iaload, 1) := by decide +kernel
theorem dX3_fillNeighbours_43 : decode cX3_fillNeighbours 43 = .ok (.iconst 1, 1) := by decide +kernel
theorem dX3_fillNeighbours_44 : decode cX3_fillNeighbours 44 = .ok (.iload_n 2, 1) := by decide +kernel
theorem dX3_fillNeighbours_45 : decode cX3_fillNeighbours 45 = .ok (.ishl, 1) := by decide +kernel
theorem dX3_fillNeighbours_46 : decode cX3_fillNeighbours 46 = .ok (.ior, 1) := by decide +kernel
theorem dX3_fillNeighbours_47 : decode cX3_fillNeighbours 47 = .ok (.iastore, 1) := by decide +kernel
theorem dX3_fillNeighbours_48 : decode cX3_fillNeighbours 48 = .ok (.iload_n 2, 1) := by decide +kernel
theorem dX3_fillNeighbours_49 : decode cX3_fillNeighbours 49 = .ok (.iload_n 3, 1) := by decide +kernel
theorem dX3_fillNeighbours_50 : decode cX3_fillNeighbours 50 = .ok (.if_icmp .eq 27, 3) := by decide +kernel
theorem dX3_fillNeighbours_53 : decode cX3_fillNeighbours 53 = .ok (.aload_n 0, 1) := by decide +kernel
theorem dX3_fillNeighbours_54 : decode cX3_fillNeighbours 54 = .ok (.getfield 56, 3) := by decide +kernel
theorem dX3_fillNeighbours_57 : decode cX3_fillNeighbours 57 = .ok (.iload_n 2, 1) := by decide +kernel
theorem dX3_fillNeighbours_58 : decode cX3_fillNeighbours 58 = .ok (.dup2, 1) := by decide +kernel
theorem dX3_fillNeighbours_59 : decode cX3_fillNeighbours 59 = .ok (.iaload, 1) := by decide +kernel
theorem dX3_fillNeighbours_60 : decode cX3_fillNeighbours 60 = .ok (.iconst 1, 1) := by decide +kernel
theorem dX3_fillNeighbours_61 : decode cX3_fillNeighbours 61 = .ok (.iload_n 3, 1) := by decide +kernel
theorem dX3_fillNeighbours_62 : decode cX3_fillNeighbours 62 = .ok (.ishl, 1) := by decide +kernel
theorem dX3_fillNeighbours_63 : decode cX3_fillNeighbours 63 = .ok (.ior, 1) := by decide +kernel
theorem dX3_fillNeighbours_64 : decode cX3_fillNeighbours 64 = .ok (.iastore, 1) := by decide +kernel
theorem dX3_fillNeighbours_65 : decode cX3_fillNeighbours 65 = .ok (.aload_n 0, 1) := by decide +kernel
theorem dX3_fillNeighbours_66 : decode cX3_fillNeighbours 66 = .ok (.getfield 56, 3) := by decide +kernel
theorem dX3_fillNeighbours_69 : decode cX3_fillNeighbours 69 = .ok (.iload_n 3, 1) := by decide +kernel
theorem dX3_fillNeighbours_70 : decode cX3_fillNeighbours 70 = .ok (.dup2, 1) := by decide +kernel
theorem dX3_fillNeighbours_71 : decode cX3_fillNeighbours 71 = .ok (.iaload, 1) := by decide +kernel
theorem dX3_fillNeighbours_72 : decode cX3_fillNeighbours 72 = .ok (.iconst 1, 1) := by decide +kernel
theorem dX3_fillNeighbours_73 : decode cX3_fillNeighbours 73 = .ok (.iload_n 2, 1) := by decide +kernel
theorem dX3_fillNeighbours_74 : decode cX3_fillNeighbours 74 = .ok (.ishl, 1) := by decide +kernel
theorem dX3_fillNeighbours_75 : decode cX3_fillNeighbours 75 = .ok (.ior, 1) := by decide +kernel
theorem dX3_fillNeighbours_76 : decode cX3_fillNeighbours 76 = .ok (.iastore, 1) := by decide +kernel
theorem dX3_fillNeighbours_77 : decode cX3_fillNeighbours 77 = .ok (.iinc 1 1, 3) := by decide +kernel
theorem dX3_fillNeighbours_80 : decode cX3_fillNeighbours 80 = .ok (.goto (-78), 3) := by decide +kernel
theorem dX3_fillNeighbours_83 : decode cX3_fillNeighbours 83 = .ok (.return_, 1) := by decide +kernel
end NM
