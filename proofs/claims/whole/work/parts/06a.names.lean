section NM
variable {X : va_G × List (ClassId × FieldType) × (Nat × Nat × Nat × (Nat → Int32))}
theorem dJ7_fill_53178_0 : decode cJ7_fill_53178 0 = .ok (.iconst 0, 1) := by decide +kernel
theorem dJ7_fill_53178_1 : decode cJ7_fill_53178 1 = .ok (.istore_n 2, 1) := by decide +kernel
theorem dJ7_fill_53178_2 : decode cJ7_fill_53178 2 = .ok (.aload_n 0, 1) := by decide +kernel
theorem dJ7_fill_53178_3 : decode cJ7_fill_53178 3 = .ok (.arraylength, 1) := by decide +kernel
theorem dJ7_fill_53178_4 : decode cJ7_fill_53178 4 = .ok (.istore_n 3, 1) := by decide +kernel
theorem dJ7_fill_53178_5 : decode cJ7_fill_53178 5 = .ok (.iload_n 2, 1) := by decide +kernel
theorem dJ7_fill_53178_6 : decode cJ7_fill_53178 6 = .ok (.iload_n 3, 1) := by decide +kernel
theorem dJ7_fill_53178_7 : decode cJ7_fill_53178 7 = .ok (.if_icmp .ge 13, 3) := by decide +kernel
theorem dJ7_fill_53178_10 : decode cJ7_fill_53178 10 = .ok (.aload_n 0, 1) := by decide +kernel
theorem dJ7_fill_53178_11 : decode cJ7_fill_53178 11 = .ok (.iload_n 2, 1) := by decide +kernel
theorem dJ7_fill_53178_12 : decode cJ7_fill_53178 12 = .ok (.iload_n 1, 1) := by decide +kernel
theorem dJ7_fill_53178_13 : decode cJ7_fill_53178 13 = .ok (.iastore, 1) := by decide +kernel
theorem dJ7_fill_53178_14 : decode cJ7_fill_53178 14 = .ok (.iinc 2 1, 3) := by decide +kernel
theorem dJ7_fill_53178_17 : decode cJ7_fill_53178 17 = .ok (.goto (-12), 3) := by decide +kernel
theorem dJ7_fill_53178_20 : decode cJ7_fill_53178 20 = .ok (.return_, 1) := by decide +kernel
theorem dJ7_fill_d0a16_0 : decode cJ7_fill_d0a16 0 = .ok (.iconst 0, 1) := by decide +kernel
theorem dJ7_fill_d0a16_1 : decode cJ7_fill_d0a16 1 = .ok (.istore_n 3, 1) := by decide +kernel
theorem dJ7_fill_d0a16_2 : decode cJ7_fill_d0a16 2 = .ok (.aload_n 0, 1) := by decide +kernel
theorem dJ7_fill_d0a16_3 : decode cJ7_fill_d0a16 3 = .ok (.arraylength, 1) := by decide +kernel
theorem dJ7_fill_d0a16_4 : decode cJ7_fill_d0a16 4 = .ok (.istore 4, 2) := by decide +kernel
theorem dJ7_fill_d0a16_6 : decode cJ7_fill_d0a16 6 = .ok (.iload_n 3, 1) := by decide +kernel
theorem dJ7_fill_d0a16_7 : decode cJ7_fill_d0a16 7 = .ok (.iload 4, 2) := by decide +kernel
theorem dJ7_fill_d0a16_9 : decode cJ7_fill_d0a16 9 = .ok (.if_icmp .ge 13, 3) := by decide +kernel
theorem dJ7_fill_d0a16_12 : decode cJ7_fill_d0a16 12 = .ok (.aload_n 0, 1) := by decide +kernel
theorem dJ7_fill_d0a16_13 : decode cJ7_fill_d0a16 13 = .ok (.iload_n 3, 1) := by decide +kernel
theorem dJ7_fill_d0a16_14 : decode cJ7_fill_d0a16 14 = .ok (.lload_n 1, 1) := by decide +kernel
theorem dJ7_fill_d0a16_15 : decode cJ7_fill_d0a16 15 = .ok (.lastore, 1) := by decide +kernel
theorem dJ7_fill_d0a16_16 : decode cJ7_fill_d0a16 16 = .ok (.iinc 3 1, 3) := by decide +kernel
theorem dJ7_fill_d0a16_19 : decode cJ7_fill_d0a16 19 = .ok (.goto (-13), 3) := by decide +kernel
theorem dJ7_fill_d0a16_22 : decode cJ7_fill_d0a16 22 = .ok (.return_, 1) := by decide +kernel
theorem dJ7_copyOf_59c91_0 : decode cJ7_copyOf_59c91 0 = .ok (.iload_n 1, 1) := by decide +kernel
theorem dJ7_copyOf_59c91_1 : decode cJ7_copyOf_59c91 1 = .ok (.aload_n 0, 1) := by decide +kernel
theorem dJ7_copyOf_59c91_2 : decode cJ7_copyOf_59c91 2 = .ok (.arraylength, 1) := by decide +kernel
theorem dJ7_copyOf_59c91_3 : decode cJ7_copyOf_59c91 3 = .ok (.if_icmp .ne 11, 3) := by decide +kernel
theorem dJ7_copyOf_59c91_6 : decode cJ7_copyOf_59c91 6 = .ok (.aload_n 0, 1) := by decide +kernel
theorem dJ7_copyOf_59c91_7 : decode cJ7_copyOf_59c91 7 = .ok (.invokevirtual 316, 3) := by decide +kernel
theorem dJ7_copyOf_59c91_10 : decode cJ7_copyOf_59c91 10 = .ok (.checkcast 317, 3) := by decide +kernel
theorem dJ7_copyOf_59c91_13 : decode cJ7_copyOf_59c91 13 = .ok (.areturn, 1) := by decide +kernel
theorem dJ7_copyOf_59c91_14 : decode cJ7_copyOf_59c91 14 = .ok (.iload_n 1, 1) := by decide +kernel
theorem dJ7_copyOf_59c91_15 : decode cJ7_copyOf_59c91 15 = .ok (.newarray .int, 2) := by decide +kernel
theorem dJ7_copyOf_59c91_17 : decode cJ7_copyOf_59c91 17 = .ok (.astore_n 2, 1) := by decide +kernel
theorem dJ7_copyOf_59c91_18 : decode cJ7_copyOf_59c91 18 = .ok (.aload_n 0, 1) := by decide +kernel
theorem dJ7_copyOf_59c91_19 : decode cJ7_copyOf_59c91 19 = .ok (.iconst 0, 1) := by decide +kernel
theorem dJ7_copyOf_59c91_20 : decode cJ7_copyOf_59c91 20 = .ok (.aload_n 2, 1) := by decide +kernel
theorem dJ7_copyOf_59c91_21 : decode cJ7_copyOf_59c91 21 = .ok (.iconst 0, 1) := by decide +kernel
theorem dJ7_copyOf_59c91_22 : decode cJ7_copyOf_59c91 22 = .ok (.aload_n 0, 1) := by decide +kernel
theorem dJ7_copyOf_59c91_23 : decode cJ7_copyOf_59c91 23 = .ok (.arraylength, 1) := by decide +kernel
theorem dJ7_copyOf_59c91_24 : decode cJ7_copyOf_59c91 24 = .ok (.iload_n 1, 1) := by decide +kernel
theorem dJ7_copyOf_59c91_25 : decode cJ7_copyOf_59c91 25 = .ok (.invokestatic 304, 3) := by decide +kernel
theorem dJ7_copyOf_59c91_28 : decode cJ7_copyOf_59c91 28 = .ok (.invokestatic 150, 3) := by decide +kernel
theorem dJ7_copyOf_59c91_31 : decode cJ7_copyOf_59c91 31 = .ok (.aload_n 2, 1) := by decide +kernel
theorem dJ7_copyOf_59c91_32 : decode cJ7_copyOf_59c91 32 = .ok (.areturn, 1) := by decide +kernel
theorem aJ7_316 : lkC (gS, X) RJ7 316 "[I" := ⟨(tb_t (k := 260) (w := Cond.methodLink RJ7 316 ⟨"[I","clone","()Ljava/lang/Object;"⟩) (by decide +kernel)), (tb_t (k := 261) (w := Cond.sameMethod "[I" "java/lang/Object" "clone" "()Ljava/lang/Object;") (by decide +kernel)), (tb_t (k := 262) (w := Cond.native ⟨"java/lang/Object","clone","()Ljava/lang/Object;"⟩) (by decide +kernel)), (tb_t (k := 263) (w := Cond.instanceMethod ⟨"java/lang/Object","clone","()Ljava/lang/Object;"⟩) (by decide +kernel)), (tb_t (k := 264) (w := Cond.selects "[I" ⟨"[I","clone","()Ljava/lang/Object;"⟩ ⟨"java/lang/Object","clone","()Ljava/lang/Object;"⟩) (by decide +kernel)), (show ("[I", "java/lang/Cloneable") ∈ cas by decide)⟩
theorem kJ7_304 : lkK (gS, X) RJ7 304 mJ9_min_7cf53 2 ∧ Cond.static yJ9_min_7cf53 ∈ g_ws (gS, X) := ⟨⟨tb_good, (tb_t (k := 267) (w := Cond.methodLink RJ7 304 yJ9_min_7cf53) (by decide +kernel)), (tb_t (k := 12) (w := Cond.initialized RJ9) (by decide +kernel)), (tb_t (k := 269) (w := Cond.code yJ9_min_7cf53 cJ9_min_7cf53 2 (some .int)) (by decide +kernel)), by decide +kernel, by decide⟩, (tb_t (k := 268) (w := Cond.static yJ9_min_7cf53) (by decide +kernel))⟩
theorem aJ7_150 : lkA (gS, X) RJ7 150 := ⟨(tb_t (k := 270) (w := Cond.methodLink RJ7 150 arraycopyName) (by decide +kernel)), (tb_t (k := 272) (w := Cond.native arraycopyName) (by decide +kernel)), (tb_t (k := 271) (w := Cond.static arraycopyName) (by decide +kernel)), (tb_t (k := 13) (w := Cond.initialized "java/lang/System") (by decide +kernel))⟩
theorem dJ9_min_7cf53_0 : decode cJ9_min_7cf53 0 = .ok (.iload_n 0, 1) := by decide +kernel
theorem dJ9_min_7cf53_1 : decode cJ9_min_7cf53 1 = .ok (.iload_n 1, 1) := by decide +kernel
theorem dJ9_min_7cf53_2 : decode cJ9_min_7cf53 2 = .ok (.if_icmp .gt 7, 3) := by decide +kernel
theorem dJ9_min_7cf53_5 : decode cJ9_min_7cf53 5 = .ok (.iload_n 0, 1) := by decide +kernel
theorem dJ9_min_7cf53_6 : decode cJ9_min_7cf53 6 = .ok (.goto 4, 3) := by decide +kernel
theorem dJ9_min_7cf53_9 : decode cJ9_min_7cf53 9 = .ok (.iload_n 1, 1) := by decide +kernel
theorem dJ9_min_7cf53_10 : decode cJ9_min_7cf53 10 = .ok (.ireturn, 1) := by decide +kernel
theorem dX1_init_0 : decode cX1_init 0 = .ok (.aload_n 0, 1) := by decide +kernel
theorem dX1_init_1 : decode cX1_init 1 = .ok (.invokespecial 3, 3) := by decide +kernel
theorem dX1_init_4 : decode cX1_init 4 = .ok (.aload_n 0, 1) := by decide +kernel
theorem dX1_init_5 : decode cX1_init 5 = .ok (.iconst 1, 1) := by decide +kernel
theorem dX1_init_6 : decode cX1_init 6 = .ok (.putfield 9, 3) := by decide +kernel
theorem dX1_init_9 : decode cX1_init 9 = .ok (.aload_n 0, 1) := by decide +kernel
theorem dX1_init_10 : decode cX1_init 10 = .ok (.iconst 0, 1) := by decide +kernel
theorem dX1_init_11 : decode cX1_init 11 = .ok (.putfield 15, 3) := by decide +kernel
theorem dX1_init_14 : decode cX1_init 14 = .ok (.aload_n 0, 1) := by decide +kernel
theorem dX1_init_15 : decode cX1_init 15 = .ok (.iconst 0, 1) := by decide +kernel
theorem dX1_init_16 : decode cX1_init 16 = .ok (.putfield 19, 3) := by decide +kernel
theorem dX1_init_19 : decode cX1_init 19 = .ok (.aload_n 0, 1) := by decide +kernel
theorem dX1_init_20 : decode cX1_init 20 = .ok (.bipush 60, 2) := by decide +kernel
theorem dX1_init_22 : decode cX1_init 22 = .ok (.newarray .int, 2) := by decide +kernel
theorem dX1_init_24 : decode cX1_init 24 = .ok (.putfield 22, 3) := by decide +kernel
theorem dX1_init_27 : decode cX1_init 27 = .ok (.aload_n 0, 1) := by decide +kernel
theorem dX1_init_28 : decode cX1_init 28 = .ok (.bipush 60, 2) := by decide +kernel
theorem dX1_init_30 : decode cX1_init 30 = .ok (.newarray .int, 2) := by decide +kernel
theorem dX1_init_32 : decode cX1_init 32 = .ok (.putfield 26, 3) := by decide +kernel
theorem dX1_init_35 : decode cX1_init 35 = .ok (.aload_n 0, 1) := by decide +kernel
theorem dX1_init_36 : decode cX1_init 36 = .ok (.bipush 60, 2) := by decide +kernel
theorem dX1_init_38 : decode cX1_init 38 = .ok (.newarray .int, 2) := by decide +kernel
theorem dX1_init_40 : decode cX1_init 40 = .ok (.putfield 29, 3) := by decide +kernel
theorem dX1_init_43 : decode cX1_init 43 = .ok (.aload_n 0, 1) := by decide +kernel
theorem dX1_init_44 : decode cX1_init 44 = .ok (.bipush 60, 2) := by decide +kernel
theorem dX1_init_46 : decode cX1_init 46 = .ok (.newarray .int, 2) := by decide +kernel
theorem dX1_init_48 : decode cX1_init 48 = .ok (.putfield 32, 3) := by decide +kernel
theorem dX1_init_51 : decode cX1_init 51 = .ok (.aload_n 0, 1) := by decide +kernel
theorem dX1_init_52 : decode cX1_init 52 = .ok (.sipush 256, 3) := by decide +kernel
theorem dX1_init_55 : decode cX1_init 55 = .ok (.newarray .int, 2) := by decide +kernel
theorem dX1_init_57 : decode cX1_init 57 = .ok (.putfield 35, 3) := by decide +kernel
theorem dX1_init_60 : decode cX1_init 60 = .ok (.return_, 1) := by decide +kernel
theorem kX1_3 : Cond.methodLink RX1 3 objectInit ∈ g_ws (gS, X) ∧ Cond.instanceMethod objectInit ∈ g_ws (gS, X) ∧ Cond.code objectInit ⟨#[0xb1]⟩ 1 none ∈ g_ws (gS, X) := ⟨(tb_t (k := 33) (w := Cond.methodLink RX1 3 objectInit) (by decide +kernel)), (tb_t (k := 24) (w := Cond.instanceMethod objectInit) (by decide +kernel)), (tb_t (k := 25) (w := Cond.code objectInit ⟨#[0xb1]⟩ 1 none) (by decide +kernel))⟩
theorem fX1_9 : lkF (gS, X) RX1 9 1 0 "GraphEngine$Draft" RX1 TX1 8 := ⟨rfl, inX1, by decide, (tb_t (k := 35) (w := Cond.fieldLink RX1 9 "GraphEngine$Draft" "nodes" "I") (by decide +kernel)), Or.inl rfl⟩
theorem fX1_15 : lkF (gS, X) RX1 15 1 1 "GraphEngine$Draft" RX1 TX1 8 := ⟨rfl, inX1, by decide, (tb_t (k := 38) (w := Cond.fieldLink RX1 15 "GraphEngine$Draft" "directed" "Z") (by decide +kernel)), Or.inl rfl⟩
theorem fX1_19 : lkF (gS, X) RX1 19 1 2 "GraphEngine$Draft" RX1 TX1 8 := ⟨rfl, inX1, by decide, (tb_t (k := 39) (w := Cond.fieldLink RX1 19 "GraphEngine$Draft" "arcs" "I") (by decide +kernel)), Or.inl rfl⟩
theorem fX1_22 : lkF (gS, X) RX1 22 1 3 "GraphEngine$Draft" RX1 TX1 8 := ⟨rfl, inX1, by decide, (tb_t (k := 42) (w := Cond.fieldLink RX1 22 "GraphEngine$Draft" "from" "[I") (by decide +kernel)), Or.inl rfl⟩
theorem fX1_26 : lkF (gS, X) RX1 26 1 4 "GraphEngine$Draft" RX1 TX1 8 := ⟨rfl, inX1, by decide, (tb_t (k := 44) (w := Cond.fieldLink RX1 26 "GraphEngine$Draft" "to" "[I") (by decide +kernel)), Or.inl rfl⟩
theorem fX1_29 : lkF (gS, X) RX1 29 1 5 "GraphEngine$Draft" RX1 TX1 8 := ⟨rfl, inX1, by decide, (tb_t (k := 46) (w := Cond.fieldLink RX1 29 "GraphEngine$Draft" "weight" "[I") (by decide +kernel)), Or.inl rfl⟩
theorem fX1_32 : lkF (gS, X) RX1 32 1 6 "GraphEngine$Draft" RX1 TX1 8 := ⟨rfl, inX1, by decide, (tb_t (k := 48) (w := Cond.fieldLink RX1 32 "GraphEngine$Draft" "cost" "[I") (by decide +kernel)), Or.inl rfl⟩
theorem fX1_35 : lkF (gS, X) RX1 35 1 7 "GraphEngine$Draft" RX1 TX1 8 := ⟨rfl, inX1, by decide, (tb_t (k := 50) (w := Cond.fieldLink RX1 35 "GraphEngine$Draft" "lightest" "[I") (by decide +kernel)), Or.inl rfl⟩
theorem dX1_restart_0 : decode cX1_restart 0 = .ok (.aload_n 0, 1) := by decide +kernel
theorem dX1_restart_1 : decode cX1_restart 1 = .ok (.iload_n 1, 1) := by decide +kernel
theorem dX1_restart_2 : decode cX1_restart 2 = .ok (.putfield 9, 3) := by decide +kernel
theorem dX1_restart_5 : decode cX1_restart 5 = .ok (.aload_n 0, 1) := by decide +kernel
theorem dX1_restart_6 : decode cX1_restart 6 = .ok (.iload_n 2, 1) := by decide +kernel
theorem dX1_restart_7 : decode cX1_restart 7 = .ok (.putfield 15, 3) := by decide +kernel
theorem dX1_restart_10 : decode cX1_restart 10 = .ok (.aload_n 0, 1) := by decide +kernel
theorem dX1_restart_11 : decode cX1_restart 11 = .ok (.iconst 0, 1) := by decide +kernel
theorem dX1_restart_12 : decode cX1_restart 12 = .ok (.putfield 19, 3) := by decide +kernel
theorem dX1_restart_15 : decode cX1_restart 15 = .ok (.return_, 1) := by decide +kernel
theorem dX1_add_0 : decode cX1_add 0 = .ok (.aload_n 0, 1) := by decide +kernel
theorem dX1_add_1 : decode cX1_add 1 = .ok (.getfield 19, 3) := by decide +kernel
theorem dX1_add_4 : decode cX1_add 4 = .ok (.istore 5, 2) := by decide +kernel
theorem dX1_add_6 : decode cX1_add 6 = .ok (.iload 5, 2) := by decide +kernel
theorem dX1_add_8 : decode cX1_add 8 = .ok (.ifCond .lt 10, 3) := by decide +kernel
theorem dX1_add_11 : decode cX1_add 11 = .ok (.iload 5, 2) := by decide +kernel
theorem dX1_add_13 : decode cX1_add 13 = .ok (.bipush 60, 2) := by decide +kernel
theorem dX1_add_15 : decode cX1_add 15 = .ok (.if_icmp .lt 5, 3) := by decide +kernel
theorem dX1_add_18 : decode cX1_add 18 = .ok (.iconst 0, 1) := by decide +kernel
theorem dX1_add_19 : decode cX1_add 19 = .ok (.ireturn, 1) := by decide +kernel
theorem dX1_add_20 : decode cX1_add 20 = .ok (.aload_n 0, 1) := by decide +kernel
theorem dX1_add_21 : decode cX1_add 21 = .ok (.getfield 22, 3) := by decide +kernel
theorem dX1_add_24 : decode cX1_add 24 = .ok (.iload 5, 2) := by decide +kernel
theorem dX1_add_26 : decode cX1_add 26 = .ok (.iload_n 1, 1) := by decide +kernel
theorem dX1_add_27 : decode cX1_add 27 = .ok (.iastore, 1) := by decide +kernel
theorem dX1_add_28 : decode cX1_add 28 = .ok (.aload_n 0, 1) := by decide +kernel
theorem dX1_add_29 : decode cX1_add 29 = .ok (.getfield 26, 3) := by decide +kernel
theorem dX1_add_32 : decode cX1_add 32 = .ok (.iload 5, 2) := by decide +kernel
theorem dX1_add_34 : decode cX1_add 34 = .ok (.iload_n 2, 1) := by decide +kernel
theorem dX1_add_35 : decode cX1_add 35 = .ok (.iastore, 1) := by decide +kernel
theorem dX1_add_36 : decode cX1_add 36 = .ok (.aload_n 0, 1) := by decide +kernel
theorem dX1_add_37 : decode cX1_add 37 = .ok (.getfield 29, 3) := by decide +kernel
theorem dX1_add_40 : decode cX1_add 40 = .ok (.iload 5, 2) := by decide +kernel
theorem dX1_add_42 : decode cX1_add 42 = .ok (.iload_n 3, 1) := by decide +kernel
theorem dX1_add_43 : decode cX1_add 43 = .ok (.iastore, 1) := by decide +kernel
theorem dX1_add_44 : decode cX1_add 44 = .ok (.aload_n 0, 1) := by decide +kernel
theorem dX1_add_45 : decode cX1_add 45 = .ok (.getfield 32, 3) := by decide +kernel
theorem dX1_add_48 : decode cX1_add 48 = .ok (.iload 5, 2) := by decide +kernel
theorem dX1_add_50 : decode cX1_add 50 = .ok (.iload 4, 2) := by decide +kernel
theorem dX1_add_52 : decode cX1_add 52 = .ok (.iastore, 1) := by decide +kernel
theorem dX1_add_53 : decode cX1_add 53 = .ok (.aload_n 0, 1) := by decide +kernel
theorem dX1_add_54 : decode cX1_add 54 = .ok (.iload 5, 2) := by decide +kernel
theorem dX1_add_56 : decode cX1_add 56 = .ok (.iconst 1, 1) := by decide +kernel
theorem dX1_add_57 : decode cX1_add 57 = .ok (.iadd, 1) := by decide +kernel
theorem dX1_add_58 : decode cX1_add 58 = .ok (.putfield 19, 3) := by decide +kernel
theorem dX1_add_61 : decode cX1_add 61 = .ok (.iconst 1, 1) := by decide +kernel
theorem dX1_add_62 : decode cX1_add 62 = .ok (.ireturn, 1) := by decide +kernel
theorem dX8_init_0 : decode cX8_init 0 = .ok (.aload_n 0, 1) := by decide +kernel
theorem dX8_init_1 : decode cX8_init 1 = .ok (.invokespecial 3, 3) := by decide +kernel
theorem dX8_init_4 : decode cX8_init 4 = .ok (.aload_n 0, 1) := by decide +kernel
theorem dX8_init_5 : decode cX8_init 5 = .ok (.sipush 256, 3) := by decide +kernel
theorem dX8_init_8 : decode cX8_init 8 = .ok (.newarray .long, 2) := by decide +kernel
theorem dX8_init_10 : decode cX8_init 10 = .ok (.putfield 9, 3) := by decide +kernel
theorem dX8_init_13 : decode cX8_init 13 = .ok (.return_, 1) := by decide +kernel
theorem kX8_3 : Cond.methodLink RX8 3 objectInit ∈ g_ws (gS, X) ∧ Cond.instanceMethod objectInit ∈ g_ws (gS, X) ∧ Cond.code objectInit ⟨#[0xb1]⟩ 1 none ∈ g_ws (gS, X) := ⟨(tb_t (k := 74) (w := Cond.methodLink RX8 3 objectInit) (by decide +kernel)), (tb_t (k := 24) (w := Cond.instanceMethod objectInit) (by decide +kernel)), (tb_t (k := 25) (w := Cond.code objectInit ⟨#[0xb1]⟩ 1 none) (by decide +kernel))⟩
theorem fX8_9 : lkF (gS, X) RX8 9 8 0 "GraphEngine$Shape" RX8 TX8 1 := ⟨rfl, inX8, by decide, (tb_t (k := 75) (w := Cond.fieldLink RX8 9 "GraphEngine$Shape" "table" "[J") (by decide +kernel)), Or.inl rfl⟩
theorem dX7_init_0 : decode cX7_init 0 = .ok (.aload_n 0, 1) := by decide +kernel
theorem dX7_init_1 : decode cX7_init 1 = .ok (.invokespecial 3, 3) := by decide +kernel
theorem dX7_init_4 : decode cX7_init 4 = .ok (.aload_n 0, 1) := by decide +kernel
theorem dX7_init_5 : decode cX7_init 5 = .ok (.bipush 16, 2) := by decide +kernel
theorem dX7_init_7 : decode cX7_init 7 = .ok (.newarray .int, 2) := by decide +kernel
theorem dX7_init_9 : decode cX7_init 9 = .ok (.putfield 9, 3) := by decide +kernel
theorem dX7_init_12 : decode cX7_init 12 = .ok (.aload_n 0, 1) := by decide +kernel
theorem dX7_init_13 : decode cX7_init 13 = .ok (.bipush 16, 2) := by decide +kernel
theorem dX7_init_15 : decode cX7_init 15 = .ok (.newarray .int, 2) := by decide +kernel
theorem dX7_init_17 : decode cX7_init 17 = .ok (.putfield 15, 3) := by decide +kernel
theorem dX7_init_20 : decode cX7_init 20 = .ok (.aload_n 0, 1) := by decide +kernel
theorem dX7_init_21 : decode cX7_init 21 = .ok (.sipush 272, 3) := by decide +kernel
theorem dX7_init_24 : decode cX7_init 24 = .ok (.newarray .int, 2) := by decide +kernel
theorem dX7_init_26 : decode cX7_init 26 = .ok (.putfield 18, 3) := by decide +kernel
theorem dX7_init_29 : decode cX7_init 29 = .ok (.aload_n 0, 1) := by decide +kernel
theorem dX7_init_30 : decode cX7_init 30 = .ok (.bipush 16, 2) := by decide +kernel
theorem dX7_init_32 : decode cX7_init 32 = .ok (.newarray .int, 2) := by decide +kernel
theorem dX7_init_34 : decode cX7_init 34 = .ok (.putfield 21, 3) := by decide +kernel
theorem dX7_init_37 : decode cX7_init 37 = .ok (.aload_n 0, 1) := by decide +kernel
theorem dX7_init_38 : decode cX7_init 38 = .ok (.sipush 2048, 3) := by decide +kernel
theorem dX7_init_41 : decode cX7_init 41 = .ok (.newarray .int, 2) := by decide +kernel
theorem dX7_init_43 : decode cX7_init 43 = .ok (.putfield 24, 3) := by decide +kernel
theorem dX7_init_46 : decode cX7_init 46 = .ok (.return_, 1) := by decide +kernel
theorem kX7_3 : Cond.methodLink RX7 3 objectInit ∈ g_ws (gS, X) ∧ Cond.instanceMethod objectInit ∈ g_ws (gS, X) ∧ Cond.code objectInit ⟨#[0xb1]⟩ 1 none ∈ g_ws (gS, X) := ⟨(tb_t (k := 85) (w := Cond.methodLink RX7 3 objectInit) (by decide +kernel)), (tb_t (k := 24) (w := Cond.instanceMethod objectInit) (by decide +kernel)), (tb_t (k := 25) (w := Cond.code objectInit ⟨#[0xb1]⟩ 1 none) (by decide +kernel))⟩
theorem fX7_9 : lkF (gS, X) RX7 9 7 0 "GraphEngine$Sets" RX7 TX7 5 := ⟨rfl, inX7, by decide, (tb_t (k := 86) (w := Cond.fieldLink RX7 9 "GraphEngine$Sets" "strangers" "[I") (by decide +kernel)), Or.inl rfl⟩
theorem fX7_15 : lkF (gS, X) RX7 15 7 1 "GraphEngine$Sets" RX7 TX7 5 := ⟨rfl, inX7, by decide, (tb_t (k := 87) (w := Cond.fieldLink RX7 15 "GraphEngine$Sets" "classes" "[I") (by decide +kernel)), Or.inl rfl⟩
theorem fX7_18 : lkF (gS, X) RX7 18 7 2 "GraphEngine$Sets" RX7 TX7 5 := ⟨rfl, inX7, by decide, (tb_t (k := 88) (w := Cond.fieldLink RX7 18 "GraphEngine$Sets" "levels" "[I") (by decide +kernel)), Or.inl rfl⟩
theorem fX7_21 : lkF (gS, X) RX7 21 7 3 "GraphEngine$Sets" RX7 TX7 5 := ⟨rfl, inX7, by decide, (tb_t (k := 89) (w := Cond.fieldLink RX7 21 "GraphEngine$Sets" "melted" "[I") (by decide +kernel)), Or.inl rfl⟩
theorem fX7_24 : lkF (gS, X) RX7 24 7 4 "GraphEngine$Sets" RX7 TX7 5 := ⟨rfl, inX7, by decide, (tb_t (k := 90) (w := Cond.fieldLink RX7 24 "GraphEngine$Sets" "hopeless" "[I") (by decide +kernel)), Or.inl rfl⟩
theorem dX4_init_0 : decode cX4_init 0 = .ok (.aload_n 0, 1) := by decide +kernel
theorem dX4_init_1 : decode cX4_init 1 = .ok (.invokespecial 3, 3) := by decide +kernel
theorem dX4_init_4 : decode cX4_init 4 = .ok (.aload_n 0, 1) := by decide +kernel
theorem dX4_init_5 : decode cX4_init 5 = .ok (.bipush 16, 2) := by decide +kernel
theorem dX4_init_7 : decode cX4_init 7 = .ok (.newarray .int, 2) := by decide +kernel
theorem dX4_init_9 : decode cX4_init 9 = .ok (.putfield 9, 3) := by decide +kernel
theorem dX4_init_12 : decode cX4_init 12 = .ok (.aload_n 0, 1) := by decide +kernel
theorem dX4_init_13 : decode cX4_init 13 = .ok (.bipush 16, 2) := by decide +kernel
theorem dX4_init_15 : decode cX4_init 15 = .ok (.newarray .int, 2) := by decide +kernel
theorem dX4_init_17 : decode cX4_init 17 = .ok (.putfield 15, 3) := by decide +kernel
theorem dX4_init_20 : decode cX4_init 20 = .ok (.aload_n 0, 1) := by decide +kernel
theorem dX4_init_21 : decode cX4_init 21 = .ok (.bipush 16, 2) := by decide +kernel
theorem dX4_init_23 : decode cX4_init 23 = .ok (.newarray .int, 2) := by decide +kernel
theorem dX4_init_25 : decode cX4_init 25 = .ok (.putfield 18, 3) := by decide +kernel
theorem dX4_init_28 : decode cX4_init 28 = .ok (.aload_n 0, 1) := by decide +kernel
theorem dX4_init_29 : decode cX4_init 29 = .ok (.bipush 16, 2) := by decide +kernel
theorem dX4_init_31 : decode cX4_init 31 = .ok (.newarray .int, 2) := by decide +kernel
theorem dX4_init_33 : decode cX4_init 33 = .ok (.putfield 21, 3) := by decide +kernel
theorem dX4_init_36 : decode cX4_init 36 = .ok (.return_, 1) := by decide +kernel
theorem kX4_3 : Cond.methodLink RX4 3 objectInit ∈ g_ws (gS, X) ∧ Cond.instanceMethod objectInit ∈ g_ws (gS, X) ∧ Cond.code objectInit ⟨#[0xb1]⟩ 1 none ∈ g_ws (gS, X) := ⟨(tb_t (k := 107) (w := Cond.methodLink RX4 3 objectInit) (by decide +kernel)), (tb_t (k := 24) (w := Cond.instanceMethod objectInit) (by decide +kernel)), (tb_t (k := 25) (w := Cond.code objectInit ⟨#[0xb1]⟩ 1 none) (by decide +kernel))⟩
theorem fX4_9 : lkF (gS, X) RX4 9 4 0 "GraphEngine$Pairs" RX4 TX4 6 := ⟨rfl, inX4, by decide, (tb_t (k := 108) (w := Cond.fieldLink RX4 9 "GraphEngine$Pairs" "mate" "[I") (by decide +kernel)), Or.inl rfl⟩
theorem fX4_15 : lkF (gS, X) RX4 15 4 1 "GraphEngine$Pairs" RX4 TX4 6 := ⟨rfl, inX4, by decide, (tb_t (k := 109) (w := Cond.fieldLink RX4 15 "GraphEngine$Pairs" "parent" "[I") (by decide +kernel)), Or.inl rfl⟩
theorem fX4_18 : lkF (gS, X) RX4 18 4 2 "GraphEngine$Pairs" RX4 TX4 6 := ⟨rfl, inX4, by decide, (tb_t (k := 110) (w := Cond.fieldLink RX4 18 "GraphEngine$Pairs" "base" "[I") (by decide +kernel)), Or.inl rfl⟩
theorem fX4_21 : lkF (gS, X) RX4 21 4 3 "GraphEngine$Pairs" RX4 TX4 6 := ⟨rfl, inX4, by decide, (tb_t (k := 111) (w := Cond.fieldLink RX4 21 "GraphEngine$Pairs" "queue" "[I") (by decide +kernel)), Or.inl rfl⟩
theorem dX2_init_0 : decode cX2_init 0 = .ok (.aload_n 0, 1) := by decide +kernel
theorem dX2_init_1 : decode cX2_init 1 = .ok (.invokespecial 3, 3) := by decide +kernel
theorem dX2_init_4 : decode cX2_init 4 = .ok (.aload_n 0, 1) := by decide +kernel
theorem dX2_init_5 : decode cX2_init 5 = .ok (.sipush 256, 3) := by decide +kernel
theorem dX2_init_8 : decode cX2_init 8 = .ok (.newarray .int, 2) := by decide +kernel
theorem dX2_init_10 : decode cX2_init 10 = .ok (.putfield 9, 3) := by decide +kernel
theorem dX2_init_13 : decode cX2_init 13 = .ok (.aload_n 0, 1) := by decide +kernel
theorem dX2_init_14 : decode cX2_init 14 = .ok (.bipush 16, 2) := by decide +kernel
theorem dX2_init_16 : decode cX2_init 16 = .ok (.newarray .int, 2) := by decide +kernel
theorem dX2_init_18 : decode cX2_init 18 = .ok (.putfield 15, 3) := by decide +kernel
theorem dX2_init_21 : decode cX2_init 21 = .ok (.aload_n 0, 1) := by decide +kernel
theorem dX2_init_22 : decode cX2_init 22 = .ok (.bipush 16, 2) := by decide +kernel
theorem dX2_init_24 : decode cX2_init 24 = .ok (.newarray .int, 2) := by decide +kernel
theorem dX2_init_26 : decode cX2_init 26 = .ok (.putfield 18, 3) := by decide +kernel
theorem dX2_init_29 : decode cX2_init 29 = .ok (.aload_n 0, 1) := by decide +kernel
theorem dX2_init_30 : decode cX2_init 30 = .ok (.sipush 240, 3) := by decide +kernel
theorem dX2_init_33 : decode cX2_init 33 = .ok (.newarray .int, 2) := by decide +kernel
theorem dX2_init_35 : decode cX2_init 35 = .ok (.putfield 21, 3) := by decide +kernel
theorem dX2_init_38 : decode cX2_init 38 = .ok (.aload_n 0, 1) := by decide +kernel
theorem dX2_init_39 : decode cX2_init 39 = .ok (.sipush 240, 3) := by decide +kernel
theorem dX2_init_42 : decode cX2_init 42 = .ok (.newarray .int, 2) := by decide +kernel
theorem dX2_init_44 : decode cX2_init 44 = .ok (.putfield 24, 3) := by decide +kernel
theorem dX2_init_47 : decode cX2_init 47 = .ok (.aload_n 0, 1) := by decide +kernel
theorem dX2_init_48 : decode cX2_init 48 = .ok (.sipush 240, 3) := by decide +kernel
theorem dX2_init_51 : decode cX2_init 51 = .ok (.newarray .int, 2) := by decide +kernel
theorem dX2_init_53 : decode cX2_init 53 = .ok (.putfield 27, 3) := by decide +kernel
theorem dX2_init_56 : decode cX2_init 56 = .ok (.aload_n 0, 1) := by decide +kernel
theorem dX2_init_57 : decode cX2_init 57 = .ok (.sipush 240, 3) := by decide +kernel
theorem dX2_init_60 : decode cX2_init 60 = .ok (.newarray .int, 2) := by decide +kernel
theorem dX2_init_62 : decode cX2_init 62 = .ok (.putfield 30, 3) := by decide +kernel
theorem dX2_init_65 : decode cX2_init 65 = .ok (.aload_n 0, 1) := by decide +kernel
theorem dX2_init_66 : decode cX2_init 66 = .ok (.bipush 16, 2) := by decide +kernel
theorem dX2_init_68 : decode cX2_init 68 = .ok (.newarray .long, 2) := by decide +kernel
theorem dX2_init_70 : decode cX2_init 70 = .ok (.putfield 33, 3) := by decide +kernel
theorem dX2_init_73 : decode cX2_init 73 = .ok (.return_, 1) := by decide +kernel
theorem kX2_3 : Cond.methodLink RX2 3 objectInit ∈ g_ws (gS, X) ∧ Cond.instanceMethod objectInit ∈ g_ws (gS, X) ∧ Cond.code objectInit ⟨#[0xb1]⟩ 1 none ∈ g_ws (gS, X) := ⟨(tb_t (k := 132) (w := Cond.methodLink RX2 3 objectInit) (by decide +kernel)), (tb_t (k := 24) (w := Cond.instanceMethod objectInit) (by decide +kernel)), (tb_t (k := 25) (w := Cond.code objectInit ⟨#[0xb1]⟩ 1 none) (by decide +kernel))⟩
theorem fX2_9 : lkF (gS, X) RX2 9 2 0 "GraphEngine$Flows" RX2 TX2 10 := ⟨rfl, inX2, by decide, (tb_t (k := 133) (w := Cond.fieldLink RX2 9 "GraphEngine$Flows" "room" "[I") (by decide +kernel)), Or.inl rfl⟩
theorem fX2_15 : lkF (gS, X) RX2 15 2 1 "GraphEngine$Flows" RX2 TX2 10 := ⟨rfl, inX2, by decide, (tb_t (k := 134) (w := Cond.fieldLink RX2 15 "GraphEngine$Flows" "before" "[I") (by decide +kernel)), Or.inl rfl⟩
theorem fX2_18 : lkF (gS, X) RX2 18 2 2 "GraphEngine$Flows" RX2 TX2 10 := ⟨rfl, inX2, by decide, (tb_t (k := 135) (w := Cond.fieldLink RX2 18 "GraphEngine$Flows" "queue" "[I") (by decide +kernel)), Or.inl rfl⟩
theorem fX2_21 : lkF (gS, X) RX2 21 2 5 "GraphEngine$Flows" RX2 TX2 10 := ⟨rfl, inX2, by decide, (tb_t (k := 138) (w := Cond.fieldLink RX2 21 "GraphEngine$Flows" "linkTail" "[I") (by decide +kernel)), Or.inl rfl⟩
theorem fX2_24 : lkF (gS, X) RX2 24 2 6 "GraphEngine$Flows" RX2 TX2 10 := ⟨rfl, inX2, by decide, (tb_t (k := 139) (w := Cond.fieldLink RX2 24 "GraphEngine$Flows" "linkHead" "[I") (by decide +kernel)), Or.inl rfl⟩
theorem fX2_27 : lkF (gS, X) RX2 27 2 7 "GraphEngine$Flows" RX2 TX2 10 := ⟨rfl, inX2, by decide, (tb_t (k := 140) (w := Cond.fieldLink RX2 27 "GraphEngine$Flows" "linkRoom" "[I") (by decide +kernel)), Or.inl rfl⟩
theorem fX2_30 : lkF (gS, X) RX2 30 2 8 "GraphEngine$Flows" RX2 TX2 10 := ⟨rfl, inX2, by decide, (tb_t (k := 141) (w := Cond.fieldLink RX2 30 "GraphEngine$Flows" "linkCost" "[I") (by decide +kernel)), Or.inl rfl⟩
theorem fX2_33 : lkF (gS, X) RX2 33 2 9 "GraphEngine$Flows" RX2 TX2 10 := ⟨rfl, inX2, by decide, (tb_t (k := 142) (w := Cond.fieldLink RX2 33 "GraphEngine$Flows" "distance" "[J") (by decide +kernel)), Or.inl rfl⟩
theorem dX6_init_0 : decode cX6_init 0 = .ok (.aload_n 0, 1) := by decide +kernel
theorem dX6_init_1 : decode cX6_init 1 = .ok (.invokespecial 3, 3) := by decide +kernel
theorem dX6_init_4 : decode cX6_init 4 = .ok (.aload_n 0, 1) := by decide +kernel
theorem dX6_init_5 : decode cX6_init 5 = .ok (.sipush 512, 3) := by decide +kernel
theorem dX6_init_8 : decode cX6_init 8 = .ok (.newarray .long, 2) := by decide +kernel
theorem dX6_init_10 : decode cX6_init 10 = .ok (.putfield 9, 3) := by decide +kernel
theorem dX6_init_13 : decode cX6_init 13 = .ok (.aload_n 0, 1) := by decide +kernel
theorem dX6_init_14 : decode cX6_init 14 = .ok (.sipush 544, 3) := by decide +kernel
theorem dX6_init_17 : decode cX6_init 17 = .ok (.newarray .long, 2) := by decide +kernel
theorem dX6_init_19 : decode cX6_init 19 = .ok (.putfield 15, 3) := by decide +kernel
theorem dX6_init_22 : decode cX6_init 22 = .ok (.aload_n 0, 1) := by decide +kernel
theorem dX6_init_23 : decode cX6_init 23 = .ok (.bipush 32, 2) := by decide +kernel
theorem dX6_init_25 : decode cX6_init 25 = .ok (.newarray .long, 2) := by decide +kernel
theorem dX6_init_27 : decode cX6_init 27 = .ok (.putfield 18, 3) := by decide +kernel
theorem dX6_init_30 : decode cX6_init 30 = .ok (.aload_n 0, 1) := by decide +kernel
theorem dX6_init_31 : decode cX6_init 31 = .ok (.bipush 16, 2) := by decide +kernel
theorem dX6_init_33 : decode cX6_init 33 = .ok (.newarray .int, 2) := by decide +kernel
theorem dX6_init_35 : decode cX6_init 35 = .ok (.putfield 21, 3) := by decide +kernel
theorem dX6_init_38 : decode cX6_init 38 = .ok (.return_, 1) := by decide +kernel
theorem kX6_3 : Cond.methodLink RX6 3 objectInit ∈ g_ws (gS, X) ∧ Cond.instanceMethod objectInit ∈ g_ws (gS, X) ∧ Cond.code objectInit ⟨#[0xb1]⟩ 1 none ∈ g_ws (gS, X) := ⟨(tb_t (k := 169) (w := Cond.methodLink RX6 3 objectInit) (by decide +kernel)), (tb_t (k := 24) (w := Cond.instanceMethod objectInit) (by decide +kernel)), (tb_t (k := 25) (w := Cond.code objectInit ⟨#[0xb1]⟩ 1 none) (by decide +kernel))⟩
theorem fX6_9 : lkF (gS, X) RX6 9 6 0 "GraphEngine$Sameness" RX6 TX6 4 := ⟨rfl, inX6, by decide, (tb_t (k := 170) (w := Cond.fieldLink RX6 9 "GraphEngine$Sameness" "ties" "[J") (by decide +kernel)), Or.inl rfl⟩
theorem fX6_15 : lkF (gS, X) RX6 15 6 1 "GraphEngine$Sameness" RX6 TX6 4 := ⟨rfl, inX6, by decide, (tb_t (k := 171) (w := Cond.fieldLink RX6 15 "GraphEngine$Sameness" "colours" "[J") (by decide +kernel)), Or.inl rfl⟩
theorem fX6_18 : lkF (gS, X) RX6 18 6 2 "GraphEngine$Sameness" RX6 TX6 4 := ⟨rfl, inX6, by decide, (tb_t (k := 172) (w := Cond.fieldLink RX6 18 "GraphEngine$Sameness" "fresh" "[J") (by decide +kernel)), Or.inl rfl⟩
theorem fX6_21 : lkF (gS, X) RX6 21 6 3 "GraphEngine$Sameness" RX6 TX6 4 := ⟨rfl, inX6, by decide, (tb_t (k := 173) (w := Cond.fieldLink RX6 21 "GraphEngine$Sameness" "numbering" "[I") (by decide +kernel)), Or.inl rfl⟩
theorem dX11_init_0 : decode cX11_init 0 = .ok (.aload_n 0, 1) := by decide +kernel
theorem dX11_init_1 : decode cX11_init 1 = .ok (.invokespecial 1, 3) := by decide +kernel
theorem dX11_init_4 : decode cX11_init 4 = .ok (.aload_n 0, 1) := by decide +kernel
theorem dX11_init_5 : decode cX11_init 5 = .ok (.bipush 120, 2) := by decide +kernel
theorem dX11_init_7 : decode cX11_init 7 = .ok (.anewarray 9, 3) := by decide +kernel
theorem dX11_init_10 : decode cX11_init 10 = .ok (.putfield 11, 3) := by decide +kernel
theorem dX11_init_13 : decode cX11_init 13 = .ok (.aload_n 0, 1) := by decide +kernel
theorem dX11_init_14 : decode cX11_init 14 = .ok (.iconst 0, 1) := by decide +kernel
theorem dX11_init_15 : decode cX11_init 15 = .ok (.putfield 15, 3) := by decide +kernel
theorem dX11_init_18 : decode cX11_init 18 = .ok (.aload_n 0, 1) := by decide +kernel
theorem dX11_init_19 : decode cX11_init 19 = .ok (.iconst 0, 1) := by decide +kernel
theorem dX11_init_20 : decode cX11_init 20 = .ok (.putfield 19, 3) := by decide +kernel
theorem dX11_init_23 : decode cX11_init 23 = .ok (.aload_n 0, 1) := by decide +kernel
theorem dX11_init_24 : decode cX11_init 24 = .ok (.new 22, 3) := by decide +kernel
theorem dX11_init_27 : decode cX11_init 27 = .ok (.dup, 1) := by decide +kernel
theorem dX11_init_28 : decode cX11_init 28 = .ok (.invokespecial 24, 3) := by decide +kernel
theorem dX11_init_31 : decode cX11_init 31 = .ok (.putfield 25, 3) := by decide +kernel
theorem dX11_init_34 : decode cX11_init 34 = .ok (.aload_n 0, 1) := by decide +kernel
theorem dX11_init_35 : decode cX11_init 35 = .ok (.new 22, 3) := by decide +kernel
theorem dX11_init_38 : decode cX11_init 38 = .ok (.dup, 1) := by decide +kernel
theorem dX11_init_39 : decode cX11_init 39 = .ok (.invokespecial 24, 3) := by decide +kernel
theorem dX11_init_42 : decode cX11_init 42 = .ok (.putfield 29, 3) := by decide +kernel
theorem dX11_init_45 : decode cX11_init 45 = .ok (.aload_n 0, 1) := by decide +kernel
theorem dX11_init_46 : decode cX11_init 46 = .ok (.new 32, 3) := by decide +kernel
theorem dX11_init_49 : decode cX11_init 49 = .ok (.dup, 1) := by decide +kernel
theorem dX11_init_50 : decode cX11_init 50 = .ok (.invokespecial 34, 3) := by decide +kernel
theorem dX11_init_53 : decode cX11_init 53 = .ok (.putfield 35, 3) := by decide +kernel
theorem dX11_init_56 : decode cX11_init 56 = .ok (.aload_n 0, 1) := by decide +kernel
theorem dX11_init_57 : decode cX11_init 57 = .ok (.new 39, 3) := by decide +kernel
theorem dX11_init_60 : decode cX11_init 60 = .ok (.dup, 1) := by decide +kernel
theorem dX11_init_61 : decode cX11_init 61 = .ok (.invokespecial 41, 3) := by decide +kernel
theorem dX11_init_64 : decode cX11_init 64 = .ok (.putfield 42, 3) := by decide +kernel
theorem dX11_init_67 : decode cX11_init 67 = .ok (.aload_n 0, 1) := by decide +kernel
theorem dX11_init_68 : decode cX11_init 68 = .ok (.new 46, 3) := by decide +kernel
theorem dX11_init_71 : decode cX11_init 71 = .ok (.dup, 1) := by decide +kernel
theorem dX11_init_72 : decode cX11_init 72 = .ok (.invokespecial 48, 3) := by decide +kernel
theorem dX11_init_75 : decode cX11_init 75 = .ok (.putfield 49, 3) := by decide +kernel
theorem dX11_init_78 : decode cX11_init 78 = .ok (.aload_n 0, 1) := by decide +kernel
theorem dX11_init_79 : decode cX11_init 79 = .ok (.new 53, 3) := by decide +kernel
theorem dX11_init_82 : decode cX11_init 82 = .ok (.dup, 1) := by decide +kernel
theorem dX11_init_83 : decode cX11_init 83 = .ok (.invokespecial 55, 3) := by decide +kernel
theorem dX11_init_86 : decode cX11_init 86 = .ok (.putfield 56, 3) := by decide +kernel
theorem dX11_init_89 : decode cX11_init 89 = .ok (.aload_n 0, 1) := by decide +kernel
theorem dX11_init_90 : decode cX11_init 90 = .ok (.new 60, 3) := by decide +kernel
theorem dX11_init_93 : decode cX11_init 93 = .ok (.dup, 1) := by decide +kernel
theorem dX11_init_94 : decode cX11_init 94 = .ok (.invokespecial 62, 3) := by decide +kernel
theorem dX11_init_97 : decode cX11_init 97 = .ok (.putfield 63, 3) := by decide +kernel
theorem dX11_init_100 : decode cX11_init 100 = .ok (.return_, 1) := by decide +kernel
theorem kX11_1 : Cond.methodLink RX11 1 objectInit ∈ g_ws (gS, X) ∧ Cond.instanceMethod objectInit ∈ g_ws (gS, X) ∧ Cond.code objectInit ⟨#[0xb1]⟩ 1 none ∈ g_ws (gS, X) := ⟨(tb_t (k := 23) (w := Cond.methodLink RX11 1 objectInit) (by decide +kernel)), (tb_t (k := 24) (w := Cond.instanceMethod objectInit) (by decide +kernel)), (tb_t (k := 25) (w := Cond.code objectInit ⟨#[0xb1]⟩ 1 none) (by decide +kernel))⟩
theorem fX11_11 : lkF (gS, X) RX11 11 10 0 "GraphEngine" RX11 TX11 10 := ⟨rfl, inX11, by decide, (tb_t (k := 183) (w := Cond.fieldLink RX11 11 "GraphEngine" "things" "[LGraphEngine$Thing;") (by decide +kernel)), Or.inl rfl⟩
theorem fX11_15 : lkF (gS, X) RX11 15 10 1 "GraphEngine" RX11 TX11 10 := ⟨rfl, inX11, by decide, (tb_t (k := 184) (w := Cond.fieldLink RX11 15 "GraphEngine" "count" "I") (by decide +kernel)), Or.inl rfl⟩
theorem fX11_19 : lkF (gS, X) RX11 19 10 2 "GraphEngine" RX11 TX11 10 := ⟨rfl, inX11, by decide, (tb_t (k := 185) (w := Cond.fieldLink RX11 19 "GraphEngine" "refusal" "I") (by decide +kernel)), Or.inl rfl⟩
theorem nX11_22 : lkN (gS, X) RX11 22 1 RX1 TX1 8 := ⟨rfl, inX1, (tb_t (k := 28) (w := Cond.classLink RX11 22 RX1) (by decide +kernel)), (tb_t (k := 29) (w := Cond.instantiable RX1 8) (by decide +kernel)), (tb_t (k := 2) (w := Cond.initialized RX1) (by decide +kernel))⟩
theorem kX11_24 : lkK (gS, X) RX11 24 mX1_init 0 ∧ Cond.instanceMethod yX1_init ∈ g_ws (gS, X) ∧ yX1_init.name = "<init>" ∧ mX1_init.2.2.2 = none := ⟨⟨tb_good, (tb_t (k := 30) (w := Cond.methodLink RX11 24 yX1_init) (by decide +kernel)), (tb_t (k := 2) (w := Cond.initialized RX1) (by decide +kernel)), (tb_t (k := 32) (w := Cond.code yX1_init cX1_init 1 none) (by decide +kernel)), by decide +kernel, by decide⟩, (tb_t (k := 31) (w := Cond.instanceMethod yX1_init) (by decide +kernel)), rfl, rfl⟩
theorem fX11_25 : lkF (gS, X) RX11 25 10 3 "GraphEngine" RX11 TX11 10 := ⟨rfl, inX11, by decide, (tb_t (k := 186) (w := Cond.fieldLink RX11 25 "GraphEngine" "draft" "LGraphEngine$Draft;") (by decide +kernel)), Or.inl rfl⟩
theorem fX11_29 : lkF (gS, X) RX11 29 10 4 "GraphEngine" RX11 TX11 10 := ⟨rfl, inX11, by decide, (tb_t (k := 187) (w := Cond.fieldLink RX11 29 "GraphEngine" "sketch" "LGraphEngine$Draft;") (by decide +kernel)), Or.inl rfl⟩
theorem nX11_32 : lkN (gS, X) RX11 32 8 RX8 TX8 1 := ⟨rfl, inX8, (tb_t (k := 69) (w := Cond.classLink RX11 32 RX8) (by decide +kernel)), (tb_t (k := 70) (w := Cond.instantiable RX8 1) (by decide +kernel)), (tb_t (k := 3) (w := Cond.initialized RX8) (by decide +kernel))⟩
theorem kX11_34 : lkK (gS, X) RX11 34 mX8_init 0 ∧ Cond.instanceMethod yX8_init ∈ g_ws (gS, X) ∧ yX8_init.name = "<init>" ∧ mX8_init.2.2.2 = none := ⟨⟨tb_good, (tb_t (k := 71) (w := Cond.methodLink RX11 34 yX8_init) (by decide +kernel)), (tb_t (k := 3) (w := Cond.initialized RX8) (by decide +kernel)), (tb_t (k := 73) (w := Cond.code yX8_init cX8_init 1 none) (by decide +kernel)), by decide +kernel, by decide⟩, (tb_t (k := 72) (w := Cond.instanceMethod yX8_init) (by decide +kernel)), rfl, rfl⟩
theorem fX11_35 : lkF (gS, X) RX11 35 10 5 "GraphEngine" RX11 TX11 10 := ⟨rfl, inX11, by decide, (tb_t (k := 188) (w := Cond.fieldLink RX11 35 "GraphEngine" "shape" "LGraphEngine$Shape;") (by decide +kernel)), Or.inl rfl⟩
theorem nX11_39 : lkN (gS, X) RX11 39 7 RX7 TX7 5 := ⟨rfl, inX7, (tb_t (k := 80) (w := Cond.classLink RX11 39 RX7) (by decide +kernel)), (tb_t (k := 81) (w := Cond.instantiable RX7 5) (by decide +kernel)), (tb_t (k := 4) (w := Cond.initialized RX7) (by decide +kernel))⟩
theorem kX11_41 : lkK (gS, X) RX11 41 mX7_init 0 ∧ Cond.instanceMethod yX7_init ∈ g_ws (gS, X) ∧ yX7_init.name = "<init>" ∧ mX7_init.2.2.2 = none := ⟨⟨tb_good, (tb_t (k := 82) (w := Cond.methodLink RX11 41 yX7_init) (by decide +kernel)), (tb_t (k := 4) (w := Cond.initialized RX7) (by decide +kernel)), (tb_t (k := 84) (w := Cond.code yX7_init cX7_init 1 none) (by decide +kernel)), by decide +kernel, by decide⟩, (tb_t (k := 83) (w := Cond.instanceMethod yX7_init) (by decide +kernel)), rfl, rfl⟩
theorem fX11_42 : lkF (gS, X) RX11 42 10 6 "GraphEngine" RX11 TX11 10 := ⟨rfl, inX11, by decide, (tb_t (k := 189) (w := Cond.fieldLink RX11 42 "GraphEngine" "sets" "LGraphEngine$Sets;") (by decide +kernel)), Or.inl rfl⟩
theorem nX11_46 : lkN (gS, X) RX11 46 4 RX4 TX4 6 := ⟨rfl, inX4, (tb_t (k := 102) (w := Cond.classLink RX11 46 RX4) (by decide +kernel)), (tb_t (k := 103) (w := Cond.instantiable RX4 6) (by decide +kernel)), (tb_t (k := 5) (w := Cond.initialized RX4) (by decide +kernel))⟩
theorem kX11_48 : lkK (gS, X) RX11 48 mX4_init 0 ∧ Cond.instanceMethod yX4_init ∈ g_ws (gS, X) ∧ yX4_init.name = "<init>" ∧ mX4_init.2.2.2 = none := ⟨⟨tb_good, (tb_t (k := 104) (w := Cond.methodLink RX11 48 yX4_init) (by decide +kernel)), (tb_t (k := 5) (w := Cond.initialized RX4) (by decide +kernel)), (tb_t (k := 106) (w := Cond.code yX4_init cX4_init 1 none) (by decide +kernel)), by decide +kernel, by decide⟩, (tb_t (k := 105) (w := Cond.instanceMethod yX4_init) (by decide +kernel)), rfl, rfl⟩
theorem fX11_49 : lkF (gS, X) RX11 49 10 7 "GraphEngine" RX11 TX11 10 := ⟨rfl, inX11, by decide, (tb_t (k := 190) (w := Cond.fieldLink RX11 49 "GraphEngine" "pairs" "LGraphEngine$Pairs;") (by decide +kernel)), Or.inl rfl⟩
theorem nX11_53 : lkN (gS, X) RX11 53 2 RX2 TX2 10 := ⟨rfl, inX2, (tb_t (k := 127) (w := Cond.classLink RX11 53 RX2) (by decide +kernel)), (tb_t (k := 128) (w := Cond.instantiable RX2 10) (by decide +kernel)), (tb_t (k := 6) (w := Cond.initialized RX2) (by decide +kernel))⟩
theorem kX11_55 : lkK (gS, X) RX11 55 mX2_init 0 ∧ Cond.instanceMethod yX2_init ∈ g_ws (gS, X) ∧ yX2_init.name = "<init>" ∧ mX2_init.2.2.2 = none := ⟨⟨tb_good, (tb_t (k := 129) (w := Cond.methodLink RX11 55 yX2_init) (by decide +kernel)), (tb_t (k := 6) (w := Cond.initialized RX2) (by decide +kernel)), (tb_t (k := 131) (w := Cond.code yX2_init cX2_init 1 none) (by decide +kernel)), by decide +kernel, by decide⟩, (tb_t (k := 130) (w := Cond.instanceMethod yX2_init) (by decide +kernel)), rfl, rfl⟩
theorem fX11_56 : lkF (gS, X) RX11 56 10 8 "GraphEngine" RX11 TX11 10 := ⟨rfl, inX11, by decide, (tb_t (k := 191) (w := Cond.fieldLink RX11 56 "GraphEngine" "flows" "LGraphEngine$Flows;") (by decide +kernel)), Or.inl rfl⟩
theorem nX11_60 : lkN (gS, X) RX11 60 6 RX6 TX6 4 := ⟨rfl, inX6, (tb_t (k := 164) (w := Cond.classLink RX11 60 RX6) (by decide +kernel)), (tb_t (k := 165) (w := Cond.instantiable RX6 4) (by decide +kernel)), (tb_t (k := 7) (w := Cond.initialized RX6) (by decide +kernel))⟩
theorem kX11_62 : lkK (gS, X) RX11 62 mX6_init 0 ∧ Cond.instanceMethod yX6_init ∈ g_ws (gS, X) ∧ yX6_init.name = "<init>" ∧ mX6_init.2.2.2 = none := ⟨⟨tb_good, (tb_t (k := 166) (w := Cond.methodLink RX11 62 yX6_init) (by decide +kernel)), (tb_t (k := 7) (w := Cond.initialized RX6) (by decide +kernel)), (tb_t (k := 168) (w := Cond.code yX6_init cX6_init 1 none) (by decide +kernel)), by decide +kernel, by decide⟩, (tb_t (k := 167) (w := Cond.instanceMethod yX6_init) (by decide +kernel)), rfl, rfl⟩
theorem fX11_63 : lkF (gS, X) RX11 63 10 9 "GraphEngine" RX11 TX11 10 := ⟨rfl, inX11, by decide, (tb_t (k := 192) (w := Cond.fieldLink RX11 63 "GraphEngine" "sameness" "LGraphEngine$Sameness;") (by decide +kernel)), Or.inl rfl⟩
theorem dX11_refuse_0 : decode cX11_refuse 0 = .ok (.aload_n 0, 1) := by decide +kernel
theorem dX11_refuse_1 : decode cX11_refuse 1 = .ok (.iload_n 1, 1) := by decide +kernel
theorem dX11_refuse_2 : decode cX11_refuse 2 = .ok (.putfield 19, 3) := by decide +kernel
theorem dX11_refuse_5 : decode cX11_refuse 5 = .ok (.iload_n 1, 1) := by decide +kernel
theorem dX11_refuse_6 : decode cX11_refuse 6 = .ok (.ireturn, 1) := by decide +kernel
theorem dX11_deny_0 : decode cX11_deny 0 = .ok (.aload_n 0, 1) := by decide +kernel
theorem dX11_deny_1 : decode cX11_deny 1 = .ok (.iload_n 1, 1) := by decide +kernel
theorem dX11_deny_2 : decode cX11_deny 2 = .ok (.putfield 19, 3) := by decide +kernel
theorem dX11_deny_5 : decode cX11_deny 5 = .ok (.iconst 0, 1) := by decide +kernel
theorem dX11_deny_6 : decode cX11_deny 6 = .ok (.ireturn, 1) := by decide +kernel
theorem dX11_isNode_0 : decode cX11_isNode 0 = .ok (.iload_n 0, 1) := by decide +kernel
theorem dX11_isNode_1 : decode cX11_isNode 1 = .ok (.ifCond .lt 12, 3) := by decide +kernel
theorem dX11_isNode_4 : decode cX11_isNode 4 = .ok (.iload_n 0, 1) := by decide +kernel
theorem dX11_isNode_5 : decode cX11_isNode 5 = .ok (.iload_n 1, 1) := by decide +kernel
theorem dX11_isNode_6 : decode cX11_isNode 6 = .ok (.if_icmp .ge 7, 3) := by decide +kernel
theorem dX11_isNode_9 : decode cX11_isNode 9 = .ok (.iconst 1, 1) := by decide +kernel
theorem dX11_isNode_10 : decode cX11_isNode 10 = .ok (.goto 4, 3) := by decide +kernel
theorem dX11_isNode_13 : decode cX11_isNode 13 = .ok (.iconst 0, 1) := by decide +kernel
theorem dX11_isNode_14 : decode cX11_isNode 14 = .ok (.ireturn, 1) := by decide +kernel
theorem dX11_isWeight_0 : decode cX11_isWeight 0 = .ok (.iload_n 0, 1) := by decide +kernel
theorem dX11_isWeight_1 : decode cX11_isWeight 1 = .ok (.sipush (-1000), 3) := by decide +kernel
theorem dX11_isWeight_4 : decode cX11_isWeight 4 = .ok (.if_icmp .lt 14, 3) := by decide +kernel
theorem dX11_isWeight_7 : decode cX11_isWeight 7 = .ok (.iload_n 0, 1) := by decide +kernel
theorem dX11_isWeight_8 : decode cX11_isWeight 8 = .ok (.sipush 1000, 3) := by decide +kernel
theorem dX11_isWeight_11 : decode cX11_isWeight 11 = .ok (.if_icmp .gt 7, 3) := by decide +kernel
theorem dX11_isWeight_14 : decode cX11_isWeight 14 = .ok (.iconst 1, 1) := by decide +kernel
theorem dX11_isWeight_15 : decode cX11_isWeight 15 = .ok (.goto 4, 3) := by decide +kernel
theorem dX11_isWeight_18 : decode cX11_isWeight 18 = .ok (.iconst 0, 1) := by decide +kernel
theorem dX11_isWeight_19 : decode cX11_isWeight 19 = .ok (.ireturn, 1) := by decide +kernel
theorem dX11_isFull_0 : decode cX11_isFull 0 = .ok (.aload_n 0, 1) := by decide +kernel
theorem dX11_isFull_1 : decode cX11_isFull 1 = .ok (.getfield 15, 3) := by decide +kernel
theorem dX11_isFull_4 : decode cX11_isFull 4 = .ok (.bipush 120, 2) := by decide +kernel
theorem dX11_isFull_6 : decode cX11_isFull 6 = .ok (.if_icmp .lt 7, 3) := by decide +kernel
theorem dX11_isFull_9 : decode cX11_isFull 9 = .ok (.iconst 1, 1) := by decide +kernel
theorem dX11_isFull_10 : decode cX11_isFull 10 = .ok (.goto 4, 3) := by decide +kernel
theorem dX11_isFull_13 : decode cX11_isFull 13 = .ok (.iconst 0, 1) := by decide +kernel
theorem dX11_isFull_14 : decode cX11_isFull 14 = .ok (.ireturn, 1) := by decide +kernel
theorem dX11_keep_0 : decode cX11_keep 0 = .ok (.aload_n 0, 1) := by decide +kernel
theorem dX11_keep_1 : decode cX11_keep 1 = .ok (.getfield 15, 3) := by decide +kernel
theorem dX11_keep_4 : decode cX11_keep 4 = .ok (.istore_n 2, 1) := by decide +kernel
theorem dX11_keep_5 : decode cX11_keep 5 = .ok (.iload_n 2, 1) := by decide +kernel
theorem dX11_keep_6 : decode cX11_keep 6 = .ok (.ifCond .lt 9, 3) := by decide +kernel
theorem dX11_keep_9 : decode cX11_keep 9 = .ok (.iload_n 2, 1) := by decide +kernel
theorem dX11_keep_10 : decode cX11_keep 10 = .ok (.bipush 120, 2) := by decide +kernel
theorem dX11_keep_12 : decode cX11_keep 12 = .ok (.if_icmp .lt 10, 3) := by decide +kernel
theorem dX11_keep_15 : decode cX11_keep 15 = .ok (.aload_n 0, 1) := by decide +kernel
theorem dX11_keep_16 : decode cX11_keep 16 = .ok (.bipush (-4), 2) := by decide +kernel
theorem dX11_keep_18 : decode cX11_keep 18 = .ok (.invokevirtual 82, 3) := by decide +kernel
theorem dX11_keep_21 : decode cX11_keep 21 = .ok (.ireturn, 1) := by decide +kernel
theorem dX11_keep_22 : decode cX11_keep 22 = .ok (.aload_n 0, 1) := by decide +kernel
theorem dX11_keep_23 : decode cX11_keep 23 = .ok (.getfield 11, 3) := by decide +kernel
theorem dX11_keep_26 : decode cX11_keep 26 = .ok (.iload_n 2, 1) := by decide +kernel
theorem dX11_keep_27 : decode cX11_keep 27 = .ok (.aload_n 1, 1) := by decide +kernel
theorem dX11_keep_28 : decode cX11_keep 28 = .ok (.aastore, 1) := by decide +kernel
theorem dX11_keep_29 : decode cX11_keep 29 = .ok (.aload_n 0, 1) := by decide +kernel
theorem dX11_keep_30 : decode cX11_keep 30 = .ok (.iload_n 2, 1) := by decide +kernel
theorem dX11_keep_31 : decode cX11_keep 31 = .ok (.iconst 1, 1) := by decide +kernel
theorem dX11_keep_32 : decode cX11_keep 32 = .ok (.iadd, 1) := by decide +kernel
theorem dX11_keep_33 : decode cX11_keep 33 = .ok (.putfield 15, 3) := by decide +kernel
theorem dX11_keep_36 : decode cX11_keep 36 = .ok (.iload_n 2, 1) := by decide +kernel
theorem dX11_keep_37 : decode cX11_keep 37 = .ok (.ireturn, 1) := by decide +kernel
theorem kX11_82 : lkK (gS, X) RX11 82 mX11_refuse 1 ∧ Cond.instanceMethod yX11_refuse ∈ g_ws (gS, X) ∧ Cond.selects RX11 yX11_refuse yX11_refuse ∈ g_ws (gS, X) ∧ yX11_refuse.cls = RX11 := ⟨⟨tb_good, (tb_t (k := 232) (w := Cond.methodLink RX11 82 yX11_refuse) (by decide +kernel)), (tb_t (k := 1) (w := Cond.initialized RX11) (by decide +kernel)), (tb_t (k := 235) (w := Cond.code yX11_refuse cX11_refuse 2 (some .int)) (by decide +kernel)), by decide +kernel, by decide⟩, (tb_t (k := 234) (w := Cond.instanceMethod yX11_refuse) (by decide +kernel)), (tb_p (k := 0) (q := (yX11_refuse, 10)) (by decide +kernel)), rfl⟩
theorem dX11_thingAt_0 : decode cX11_thingAt 0 = .ok (.iload_n 1, 1) := by decide +kernel
theorem dX11_thingAt_1 : decode cX11_thingAt 1 = .ok (.aload_n 0, 1) := by decide +kernel
theorem dX11_thingAt_2 : decode cX11_thingAt 2 = .ok (.getfield 15, 3) := by decide +kernel
theorem dX11_thingAt_5 : decode cX11_thingAt 5 = .ok (.invokestatic 74, 3) := by decide +kernel
theorem dX11_thingAt_8 : decode cX11_thingAt 8 = .ok (.ifCond .eq 18, 3) := by decide +kernel
theorem dX11_thingAt_11 : decode cX11_thingAt 11 = .ok (.iload_n 1, 1) := by decide +kernel
theorem dX11_thingAt_12 : decode cX11_thingAt 12 = .ok (.bipush 120, 2) := by decide +kernel
theorem dX11_thingAt_14 : decode cX11_thingAt 14 = .ok (.if_icmp .ge 12, 3) := by decide +kernel
theorem dX11_thingAt_17 : decode cX11_thingAt 17 = .ok (.aload_n 0, 1) := by decide +kernel
theorem dX11_thingAt_18 : decode cX11_thingAt 18 = .ok (.getfield 11, 3) := by decide +kernel
theorem dX11_thingAt_21 : decode cX11_thingAt 21 = .ok (.iload_n 1, 1) := by decide +kernel
theorem dX11_thingAt_22 : decode cX11_thingAt 22 = .ok (.aaload, 1) := by decide +kernel
theorem dX11_thingAt_23 : decode cX11_thingAt 23 = .ok (.goto 4, 3) := by decide +kernel
theorem dX11_thingAt_26 : decode cX11_thingAt 26 = .ok (.aconst_null, 1) := by decide +kernel
theorem dX11_thingAt_27 : decode cX11_thingAt 27 = .ok (.areturn, 1) := by decide +kernel
theorem kX11_74 : lkK (gS, X) RX11 74 mX11_isNode 2 ∧ Cond.static yX11_isNode ∈ g_ws (gS, X) := ⟨⟨tb_good, (tb_t (k := 226) (w := Cond.methodLink RX11 74 yX11_isNode) (by decide +kernel)), (tb_t (k := 1) (w := Cond.initialized RX11) (by decide +kernel)), (tb_t (k := 228) (w := Cond.code yX11_isNode cX11_isNode 2 (some .boolean)) (by decide +kernel)), by decide +kernel, by decide⟩, (tb_t (k := 227) (w := Cond.static yX11_isNode) (by decide +kernel))⟩
theorem dX11_graphAt_0 : decode cX11_graphAt 0 = .ok (.aload_n 0, 1) := by decide +kernel
theorem dX11_graphAt_1 : decode cX11_graphAt 1 = .ok (.iload_n 1, 1) := by decide +kernel
theorem dX11_graphAt_2 : decode cX11_graphAt 2 = .ok (.invokevirtual 199, 3) := by decide +kernel
theorem dX11_graphAt_5 : decode cX11_graphAt 5 = .ok (.astore_n 3, 1) := by decide +kernel
theorem dX11_graphAt_6 : decode cX11_graphAt 6 = .ok (.aload_n 3, 1) := by decide +kernel
theorem dX11_graphAt_7 : decode cX11_graphAt 7 = .ok (.instanceof 97, 3) := by decide +kernel
theorem dX11_graphAt_10 : decode cX11_graphAt 10 = .ok (.ifCond .eq 12, 3) := by decide +kernel
theorem dX11_graphAt_13 : decode cX11_graphAt 13 = .ok (.aload_n 3, 1) := by decide +kernel
theorem dX11_graphAt_14 : decode cX11_graphAt 14 = .ok (.checkcast 97, 3) := by decide +kernel
theorem dX11_graphAt_17 : decode cX11_graphAt 17 = .ok (.astore_n 2, 1) := by decide +kernel
theorem dX11_graphAt_18 : decode cX11_graphAt 18 = .ok (.aload_n 2, 1) := by decide +kernel
theorem dX11_graphAt_19 : decode cX11_graphAt 19 = .ok (.goto 4, 3) := by decide +kernel
theorem dX11_graphAt_22 : decode cX11_graphAt 22 = .ok (.aconst_null, 1) := by decide +kernel
theorem dX11_graphAt_23 : decode cX11_graphAt 23 = .ok (.areturn, 1) := by decide +kernel
theorem kX11_199 : lkK (gS, X) RX11 199 mX11_thingAt 1 ∧ Cond.instanceMethod yX11_thingAt ∈ g_ws (gS, X) ∧ Cond.selects RX11 yX11_thingAt yX11_thingAt ∈ g_ws (gS, X) ∧ yX11_thingAt.cls = RX11 := ⟨⟨tb_good, (tb_t (k := 413) (w := Cond.methodLink RX11 199 yX11_thingAt) (by decide +kernel)), (tb_t (k := 1) (w := Cond.initialized RX11) (by decide +kernel)), (tb_t (k := 416) (w := Cond.code yX11_thingAt cX11_thingAt 2 (some (.object "GraphEngine$Thing"))) (by decide +kernel)), by decide +kernel, by decide⟩, (tb_t (k := 415) (w := Cond.instanceMethod yX11_thingAt) (by decide +kernel)), (tb_p (k := 6) (q := (yX11_thingAt, 10)) (by decide +kernel)), rfl⟩
theorem dX11_columnAt_0 : decode cX11_columnAt 0 = .ok (.aload_n 0, 1) := by decide +kernel
theorem dX11_columnAt_1 : decode cX11_columnAt 1 = .ok (.iload_n 1, 1) := by decide +kernel
theorem dX11_columnAt_2 : decode cX11_columnAt 2 = .ok (.invokevirtual 199, 3) := by decide +kernel
theorem dX11_columnAt_5 : decode cX11_columnAt 5 = .ok (.astore_n 3, 1) := by decide +kernel
theorem dX11_columnAt_6 : decode cX11_columnAt 6 = .ok (.aload_n 3, 1) := by decide +kernel
theorem dX11_columnAt_7 : decode cX11_columnAt 7 = .ok (.instanceof 151, 3) := by decide +kernel
theorem dX11_columnAt_10 : decode cX11_columnAt 10 = .ok (.ifCond .eq 12, 3) := by decide +kernel
theorem dX11_columnAt_13 : decode cX11_columnAt 13 = .ok (.aload_n 3, 1) := by decide +kernel
theorem dX11_columnAt_14 : decode cX11_columnAt 14 = .ok (.checkcast 151, 3) := by decide +kernel
theorem dX11_columnAt_17 : decode cX11_columnAt 17 = .ok (.astore_n 2, 1) := by decide +kernel
theorem dX11_columnAt_18 : decode cX11_columnAt 18 = .ok (.aload_n 2, 1) := by decide +kernel
theorem dX11_columnAt_19 : decode cX11_columnAt 19 = .ok (.goto 4, 3) := by decide +kernel
theorem dX11_columnAt_22 : decode cX11_columnAt 22 = .ok (.aconst_null, 1) := by decide +kernel
theorem dX11_columnAt_23 : decode cX11_columnAt 23 = .ok (.areturn, 1) := by decide +kernel
theorem dX11_waysAt_0 : decode cX11_waysAt 0 = .ok (.aload_n 0, 1) := by decide +kernel
theorem dX11_waysAt_1 : decode cX11_waysAt 1 = .ok (.iload_n 1, 1) := by decide +kernel
theorem dX11_waysAt_2 : decode cX11_waysAt 2 = .ok (.invokevirtual 199, 3) := by decide +kernel
theorem dX11_waysAt_5 : decode cX11_waysAt 5 = .ok (.astore_n 3, 1) := by decide +kernel
theorem dX11_waysAt_6 : decode cX11_waysAt 6 = .ok (.aload_n 3, 1) := by decide +kernel
theorem dX11_waysAt_7 : decode cX11_waysAt 7 = .ok (.instanceof 189, 3) := by decide +kernel
theorem dX11_waysAt_10 : decode cX11_waysAt 10 = .ok (.ifCond .eq 12, 3) := by decide +kernel
theorem dX11_waysAt_13 : decode cX11_waysAt 13 = .ok (.aload_n 3, 1) := by decide +kernel
theorem dX11_waysAt_14 : decode cX11_waysAt 14 = .ok (.checkcast 189, 3) := by decide +kernel
theorem dX11_waysAt_17 : decode cX11_waysAt 17 = .ok (.astore_n 2, 1) := by decide +kernel
theorem dX11_waysAt_18 : decode cX11_waysAt 18 = .ok (.aload_n 2, 1) := by decide +kernel
theorem dX11_waysAt_19 : decode cX11_waysAt 19 = .ok (.goto 4, 3) := by decide +kernel
theorem dX11_waysAt_22 : decode cX11_waysAt 22 = .ok (.aconst_null, 1) := by decide +kernel
theorem dX11_waysAt_23 : decode cX11_waysAt 23 = .ok (.areturn, 1) := by decide +kernel
theorem dX11_partsAt_0 : decode cX11_partsAt 0 = .ok (.aload_n 0, 1) := by decide +kernel
theorem dX11_partsAt_1 : decode cX11_partsAt 1 = .ok (.iload_n 1, 1) := by decide +kernel
theorem dX11_partsAt_2 : decode cX11_partsAt 2 = .ok (.invokevirtual 199, 3) := by decide +kernel
theorem dX11_partsAt_5 : decode cX11_partsAt 5 = .ok (.astore_n 3, 1) := by decide +kernel
theorem dX11_partsAt_6 : decode cX11_partsAt 6 = .ok (.aload_n 3, 1) := by decide +kernel
theorem dX11_partsAt_7 : decode cX11_partsAt 7 = .ok (.instanceof 145, 3) := by decide +kernel
theorem dX11_partsAt_10 : decode cX11_partsAt 10 = .ok (.ifCond .eq 12, 3) := by decide +kernel
theorem dX11_partsAt_13 : decode cX11_partsAt 13 = .ok (.aload_n 3, 1) := by decide +kernel
theorem dX11_partsAt_14 : decode cX11_partsAt 14 = .ok (.checkcast 145, 3) := by decide +kernel
theorem dX11_partsAt_17 : decode cX11_partsAt 17 = .ok (.astore_n 2, 1) := by decide +kernel
theorem dX11_partsAt_18 : decode cX11_partsAt 18 = .ok (.aload_n 2, 1) := by decide +kernel
theorem dX11_partsAt_19 : decode cX11_partsAt 19 = .ok (.goto 4, 3) := by decide +kernel
theorem dX11_partsAt_22 : decode cX11_partsAt 22 = .ok (.aconst_null, 1) := by decide +kernel
theorem dX11_partsAt_23 : decode cX11_partsAt 23 = .ok (.areturn, 1) := by decide +kernel
theorem dX11_whyNot_0 : decode cX11_whyNot 0 = .ok (.aload_n 0, 1) := by decide +kernel
theorem dX11_whyNot_1 : decode cX11_whyNot 1 = .ok (.iload_n 1, 1) := by decide +kernel
theorem dX11_whyNot_2 : decode cX11_whyNot 2 = .ok (.invokevirtual 199, 3) := by decide +kernel
theorem dX11_whyNot_5 : decode cX11_whyNot 5 = .ok (.ifnonnull 7, 3) := by decide +kernel
theorem dX11_whyNot_8 : decode cX11_whyNot 8 = .ok (.iconst (-1), 1) := by decide +kernel
theorem dX11_whyNot_9 : decode cX11_whyNot 9 = .ok (.goto 5, 3) := by decide +kernel
theorem dX11_whyNot_12 : decode cX11_whyNot 12 = .ok (.bipush (-2), 2) := by decide +kernel
theorem dX11_whyNot_14 : decode cX11_whyNot 14 = .ok (.ireturn, 1) := by decide +kernel
theorem dX11_whyNotBoth_0 : decode cX11_whyNotBoth 0 = .ok (.aload_n 0, 1) := by decide +kernel
theorem dX11_whyNotBoth_1 : decode cX11_whyNotBoth 1 = .ok (.iload_n 1, 1) := by decide +kernel
theorem dX11_whyNotBoth_2 : decode cX11_whyNotBoth 2 = .ok (.invokevirtual 199, 3) := by decide +kernel
theorem dX11_whyNotBoth_5 : decode cX11_whyNotBoth 5 = .ok (.ifnull 11, 3) := by decide +kernel
theorem dX11_whyNotBoth_8 : decode cX11_whyNotBoth 8 = .ok (.aload_n 0, 1) := by decide +kernel
theorem dX11_whyNotBoth_9 : decode cX11_whyNotBoth 9 = .ok (.iload_n 2, 1) := by decide +kernel
theorem dX11_whyNotBoth_10 : decode cX11_whyNotBoth 10 = .ok (.invokevirtual 199, 3) := by decide +kernel
theorem dX11_whyNotBoth_13 : decode cX11_whyNotBoth 13 = .ok (.ifnonnull 7, 3) := by decide +kernel
theorem dX11_whyNotBoth_16 : decode cX11_whyNotBoth 16 = .ok (.iconst (-1), 1) := by decide +kernel
theorem dX11_whyNotBoth_17 : decode cX11_whyNotBoth 17 = .ok (.goto 5, 3) := by decide +kernel
theorem dX11_whyNotBoth_20 : decode cX11_whyNotBoth 20 = .ok (.bipush (-2), 2) := by decide +kernel
theorem dX11_whyNotBoth_22 : decode cX11_whyNotBoth 22 = .ok (.ireturn, 1) := by decide +kernel
theorem dX11_view_0 : decode cX11_view 0 = .ok (.aload_n 0, 1) := by decide +kernel
theorem dX11_view_1 : decode cX11_view 1 = .ok (.iconst 0, 1) := by decide +kernel
theorem dX11_view_2 : decode cX11_view 2 = .ok (.putfield 19, 3) := by decide +kernel
theorem dX11_view_5 : decode cX11_view 5 = .ok (.aload_n 0, 1) := by decide +kernel
theorem dX11_view_6 : decode cX11_view 6 = .ok (.iload_n 1, 1) := by decide +kernel
theorem dX11_view_7 : decode cX11_view 7 = .ok (.invokevirtual 106, 3) := by decide +kernel
theorem dX11_view_10 : decode cX11_view 10 = .ok (.astore 4, 2) := by decide +kernel
theorem dX11_view_12 : decode cX11_view 12 = .ok (.aload 4, 2) := by decide +kernel
theorem dX11_view_14 : decode cX11_view 14 = .ok (.ifnonnull 13, 3) := by decide +kernel
theorem dX11_view_17 : decode cX11_view 17 = .ok (.aload_n 0, 1) := by decide +kernel
theorem dX11_view_18 : decode cX11_view 18 = .ok (.aload_n 0, 1) := by decide +kernel
theorem dX11_view_19 : decode cX11_view 19 = .ok (.iload_n 1, 1) := by decide +kernel
theorem dX11_view_20 : decode cX11_view 20 = .ok (.invokevirtual 110, 3) := by decide +kernel
theorem dX11_view_23 : decode cX11_view 23 = .ok (.invokevirtual 82, 3) := by decide +kernel
theorem dX11_view_26 : decode cX11_view 26 = .ok (.ireturn, 1) := by decide +kernel
theorem dX11_view_27 : decode cX11_view 27 = .ok (.aload 4, 2) := by decide +kernel
theorem dX11_view_29 : decode cX11_view 29 = .ok (.iload_n 2, 1) := by decide +kernel
theorem dX11_view_30 : decode cX11_view 30 = .ok (.iload_n 3, 1) := by decide +kernel
theorem dX11_view_31 : decode cX11_view 31 = .ok (.invokestatic 113, 3) := by decide +kernel
theorem dX11_view_34 : decode cX11_view 34 = .ok (.ifCond .ne 10, 3) := by decide +kernel
theorem dX11_view_37 : decode cX11_view 37 = .ok (.aload_n 0, 1) := by decide +kernel
theorem dX11_view_38 : decode cX11_view 38 = .ok (.bipush (-3), 2) := by decide +kernel
theorem dX11_view_40 : decode cX11_view 40 = .ok (.invokevirtual 82, 3) := by decide +kernel
theorem dX11_view_43 : decode cX11_view 43 = .ok (.ireturn, 1) := by decide +kernel
theorem dX11_view_44 : decode cX11_view 44 = .ok (.aload_n 0, 1) := by decide +kernel
theorem dX11_view_45 : decode cX11_view 45 = .ok (.invokevirtual 93, 3) := by decide +kernel
theorem dX11_view_48 : decode cX11_view 48 = .ok (.ifCond .ne 17, 3) := by decide +kernel
theorem dX11_view_51 : decode cX11_view 51 = .ok (.aload_n 0, 1) := by decide +kernel
theorem dX11_view_52 : decode cX11_view 52 = .ok (.getfield 29, 3) := by decide +kernel
theorem dX11_view_55 : decode cX11_view 55 = .ok (.aload 4, 2) := by decide +kernel
theorem dX11_view_57 : decode cX11_view 57 = .ok (.iload_n 2, 1) := by decide +kernel
theorem dX11_view_58 : decode cX11_view 58 = .ok (.iload_n 3, 1) := by decide +kernel
theorem dX11_view_59 : decode cX11_view 59 = .ok (.invokevirtual 117, 3) := by decide +kernel
theorem dX11_view_62 : decode cX11_view 62 = .ok (.ifCond .ne 10, 3) := by decide +kernel
theorem dX11_view_65 : decode cX11_view 65 = .ok (.aload_n 0, 1) := by decide +kernel
theorem dX11_view_66 : decode cX11_view 66 = .ok (.bipush (-4), 2) := by decide +kernel
theorem dX11_view_68 : decode cX11_view 68 = .ok (.invokevirtual 82, 3) := by decide +kernel
theorem dX11_view_71 : decode cX11_view 71 = .ok (.ireturn, 1) := by decide +kernel
theorem dX11_view_72 : decode cX11_view 72 = .ok (.aload_n 0, 1) := by decide +kernel
theorem dX11_view_73 : decode cX11_view 73 = .ok (.new 97, 3) := by decide +kernel
theorem dX11_view_76 : decode cX11_view 76 = .ok (.dup, 1) := by decide +kernel
theorem dX11_view_77 : decode cX11_view 77 = .ok (.aload_n 0, 1) := by decide +kernel
theorem dX11_view_78 : decode cX11_view 78 = .ok (.getfield 29, 3) := by decide +kernel
theorem dX11_view_81 : decode cX11_view 81 = .ok (.invokespecial 99, 3) := by decide +kernel
theorem dX11_view_84 : decode cX11_view 84 = .ok (.invokevirtual 102, 3) := by decide +kernel
theorem dX11_view_87 : decode cX11_view 87 = .ok (.ireturn, 1) := by decide +kernel
theorem kX11_106 : lkK (gS, X) RX11 106 mX11_graphAt 1 ∧ Cond.instanceMethod yX11_graphAt ∈ g_ws (gS, X) ∧ Cond.selects RX11 yX11_graphAt yX11_graphAt ∈ g_ws (gS, X) ∧ yX11_graphAt.cls = RX11 := ⟨⟨tb_good, (tb_t (k := 409) (w := Cond.methodLink RX11 106 yX11_graphAt) (by decide +kernel)), (tb_t (k := 1) (w := Cond.initialized RX11) (by decide +kernel)), (tb_t (k := 412) (w := Cond.code yX11_graphAt cX11_graphAt 4 (some (.object "GraphEngine$Graph"))) (by decide +kernel)), by decide +kernel, by decide⟩, (tb_t (k := 411) (w := Cond.instanceMethod yX11_graphAt) (by decide +kernel)), (tb_p (k := 5) (q := (yX11_graphAt, 10)) (by decide +kernel)), rfl⟩
theorem kX11_110 : lkK (gS, X) RX11 110 mX11_whyNot 1 ∧ Cond.instanceMethod yX11_whyNot ∈ g_ws (gS, X) ∧ Cond.selects RX11 yX11_whyNot yX11_whyNot ∈ g_ws (gS, X) ∧ yX11_whyNot.cls = RX11 := ⟨⟨tb_good, (tb_t (k := 417) (w := Cond.methodLink RX11 110 yX11_whyNot) (by decide +kernel)), (tb_t (k := 1) (w := Cond.initialized RX11) (by decide +kernel)), (tb_t (k := 420) (w := Cond.code yX11_whyNot cX11_whyNot 2 (some .int)) (by decide +kernel)), by decide +kernel, by decide⟩, (tb_t (k := 419) (w := Cond.instanceMethod yX11_whyNot) (by decide +kernel)), (tb_p (k := 7) (q := (yX11_whyNot, 10)) (by decide +kernel)), rfl⟩
theorem kX11_113 : lkK (gS, X) RX11 113 mX1_isView 3 ∧ Cond.static yX1_isView ∈ g_ws (gS, X) := ⟨⟨tb_good, (tb_t (k := 421) (w := Cond.methodLink RX11 113 yX1_isView) (by decide +kernel)), (tb_t (k := 2) (w := Cond.initialized RX1) (by decide +kernel)), (tb_t (k := 423) (w := Cond.code yX1_isView cX1_isView 3 (some .boolean)) (by decide +kernel)), by decide +kernel, by decide⟩, (tb_t (k := 422) (w := Cond.static yX1_isView) (by decide +kernel))⟩
theorem kX11_93 : lkK (gS, X) RX11 93 mX11_isFull 0 ∧ Cond.instanceMethod yX11_isFull ∈ g_ws (gS, X) ∧ Cond.selects RX11 yX11_isFull yX11_isFull ∈ g_ws (gS, X) ∧ yX11_isFull.cls = RX11 := ⟨⟨tb_good, (tb_t (k := 244) (w := Cond.methodLink RX11 93 yX11_isFull) (by decide +kernel)), (tb_t (k := 1) (w := Cond.initialized RX11) (by decide +kernel)), (tb_t (k := 247) (w := Cond.code yX11_isFull cX11_isFull 1 (some .boolean)) (by decide +kernel)), by decide +kernel, by decide⟩, (tb_t (k := 246) (w := Cond.instanceMethod yX11_isFull) (by decide +kernel)), (tb_p (k := 1) (q := (yX11_isFull, 10)) (by decide +kernel)), rfl⟩
theorem kX11_117 : lkK (gS, X) RX11 117 mX1_draw 3 ∧ Cond.instanceMethod yX1_draw ∈ g_ws (gS, X) ∧ Cond.selects RX1 yX1_draw yX1_draw ∈ g_ws (gS, X) ∧ yX1_draw.cls = RX1 := ⟨⟨tb_good, (tb_t (k := 428) (w := Cond.methodLink RX11 117 yX1_draw) (by decide +kernel)), (tb_t (k := 2) (w := Cond.initialized RX1) (by decide +kernel)), (tb_t (k := 431) (w := Cond.code yX1_draw cX1_draw 4 (some .boolean)) (by decide +kernel)), by decide +kernel, by decide⟩, (tb_t (k := 429) (w := Cond.instanceMethod yX1_draw) (by decide +kernel)), (tb_t (k := 430) (w := Cond.selects RX1 yX1_draw yX1_draw) (by decide +kernel)), rfl⟩
theorem nX11_97 : lkN (gS, X) RX11 97 3 RX3 TX3 14 := ⟨rfl, inX3, (tb_t (k := 248) (w := Cond.classLink RX11 97 RX3) (by decide +kernel)), (tb_t (k := 249) (w := Cond.instantiable RX3 14) (by decide +kernel)), (tb_t (k := 10) (w := Cond.initialized RX3) (by decide +kernel))⟩
theorem kX11_99 : lkK (gS, X) RX11 99 mX3_init 1 ∧ Cond.instanceMethod yX3_init ∈ g_ws (gS, X) ∧ yX3_init.name = "<init>" ∧ mX3_init.2.2.2 = none := ⟨⟨tb_good, (tb_t (k := 250) (w := Cond.methodLink RX11 99 yX3_init) (by decide +kernel)), (tb_t (k := 10) (w := Cond.initialized RX3) (by decide +kernel)), (tb_t (k := 252) (w := Cond.code yX3_init cX3_init 2 none) (by decide +kernel)), by decide +kernel, by decide⟩, (tb_t (k := 251) (w := Cond.instanceMethod yX3_init) (by decide +kernel)), rfl, rfl⟩
theorem kX11_102 : lkK (gS, X) RX11 102 mX11_keep 1 ∧ Cond.instanceMethod yX11_keep ∈ g_ws (gS, X) ∧ Cond.selects RX11 yX11_keep yX11_keep ∈ g_ws (gS, X) ∧ yX11_keep.cls = RX11 := ⟨⟨tb_good, (tb_t (k := 401) (w := Cond.methodLink RX11 102 yX11_keep) (by decide +kernel)), (tb_t (k := 1) (w := Cond.initialized RX11) (by decide +kernel)), (tb_t (k := 404) (w := Cond.code yX11_keep cX11_keep 3 (some .int)) (by decide +kernel)), by decide +kernel, by decide⟩, (tb_t (k := 403) (w := Cond.instanceMethod yX11_keep) (by decide +kernel)), (tb_p (k := 4) (q := (yX11_keep, 10)) (by decide +kernel)), rfl⟩
theorem dX11_append_0 : decode cX11_append 0 = .ok (.aload_n 0, 1) := by decide +kernel
theorem dX11_append_1 : decode cX11_append 1 = .ok (.iload_n 1, 1) := by decide +kernel
theorem dX11_append_2 : decode cX11_append 2 = .ok (.invokevirtual 106, 3) := by decide +kernel
theorem dX11_append_5 : decode cX11_append 5 = .ok (.astore_n 3, 1) := by decide +kernel
theorem dX11_append_6 : decode cX11_append 6 = .ok (.aload_n 0, 1) := by decide +kernel
theorem dX11_append_7 : decode cX11_append 7 = .ok (.iload_n 2, 1) := by decide +kernel
theorem dX11_append_8 : decode cX11_append 8 = .ok (.invokevirtual 106, 3) := by decide +kernel
theorem dX11_append_11 : decode cX11_append 11 = .ok (.astore 4, 2) := by decide +kernel
theorem dX11_append_13 : decode cX11_append 13 = .ok (.aload_n 3, 1) := by decide +kernel
theorem dX11_append_14 : decode cX11_append 14 = .ok (.ifnull 8, 3) := by decide +kernel
theorem dX11_append_17 : decode cX11_append 17 = .ok (.aload 4, 2) := by decide +kernel
theorem dX11_append_19 : decode cX11_append 19 = .ok (.ifnonnull 14, 3) := by decide +kernel
theorem dX11_append_22 : decode cX11_append 22 = .ok (.aload_n 0, 1) := by decide +kernel
theorem dX11_append_23 : decode cX11_append 23 = .ok (.aload_n 0, 1) := by decide +kernel
theorem dX11_append_24 : decode cX11_append 24 = .ok (.iload_n 1, 1) := by decide +kernel
theorem dX11_append_25 : decode cX11_append 25 = .ok (.iload_n 2, 1) := by decide +kernel
theorem dX11_append_26 : decode cX11_append 26 = .ok (.invokevirtual 127, 3) := by decide +kernel
theorem dX11_append_29 : decode cX11_append 29 = .ok (.invokevirtual 82, 3) := by decide +kernel
theorem dX11_append_32 : decode cX11_append 32 = .ok (.ireturn, 1) := by decide +kernel
theorem dX11_append_33 : decode cX11_append 33 = .ok (.aload_n 3, 1) := by decide +kernel
theorem dX11_append_34 : decode cX11_append 34 = .ok (.getfield 130, 3) := by decide +kernel
theorem dX11_append_37 : decode cX11_append 37 = .ok (.aload 4, 2) := by decide +kernel
theorem dX11_append_39 : decode cX11_append 39 = .ok (.getfield 130, 3) := by decide +kernel
theorem dX11_append_42 : decode cX11_append 42 = .ok (.if_icmp .eq 10, 3) := by decide +kernel
theorem dX11_append_45 : decode cX11_append 45 = .ok (.aload_n 0, 1) := by decide +kernel
theorem dX11_append_46 : decode cX11_append 46 = .ok (.bipush (-3), 2) := by decide +kernel
theorem dX11_append_48 : decode cX11_append 48 = .ok (.invokevirtual 82, 3) := by decide +kernel
theorem dX11_append_51 : decode cX11_append 51 = .ok (.ireturn, 1) := by decide +kernel
theorem dX11_append_52 : decode cX11_append 52 = .ok (.aload_n 3, 1) := by decide +kernel
theorem dX11_append_53 : decode cX11_append 53 = .ok (.getfield 134, 3) := by decide +kernel
theorem dX11_append_56 : decode cX11_append 56 = .ok (.aload 4, 2) := by decide +kernel
theorem dX11_append_58 : decode cX11_append 58 = .ok (.getfield 134, 3) := by decide +kernel
theorem dX11_append_61 : decode cX11_append 61 = .ok (.iadd, 1) := by decide +kernel
theorem dX11_append_62 : decode cX11_append 62 = .ok (.bipush 16, 2) := by decide +kernel
theorem dX11_append_64 : decode cX11_append 64 = .ok (.if_icmp .gt 22, 3) := by decide +kernel
theorem dX11_append_67 : decode cX11_append 67 = .ok (.aload_n 3, 1) := by decide +kernel
theorem dX11_append_68 : decode cX11_append 68 = .ok (.getfield 135, 3) := by decide +kernel
theorem dX11_append_71 : decode cX11_append 71 = .ok (.aload 4, 2) := by decide +kernel
theorem dX11_append_73 : decode cX11_append 73 = .ok (.getfield 135, 3) := by decide +kernel
theorem dX11_append_76 : decode cX11_append 76 = .ok (.iadd, 1) := by decide +kernel
theorem dX11_append_77 : decode cX11_append 77 = .ok (.bipush 60, 2) := by decide +kernel
theorem dX11_append_79 : decode cX11_append 79 = .ok (.if_icmp .gt 7, 3) := by decide +kernel
theorem dX11_append_82 : decode cX11_append 82 = .ok (.iconst 1, 1) := by decide +kernel
theorem dX11_append_83 : decode cX11_append 83 = .ok (.goto 4, 3) := by decide +kernel
theorem dX11_append_86 : decode cX11_append 86 = .ok (.iconst 0, 1) := by decide +kernel
theorem dX11_append_87 : decode cX11_append 87 = .ok (.istore 5, 2) := by decide +kernel
theorem dX11_append_89 : decode cX11_append 89 = .ok (.aload_n 0, 1) := by decide +kernel
theorem dX11_append_90 : decode cX11_append 90 = .ok (.invokevirtual 93, 3) := by decide +kernel
theorem dX11_append_93 : decode cX11_append 93 = .ok (.ifCond .ne 8, 3) := by decide +kernel
theorem dX11_append_96 : decode cX11_append 96 = .ok (.iload 5, 2) := by decide +kernel
theorem dX11_append_98 : decode cX11_append 98 = .ok (.ifCond .ne 10, 3) := by decide +kernel
theorem dX11_append_101 : decode cX11_append 101 = .ok (.aload_n 0, 1) := by decide +kernel
theorem dX11_append_102 : decode cX11_append 102 = .ok (.bipush (-4), 2) := by decide +kernel
theorem dX11_append_104 : decode cX11_append 104 = .ok (.invokevirtual 82, 3) := by decide +kernel
theorem dX11_append_107 : decode cX11_append 107 = .ok (.ireturn, 1) := by decide +kernel
theorem dX11_append_108 : decode cX11_append 108 = .ok (.aload_n 0, 1) := by decide +kernel
theorem dX11_append_109 : decode cX11_append 109 = .ok (.getfield 29, 3) := by decide +kernel
theorem dX11_append_112 : decode cX11_append 112 = .ok (.aload_n 3, 1) := by decide +kernel
theorem dX11_append_113 : decode cX11_append 113 = .ok (.aload 4, 2) := by decide +kernel
theorem dX11_append_115 : decode cX11_append 115 = .ok (.invokevirtual 136, 3) := by decide +kernel
theorem dX11_append_118 : decode cX11_append 118 = .ok (.aload_n 0, 1) := by decide +kernel
theorem dX11_append_119 : decode cX11_append 119 = .ok (.new 97, 3) := by decide +kernel
theorem dX11_append_122 : decode cX11_append 122 = .ok (.dup, 1) := by decide +kernel
theorem dX11_append_123 : decode cX11_append 123 = .ok (.aload_n 0, 1) := by decide +kernel
theorem dX11_append_124 : decode cX11_append 124 = .ok (.getfield 29, 3) := by decide +kernel
theorem dX11_append_127 : decode cX11_append 127 = .ok (.invokespecial 99, 3) := by decide +kernel
theorem dX11_append_130 : decode cX11_append 130 = .ok (.invokevirtual 102, 3) := by decide +kernel
theorem dX11_append_133 : decode cX11_append 133 = .ok (.ireturn, 1) := by decide +kernel
theorem kX11_127 : lkK (gS, X) RX11 127 mX11_whyNotBoth 2 ∧ Cond.instanceMethod yX11_whyNotBoth ∈ g_ws (gS, X) ∧ Cond.selects RX11 yX11_whyNotBoth yX11_whyNotBoth ∈ g_ws (gS, X) ∧ yX11_whyNotBoth.cls = RX11 := ⟨⟨tb_good, (tb_t (k := 504) (w := Cond.methodLink RX11 127 yX11_whyNotBoth) (by decide +kernel)), (tb_t (k := 1) (w := Cond.initialized RX11) (by decide +kernel)), (tb_t (k := 507) (w := Cond.code yX11_whyNotBoth cX11_whyNotBoth 3 (some .int)) (by decide +kernel)), by decide +kernel, by decide⟩, (tb_t (k := 506) (w := Cond.instanceMethod yX11_whyNotBoth) (by decide +kernel)), (tb_p (k := 16) (q := (yX11_whyNotBoth, 10)) (by decide +kernel)), rfl⟩
theorem fX11_130 : lkF (gS, X) RX11 130 3 1 "GraphEngine$Graph" RX3 TX3 14 := ⟨rfl, inX3, by decide, (tb_t (k := 289) (w := Cond.fieldLink RX11 130 "GraphEngine$Graph" "directed" "Z") (by decide +kernel)), Or.inl rfl⟩
theorem fX11_134 : lkF (gS, X) RX11 134 3 0 "GraphEngine$Graph" RX3 TX3 14 := ⟨rfl, inX3, by decide, (tb_t (k := 368) (w := Cond.fieldLink RX11 134 "GraphEngine$Graph" "nodes" "I") (by decide +kernel)), Or.inr (tb_t (k := 351) (w := Cond.sameField "GraphEngine$Graph" "GraphEngine$Thing" "nodes" "I") (by decide +kernel))⟩
theorem fX11_135 : lkF (gS, X) RX11 135 3 2 "GraphEngine$Graph" RX3 TX3 14 := ⟨rfl, inX3, by decide, (tb_t (k := 295) (w := Cond.fieldLink RX11 135 "GraphEngine$Graph" "arcs" "I") (by decide +kernel)), Or.inl rfl⟩
theorem kX11_136 : lkK (gS, X) RX11 136 mX1_drawBoth 2 ∧ Cond.instanceMethod yX1_drawBoth ∈ g_ws (gS, X) ∧ Cond.selects RX1 yX1_drawBoth yX1_drawBoth ∈ g_ws (gS, X) ∧ yX1_drawBoth.cls = RX1 := ⟨⟨tb_good, (tb_t (k := 516) (w := Cond.methodLink RX11 136 yX1_drawBoth) (by decide +kernel)), (tb_t (k := 2) (w := Cond.initialized RX1) (by decide +kernel)), (tb_t (k := 519) (w := Cond.code yX1_drawBoth cX1_drawBoth 4 none) (by decide +kernel)), by decide +kernel, by decide⟩, (tb_t (k := 517) (w := Cond.instanceMethod yX1_drawBoth) (by decide +kernel)), (tb_t (k := 518) (w := Cond.selects RX1 yX1_drawBoth yX1_drawBoth) (by decide +kernel)), rfl⟩
theorem dX11_melt_0 : decode cX11_melt 0 = .ok (.aload_n 0, 1) := by decide +kernel
theorem dX11_melt_1 : decode cX11_melt 1 = .ok (.iload_n 1, 1) := by decide +kernel
theorem dX11_melt_2 : decode cX11_melt 2 = .ok (.invokevirtual 106, 3) := by decide +kernel
theorem dX11_melt_5 : decode cX11_melt 5 = .ok (.astore_n 3, 1) := by decide +kernel
theorem dX11_melt_6 : decode cX11_melt 6 = .ok (.aload_n 0, 1) := by decide +kernel
theorem dX11_melt_7 : decode cX11_melt 7 = .ok (.iload_n 2, 1) := by decide +kernel
theorem dX11_melt_8 : decode cX11_melt 8 = .ok (.invokevirtual 140, 3) := by decide +kernel
theorem dX11_melt_11 : decode cX11_melt 11 = .ok (.astore 4, 2) := by decide +kernel
theorem dX11_melt_13 : decode cX11_melt 13 = .ok (.aload_n 3, 1) := by decide +kernel
theorem dX11_melt_14 : decode cX11_melt 14 = .ok (.ifnull 8, 3) := by decide +kernel
theorem dX11_melt_17 : decode cX11_melt 17 = .ok (.aload 4, 2) := by decide +kernel
theorem dX11_melt_19 : decode cX11_melt 19 = .ok (.ifnonnull 14, 3) := by decide +kernel
theorem dX11_melt_22 : decode cX11_melt 22 = .ok (.aload_n 0, 1) := by decide +kernel
theorem dX11_melt_23 : decode cX11_melt 23 = .ok (.aload_n 0, 1) := by decide +kernel
theorem dX11_melt_24 : decode cX11_melt 24 = .ok (.iload_n 1, 1) := by decide +kernel
theorem dX11_melt_25 : decode cX11_melt 25 = .ok (.iload_n 2, 1) := by decide +kernel
theorem dX11_melt_26 : decode cX11_melt 26 = .ok (.invokevirtual 127, 3) := by decide +kernel
theorem dX11_melt_29 : decode cX11_melt 29 = .ok (.invokevirtual 82, 3) := by decide +kernel
theorem dX11_melt_32 : decode cX11_melt 32 = .ok (.ireturn, 1) := by decide +kernel
theorem dX11_melt_33 : decode cX11_melt 33 = .ok (.aload_n 3, 1) := by decide +kernel
theorem dX11_melt_34 : decode cX11_melt 34 = .ok (.getfield 134, 3) := by decide +kernel
theorem dX11_melt_37 : decode cX11_melt 37 = .ok (.aload 4, 2) := by decide +kernel
theorem dX11_melt_39 : decode cX11_melt 39 = .ok (.getfield 144, 3) := by decide +kernel
theorem dX11_melt_42 : decode cX11_melt 42 = .ok (.if_icmp .eq 10, 3) := by decide +kernel
theorem dX11_melt_45 : decode cX11_melt 45 = .ok (.aload_n 0, 1) := by decide +kernel
theorem dX11_melt_46 : decode cX11_melt 46 = .ok (.bipush (-3), 2) := by decide +kernel
theorem dX11_melt_48 : decode cX11_melt 48 = .ok (.invokevirtual 82, 3) := by decide +kernel
theorem dX11_melt_51 : decode cX11_melt 51 = .ok (.ireturn, 1) := by decide +kernel
theorem dX11_melt_52 : decode cX11_melt 52 = .ok (.aload_n 0, 1) := by decide +kernel
theorem dX11_melt_53 : decode cX11_melt 53 = .ok (.invokevirtual 93, 3) := by decide +kernel
theorem dX11_melt_56 : decode cX11_melt 56 = .ok (.ifCond .eq 10, 3) := by decide +kernel
theorem dX11_melt_59 : decode cX11_melt 59 = .ok (.aload_n 0, 1) := by decide +kernel
theorem dX11_melt_60 : decode cX11_melt 60 = .ok (.bipush (-4), 2) := by decide +kernel
theorem dX11_melt_62 : decode cX11_melt 62 = .ok (.invokevirtual 82, 3) := by decide +kernel
theorem dX11_melt_65 : decode cX11_melt 65 = .ok (.ireturn, 1) := by decide +kernel
theorem dX11_melt_66 : decode cX11_melt 66 = .ok (.aload_n 0, 1) := by decide +kernel
theorem dX11_melt_67 : decode cX11_melt 67 = .ok (.getfield 29, 3) := by decide +kernel
theorem dX11_melt_70 : decode cX11_melt 70 = .ok (.aload_n 3, 1) := by decide +kernel
theorem dX11_melt_71 : decode cX11_melt 71 = .ok (.aload 4, 2) := by decide +kernel
theorem dX11_melt_73 : decode cX11_melt 73 = .ok (.invokevirtual 147, 3) := by decide +kernel
theorem dX11_melt_76 : decode cX11_melt 76 = .ok (.aload_n 0, 1) := by decide +kernel
theorem dX11_melt_77 : decode cX11_melt 77 = .ok (.new 97, 3) := by decide +kernel
theorem dX11_melt_80 : decode cX11_melt 80 = .ok (.dup, 1) := by decide +kernel
theorem dX11_melt_81 : decode cX11_melt 81 = .ok (.aload_n 0, 1) := by decide +kernel
theorem dX11_melt_82 : decode cX11_melt 82 = .ok (.getfield 29, 3) := by decide +kernel
theorem dX11_melt_85 : decode cX11_melt 85 = .ok (.invokespecial 99, 3) := by decide +kernel
theorem dX11_melt_88 : decode cX11_melt 88 = .ok (.invokevirtual 102, 3) := by decide +kernel
theorem dX11_melt_91 : decode cX11_melt 91 = .ok (.ireturn, 1) := by decide +kernel
theorem kX11_140 : lkK (gS, X) RX11 140 mX11_partsAt 1 ∧ Cond.instanceMethod yX11_partsAt ∈ g_ws (gS, X) ∧ Cond.selects RX11 yX11_partsAt yX11_partsAt ∈ g_ws (gS, X) ∧ yX11_partsAt.cls = RX11 := ⟨⟨tb_good, (tb_t (k := 499) (w := Cond.methodLink RX11 140 yX11_partsAt) (by decide +kernel)), (tb_t (k := 1) (w := Cond.initialized RX11) (by decide +kernel)), (tb_t (k := 502) (w := Cond.code yX11_partsAt cX11_partsAt 4 (some (.object "GraphEngine$Parts"))) (by decide +kernel)), by decide +kernel, by decide⟩, (tb_t (k := 501) (w := Cond.instanceMethod yX11_partsAt) (by decide +kernel)), (tb_p (k := 15) (q := (yX11_partsAt, 10)) (by decide +kernel)), rfl⟩
theorem fX11_144 : lkF (gS, X) RX11 144 5 0 "GraphEngine$Parts" RX5 TX5 4 := ⟨rfl, inX5, by decide, (tb_t (k := 369) (w := Cond.fieldLink RX11 144 "GraphEngine$Parts" "nodes" "I") (by decide +kernel)), Or.inr (tb_t (k := 357) (w := Cond.sameField "GraphEngine$Parts" "GraphEngine$Thing" "nodes" "I") (by decide +kernel))⟩
theorem kX11_147 : lkK (gS, X) RX11 147 mX1_drawMelted 2 ∧ Cond.instanceMethod yX1_drawMelted ∈ g_ws (gS, X) ∧ Cond.selects RX1 yX1_drawMelted yX1_drawMelted ∈ g_ws (gS, X) ∧ yX1_drawMelted.cls = RX1 := ⟨⟨tb_good, (tb_t (k := 508) (w := Cond.methodLink RX11 147 yX1_drawMelted) (by decide +kernel)), (tb_t (k := 2) (w := Cond.initialized RX1) (by decide +kernel)), (tb_t (k := 511) (w := Cond.code yX1_drawMelted cX1_drawMelted 6 none) (by decide +kernel)), by decide +kernel, by decide⟩, (tb_t (k := 509) (w := Cond.instanceMethod yX1_drawMelted) (by decide +kernel)), (tb_t (k := 510) (w := Cond.selects RX1 yX1_drawMelted yX1_drawMelted) (by decide +kernel)), rfl⟩
theorem dX11_join_0 : decode cX11_join 0 = .ok (.aload_n 0, 1) := by decide +kernel
theorem dX11_join_1 : decode cX11_join 1 = .ok (.iconst 0, 1) := by decide +kernel
theorem dX11_join_2 : decode cX11_join 2 = .ok (.putfield 19, 3) := by decide +kernel
theorem dX11_join_5 : decode cX11_join 5 = .ok (.iload_n 3, 1) := by decide +kernel
theorem dX11_join_6 : decode cX11_join 6 = .ok (.ifCond .eq 12, 3) := by decide +kernel
theorem dX11_join_9 : decode cX11_join 9 = .ok (.aload_n 0, 1) := by decide +kernel
theorem dX11_join_10 : decode cX11_join 10 = .ok (.iload_n 1, 1) := by decide +kernel
theorem dX11_join_11 : decode cX11_join 11 = .ok (.iload_n 2, 1) := by decide +kernel
theorem dX11_join_12 : decode cX11_join 12 = .ok (.invokevirtual 120, 3) := by decide +kernel
theorem dX11_join_15 : decode cX11_join 15 = .ok (.goto 9, 3) := by decide +kernel
theorem dX11_join_18 : decode cX11_join 18 = .ok (.aload_n 0, 1) := by decide +kernel
theorem dX11_join_19 : decode cX11_join 19 = .ok (.iload_n 1, 1) := by decide +kernel
theorem dX11_join_20 : decode cX11_join 20 = .ok (.iload_n 2, 1) := by decide +kernel
theorem dX11_join_21 : decode cX11_join 21 = .ok (.invokevirtual 124, 3) := by decide +kernel
theorem dX11_join_24 : decode cX11_join 24 = .ok (.ireturn, 1) := by decide +kernel
theorem kX11_120 : lkK (gS, X) RX11 120 mX11_melt 2 ∧ Cond.instanceMethod yX11_melt ∈ g_ws (gS, X) ∧ Cond.selects RX11 yX11_melt yX11_melt ∈ g_ws (gS, X) ∧ yX11_melt.cls = RX11 := ⟨⟨tb_good, (tb_t (k := 495) (w := Cond.methodLink RX11 120 yX11_melt) (by decide +kernel)), (tb_t (k := 1) (w := Cond.initialized RX11) (by decide +kernel)), (tb_t (k := 498) (w := Cond.code yX11_melt cX11_melt 5 (some .int)) (by decide +kernel)), by decide +kernel, by decide⟩, (tb_t (k := 497) (w := Cond.instanceMethod yX11_melt) (by decide +kernel)), (tb_p (k := 14) (q := (yX11_melt, 10)) (by decide +kernel)), rfl⟩
theorem kX11_124 : lkK (gS, X) RX11 124 mX11_append 2 ∧ Cond.instanceMethod yX11_append ∈ g_ws (gS, X) ∧ Cond.selects RX11 yX11_append yX11_append ∈ g_ws (gS, X) ∧ yX11_append.cls = RX11 := ⟨⟨tb_good, (tb_t (k := 512) (w := Cond.methodLink RX11 124 yX11_append) (by decide +kernel)), (tb_t (k := 1) (w := Cond.initialized RX11) (by decide +kernel)), (tb_t (k := 515) (w := Cond.code yX11_append cX11_append 6 (some .int)) (by decide +kernel)), by decide +kernel, by decide⟩, (tb_t (k := 514) (w := Cond.instanceMethod yX11_append) (by decide +kernel)), (tb_p (k := 17) (q := (yX11_append, 10)) (by decide +kernel)), rfl⟩
theorem dX11_column_0 : decode cX11_column 0 = .ok (.aload_n 0, 1) := by decide +kernel
theorem dX11_column_1 : decode cX11_column 1 = .ok (.iconst 0, 1) := by decide +kernel
theorem dX11_column_2 : decode cX11_column 2 = .ok (.putfield 19, 3) := by decide +kernel
theorem dX11_column_5 : decode cX11_column 5 = .ok (.aload_n 0, 1) := by decide +kernel
theorem dX11_column_6 : decode cX11_column 6 = .ok (.iload_n 1, 1) := by decide +kernel
theorem dX11_column_7 : decode cX11_column 7 = .ok (.invokevirtual 106, 3) := by decide +kernel
theorem dX11_column_10 : decode cX11_column 10 = .ok (.astore 4, 2) := by decide +kernel
theorem dX11_column_12 : decode cX11_column 12 = .ok (.aload 4, 2) := by decide +kernel
theorem dX11_column_14 : decode cX11_column 14 = .ok (.ifnonnull 13, 3) := by decide +kernel
theorem dX11_column_17 : decode cX11_column 17 = .ok (.aload_n 0, 1) := by decide +kernel
theorem dX11_column_18 : decode cX11_column 18 = .ok (.aload_n 0, 1) := by decide +kernel
theorem dX11_column_19 : decode cX11_column 19 = .ok (.iload_n 1, 1) := by decide +kernel
theorem dX11_column_20 : decode cX11_column 20 = .ok (.invokevirtual 110, 3) := by decide +kernel
theorem dX11_column_23 : decode cX11_column 23 = .ok (.invokevirtual 82, 3) := by decide +kernel
theorem dX11_column_26 : decode cX11_column 26 = .ok (.ireturn, 1) := by decide +kernel
theorem dX11_column_27 : decode cX11_column 27 = .ok (.iload_n 2, 1) := by decide +kernel
theorem dX11_column_28 : decode cX11_column 28 = .ok (.ifCond .lt 29, 3) := by decide +kernel
theorem dX11_column_31 : decode cX11_column 31 = .ok (.iload_n 2, 1) := by decide +kernel
theorem dX11_column_32 : decode cX11_column 32 = .ok (.bipush 6, 2) := by decide +kernel
theorem dX11_column_34 : decode cX11_column 34 = .ok (.if_icmp .gt 23, 3) := by decide +kernel
theorem dX11_column_37 : decode cX11_column 37 = .ok (.iload_n 2, 1) := by decide +kernel
theorem dX11_column_38 : decode cX11_column 38 = .ok (.iconst 5, 1) := by decide +kernel
theorem dX11_column_39 : decode cX11_column 39 = .ok (.if_icmp .ne 14, 3) := by decide +kernel
theorem dX11_column_42 : decode cX11_column 42 = .ok (.iload_n 3, 1) := by decide +kernel
theorem dX11_column_43 : decode cX11_column 43 = .ok (.ifCond .lt 14, 3) := by decide +kernel
theorem dX11_column_46 : decode cX11_column 46 = .ok (.iload_n 3, 1) := by decide +kernel
theorem dX11_column_47 : decode cX11_column 47 = .ok (.sipush 1000, 3) := by decide +kernel
theorem dX11_column_50 : decode cX11_column 50 = .ok (.if_icmp .gt 7, 3) := by decide +kernel
theorem dX11_column_53 : decode cX11_column 53 = .ok (.iconst 1, 1) := by decide +kernel
theorem dX11_column_54 : decode cX11_column 54 = .ok (.goto 4, 3) := by decide +kernel
theorem dX11_column_57 : decode cX11_column 57 = .ok (.iconst 0, 1) := by decide +kernel
theorem dX11_column_58 : decode cX11_column 58 = .ok (.istore 5, 2) := by decide +kernel
theorem dX11_column_60 : decode cX11_column 60 = .ok (.iload 5, 2) := by decide +kernel
theorem dX11_column_62 : decode cX11_column 62 = .ok (.ifCond .ne 10, 3) := by decide +kernel
theorem dX11_column_65 : decode cX11_column 65 = .ok (.aload_n 0, 1) := by decide +kernel
theorem dX11_column_66 : decode cX11_column 66 = .ok (.bipush (-3), 2) := by decide +kernel
theorem dX11_column_68 : decode cX11_column 68 = .ok (.invokevirtual 82, 3) := by decide +kernel
theorem dX11_column_71 : decode cX11_column 71 = .ok (.ireturn, 1) := by decide +kernel
theorem dX11_column_72 : decode cX11_column 72 = .ok (.aload_n 0, 1) := by decide +kernel
theorem dX11_column_73 : decode cX11_column 73 = .ok (.invokevirtual 93, 3) := by decide +kernel
theorem dX11_column_76 : decode cX11_column 76 = .ok (.ifCond .eq 10, 3) := by decide +kernel
theorem dX11_column_79 : decode cX11_column 79 = .ok (.aload_n 0, 1) := by decide +kernel
theorem dX11_column_80 : decode cX11_column 80 = .ok (.bipush (-4), 2) := by decide +kernel
theorem dX11_column_82 : decode cX11_column 82 = .ok (.invokevirtual 82, 3) := by decide +kernel
theorem dX11_column_85 : decode cX11_column 85 = .ok (.ireturn, 1) := by decide +kernel
theorem dX11_column_86 : decode cX11_column 86 = .ok (.new 151, 3) := by decide +kernel
theorem dX11_column_89 : decode cX11_column 89 = .ok (.dup, 1) := by decide +kernel
theorem dX11_column_90 : decode cX11_column 90 = .ok (.aload 4, 2) := by decide +kernel
theorem dX11_column_92 : decode cX11_column 92 = .ok (.getfield 134, 3) := by decide +kernel
theorem dX11_column_95 : decode cX11_column 95 = .ok (.invokespecial 153, 3) := by decide +kernel
theorem dX11_column_98 : decode cX11_column 98 = .ok (.astore 6, 2) := by decide +kernel
theorem dX11_column_100 : decode cX11_column 100 = .ok (.aload 6, 2) := by decide +kernel
theorem dX11_column_102 : decode cX11_column 102 = .ok (.aload 4, 2) := by decide +kernel
theorem dX11_column_104 : decode cX11_column 104 = .ok (.iload_n 2, 1) := by decide +kernel
theorem dX11_column_105 : decode cX11_column 105 = .ok (.iload_n 3, 1) := by decide +kernel
theorem dX11_column_106 : decode cX11_column 106 = .ok (.invokevirtual 156, 3) := by decide +kernel
theorem dX11_column_109 : decode cX11_column 109 = .ok (.aload_n 0, 1) := by decide +kernel
theorem dX11_column_110 : decode cX11_column 110 = .ok (.aload 6, 2) := by decide +kernel
theorem dX11_column_112 : decode cX11_column 112 = .ok (.invokevirtual 102, 3) := by decide +kernel
theorem dX11_column_115 : decode cX11_column 115 = .ok (.ireturn, 1) := by decide +kernel
theorem nX11_151 : lkN (gS, X) RX11 151 0 RX0 TX0 2 := ⟨rfl, inX0, (tb_t (k := 524) (w := Cond.classLink RX11 151 RX0) (by decide +kernel)), (tb_t (k := 525) (w := Cond.instantiable RX0 2) (by decide +kernel)), (tb_t (k := 15) (w := Cond.initialized RX0) (by decide +kernel))⟩
theorem kX11_153 : lkK (gS, X) RX11 153 mX0_init 1 ∧ Cond.instanceMethod yX0_init ∈ g_ws (gS, X) ∧ yX0_init.name = "<init>" ∧ mX0_init.2.2.2 = none := ⟨⟨tb_good, (tb_t (k := 526) (w := Cond.methodLink RX11 153 yX0_init) (by decide +kernel)), (tb_t (k := 15) (w := Cond.initialized RX0) (by decide +kernel)), (tb_t (k := 528) (w := Cond.code yX0_init cX0_init 2 none) (by decide +kernel)), by decide +kernel, by decide⟩, (tb_t (k := 527) (w := Cond.instanceMethod yX0_init) (by decide +kernel)), rfl, rfl⟩
theorem kX11_156 : lkK (gS, X) RX11 156 mX0_measure 3 ∧ Cond.instanceMethod yX0_measure ∈ g_ws (gS, X) ∧ Cond.selects RX0 yX0_measure yX0_measure ∈ g_ws (gS, X) ∧ yX0_measure.cls = RX0 := ⟨⟨tb_good, (tb_t (k := 537) (w := Cond.methodLink RX11 156 yX0_measure) (by decide +kernel)), (tb_t (k := 15) (w := Cond.initialized RX0) (by decide +kernel)), (tb_t (k := 540) (w := Cond.code yX0_measure cX0_measure 5 none) (by decide +kernel)), by decide +kernel, by decide⟩, (tb_t (k := 538) (w := Cond.instanceMethod yX0_measure) (by decide +kernel)), (tb_t (k := 539) (w := Cond.selects RX0 yX0_measure yX0_measure) (by decide +kernel)), rfl⟩
theorem dX11_mix_0 : decode cX11_mix 0 = .ok (.aload_n 0, 1) := by decide +kernel
theorem dX11_mix_1 : decode cX11_mix 1 = .ok (.iconst 0, 1) := by decide +kernel
theorem dX11_mix_2 : decode cX11_mix 2 = .ok (.putfield 19, 3) := by decide +kernel
theorem dX11_mix_5 : decode cX11_mix 5 = .ok (.aload_n 0, 1) := by decide +kernel
theorem dX11_mix_6 : decode cX11_mix 6 = .ok (.iload_n 1, 1) := by decide +kernel
theorem dX11_mix_7 : decode cX11_mix 7 = .ok (.invokevirtual 170, 3) := by decide +kernel
theorem dX11_mix_10 : decode cX11_mix 10 = .ok (.astore 4, 2) := by decide +kernel
theorem dX11_mix_12 : decode cX11_mix 12 = .ok (.aload_n 0, 1) := by decide +kernel
theorem dX11_mix_13 : decode cX11_mix 13 = .ok (.iload_n 2, 1) := by decide +kernel
theorem dX11_mix_14 : decode cX11_mix 14 = .ok (.invokevirtual 170, 3) := by decide +kernel
theorem dX11_mix_17 : decode cX11_mix 17 = .ok (.astore 5, 2) := by decide +kernel
theorem dX11_mix_19 : decode cX11_mix 19 = .ok (.aload 4, 2) := by decide +kernel
theorem dX11_mix_21 : decode cX11_mix 21 = .ok (.ifnull 8, 3) := by decide +kernel
theorem dX11_mix_24 : decode cX11_mix 24 = .ok (.aload 5, 2) := by decide +kernel
theorem dX11_mix_26 : decode cX11_mix 26 = .ok (.ifnonnull 14, 3) := by decide +kernel
theorem dX11_mix_29 : decode cX11_mix 29 = .ok (.aload_n 0, 1) := by decide +kernel
theorem dX11_mix_30 : decode cX11_mix 30 = .ok (.aload_n 0, 1) := by decide +kernel
theorem dX11_mix_31 : decode cX11_mix 31 = .ok (.iload_n 1, 1) := by decide +kernel
theorem dX11_mix_32 : decode cX11_mix 32 = .ok (.iload_n 2, 1) := by decide +kernel
theorem dX11_mix_33 : decode cX11_mix 33 = .ok (.invokevirtual 127, 3) := by decide +kernel
theorem dX11_mix_36 : decode cX11_mix 36 = .ok (.invokevirtual 82, 3) := by decide +kernel
theorem dX11_mix_39 : decode cX11_mix 39 = .ok (.ireturn, 1) := by decide +kernel
theorem dX11_mix_40 : decode cX11_mix 40 = .ok (.aload 4, 2) := by decide +kernel
theorem dX11_mix_42 : decode cX11_mix 42 = .ok (.getfield 174, 3) := by decide +kernel
theorem dX11_mix_45 : decode cX11_mix 45 = .ok (.aload 5, 2) := by decide +kernel
theorem dX11_mix_47 : decode cX11_mix 47 = .ok (.getfield 174, 3) := by decide +kernel
theorem dX11_mix_50 : decode cX11_mix 50 = .ok (.if_icmp .ne 13, 3) := by decide +kernel
theorem dX11_mix_53 : decode cX11_mix 53 = .ok (.iload_n 3, 1) := by decide +kernel
theorem dX11_mix_54 : decode cX11_mix 54 = .ok (.ifCond .lt 9, 3) := by decide +kernel
theorem dX11_mix_57 : decode cX11_mix 57 = .ok (.iload_n 3, 1) := by decide +kernel
theorem dX11_mix_58 : decode cX11_mix 58 = .ok (.bipush 6, 2) := by decide +kernel
theorem dX11_mix_60 : decode cX11_mix 60 = .ok (.if_icmp .le 10, 3) := by decide +kernel
theorem dX11_mix_63 : decode cX11_mix 63 = .ok (.aload_n 0, 1) := by decide +kernel
theorem dX11_mix_64 : decode cX11_mix 64 = .ok (.bipush (-3), 2) := by decide +kernel
theorem dX11_mix_66 : decode cX11_mix 66 = .ok (.invokevirtual 82, 3) := by decide +kernel
theorem dX11_mix_69 : decode cX11_mix 69 = .ok (.ireturn, 1) := by decide +kernel
theorem dX11_mix_70 : decode cX11_mix 70 = .ok (.aload_n 0, 1) := by decide +kernel
theorem dX11_mix_71 : decode cX11_mix 71 = .ok (.invokevirtual 93, 3) := by decide +kernel
theorem dX11_mix_74 : decode cX11_mix 74 = .ok (.ifCond .eq 10, 3) := by decide +kernel
theorem dX11_mix_77 : decode cX11_mix 77 = .ok (.aload_n 0, 1) := by decide +kernel
theorem dX11_mix_78 : decode cX11_mix 78 = .ok (.bipush (-4), 2) := by decide +kernel
theorem dX11_mix_80 : decode cX11_mix 80 = .ok (.invokevirtual 82, 3) := by decide +kernel
theorem dX11_mix_83 : decode cX11_mix 83 = .ok (.ireturn, 1) := by decide +kernel
theorem dX11_mix_84 : decode cX11_mix 84 = .ok (.new 151, 3) := by decide +kernel
theorem dX11_mix_87 : decode cX11_mix 87 = .ok (.dup, 1) := by decide +kernel
theorem dX11_mix_88 : decode cX11_mix 88 = .ok (.aload 4, 2) := by decide +kernel
theorem dX11_mix_90 : decode cX11_mix 90 = .ok (.getfield 174, 3) := by decide +kernel
theorem dX11_mix_93 : decode cX11_mix 93 = .ok (.invokespecial 153, 3) := by decide +kernel
theorem dX11_mix_96 : decode cX11_mix 96 = .ok (.astore 6, 2) := by decide +kernel
theorem dX11_mix_98 : decode cX11_mix 98 = .ok (.aload 6, 2) := by decide +kernel
theorem dX11_mix_100 : decode cX11_mix 100 = .ok (.aload 4, 2) := by decide +kernel
theorem dX11_mix_102 : decode cX11_mix 102 = .ok (.aload 5, 2) := by decide +kernel
theorem dX11_mix_104 : decode cX11_mix 104 = .ok (.iload_n 3, 1) := by decide +kernel
theorem dX11_mix_105 : decode cX11_mix 105 = .ok (.invokevirtual 175, 3) := by decide +kernel
theorem dX11_mix_108 : decode cX11_mix 108 = .ok (.aload_n 0, 1) := by decide +kernel
theorem dX11_mix_109 : decode cX11_mix 109 = .ok (.aload 6, 2) := by decide +kernel
theorem dX11_mix_111 : decode cX11_mix 111 = .ok (.invokevirtual 102, 3) := by decide +kernel
theorem dX11_mix_114 : decode cX11_mix 114 = .ok (.ireturn, 1) := by decide +kernel
theorem kX11_170 : lkK (gS, X) RX11 170 mX11_columnAt 1 ∧ Cond.instanceMethod yX11_columnAt ∈ g_ws (gS, X) ∧ Cond.selects RX11 yX11_columnAt yX11_columnAt ∈ g_ws (gS, X) ∧ yX11_columnAt.cls = RX11 := ⟨⟨tb_good, (tb_t (k := 589) (w := Cond.methodLink RX11 170 yX11_columnAt) (by decide +kernel)), (tb_t (k := 1) (w := Cond.initialized RX11) (by decide +kernel)), (tb_t (k := 592) (w := Cond.code yX11_columnAt cX11_columnAt 4 (some (.object "GraphEngine$Column"))) (by decide +kernel)), by decide +kernel, by decide⟩, (tb_t (k := 591) (w := Cond.instanceMethod yX11_columnAt) (by decide +kernel)), (tb_p (k := 22) (q := (yX11_columnAt, 10)) (by decide +kernel)), rfl⟩
theorem fX11_174 : lkF (gS, X) RX11 174 0 0 "GraphEngine$Column" RX0 TX0 2 := ⟨rfl, inX0, by decide, (tb_t (k := 370) (w := Cond.fieldLink RX11 174 "GraphEngine$Column" "nodes" "I") (by decide +kernel)), Or.inr (tb_t (k := 363) (w := Cond.sameField "GraphEngine$Column" "GraphEngine$Thing" "nodes" "I") (by decide +kernel))⟩
theorem kX11_175 : lkK (gS, X) RX11 175 mX0_blend 3 ∧ Cond.instanceMethod yX0_blend ∈ g_ws (gS, X) ∧ Cond.selects RX0 yX0_blend yX0_blend ∈ g_ws (gS, X) ∧ yX0_blend.cls = RX0 := ⟨⟨tb_good, (tb_t (k := 593) (w := Cond.methodLink RX11 175 yX0_blend) (by decide +kernel)), (tb_t (k := 15) (w := Cond.initialized RX0) (by decide +kernel)), (tb_t (k := 596) (w := Cond.code yX0_blend cX0_blend 5 none) (by decide +kernel)), by decide +kernel, by decide⟩, (tb_t (k := 594) (w := Cond.instanceMethod yX0_blend) (by decide +kernel)), (tb_t (k := 595) (w := Cond.selects RX0 yX0_blend yX0_blend) (by decide +kernel)), rfl⟩
theorem dX11_run_0 : decode cX11_run 0 = .ok (.aload_n 0, 1) := by decide +kernel
theorem dX11_run_1 : decode cX11_run 1 = .ok (.iconst 0, 1) := by decide +kernel
theorem dX11_run_2 : decode cX11_run 2 = .ok (.putfield 19, 3) := by decide +kernel
theorem dX11_run_5 : decode cX11_run 5 = .ok (.aload_n 0, 1) := by decide +kernel
theorem dX11_run_6 : decode cX11_run 6 = .ok (.iload_n 1, 1) := by decide +kernel
theorem dX11_run_7 : decode cX11_run 7 = .ok (.invokevirtual 106, 3) := by decide +kernel
theorem dX11_run_10 : decode cX11_run 10 = .ok (.astore 7, 2) := by decide +kernel
theorem dX11_run_12 : decode cX11_run 12 = .ok (.aload_n 0, 1) := by decide +kernel
theorem dX11_run_13 : decode cX11_run 13 = .ok (.iload_n 2, 1) := by decide +kernel
theorem dX11_run_14 : decode cX11_run 14 = .ok (.invokevirtual 170, 3) := by decide +kernel
theorem dX11_run_17 : decode cX11_run 17 = .ok (.astore 8, 2) := by decide +kernel
theorem dX11_run_19 : decode cX11_run 19 = .ok (.aload 7, 2) := by decide +kernel
theorem dX11_run_21 : decode cX11_run 21 = .ok (.ifnull 8, 3) := by decide +kernel
theorem dX11_run_24 : decode cX11_run 24 = .ok (.aload 8, 2) := by decide +kernel
theorem dX11_run_26 : decode cX11_run 26 = .ok (.ifnonnull 14, 3) := by decide +kernel
theorem dX11_run_29 : decode cX11_run 29 = .ok (.aload_n 0, 1) := by decide +kernel
theorem dX11_run_30 : decode cX11_run 30 = .ok (.aload_n 0, 1) := by decide +kernel
theorem dX11_run_31 : decode cX11_run 31 = .ok (.iload_n 1, 1) := by decide +kernel
theorem dX11_run_32 : decode cX11_run 32 = .ok (.iload_n 2, 1) := by decide +kernel
theorem dX11_run_33 : decode cX11_run 33 = .ok (.invokevirtual 127, 3) := by decide +kernel
theorem dX11_run_36 : decode cX11_run 36 = .ok (.invokevirtual 82, 3) := by decide +kernel
theorem dX11_run_39 : decode cX11_run 39 = .ok (.ireturn, 1) := by decide +kernel
theorem dX11_run_40 : decode cX11_run 40 = .ok (.iload_n 3, 1) := by decide +kernel
theorem dX11_run_41 : decode cX11_run 41 = .ok (.ifCond .lt 49, 3) := by decide +kernel
theorem dX11_run_44 : decode cX11_run 44 = .ok (.iload_n 3, 1) := by decide +kernel
theorem dX11_run_45 : decode cX11_run 45 = .ok (.iconst 4, 1) := by decide +kernel
theorem dX11_run_46 : decode cX11_run 46 = .ok (.if_icmp .gt 44, 3) := by decide +kernel
theorem dX11_run_49 : decode cX11_run 49 = .ok (.iload 4, 2) := by decide +kernel
theorem dX11_run_51 : decode cX11_run 51 = .ok (.ifCond .lt 39, 3) := by decide +kernel
theorem dX11_run_54 : decode cX11_run 54 = .ok (.iload 4, 2) := by decide +kernel
theorem dX11_run_56 : decode cX11_run 56 = .ok (.iconst 3, 1) := by decide +kernel
theorem dX11_run_57 : decode cX11_run 57 = .ok (.if_icmp .gt 33, 3) := by decide +kernel
theorem dX11_run_60 : decode cX11_run 60 = .ok (.iload 6, 2) := by decide +kernel
theorem dX11_run_62 : decode cX11_run 62 = .ok (.ifCond .lt 28, 3) := by decide +kernel
theorem dX11_run_65 : decode cX11_run 65 = .ok (.iload 6, 2) := by decide +kernel
theorem dX11_run_67 : decode cX11_run 67 = .ok (.sipush 200, 3) := by decide +kernel
theorem dX11_run_70 : decode cX11_run 70 = .ok (.if_icmp .gt 20, 3) := by decide +kernel
theorem dX11_run_73 : decode cX11_run 73 = .ok (.aload 7, 2) := by decide +kernel
theorem dX11_run_75 : decode cX11_run 75 = .ok (.getfield 134, 3) := by decide +kernel
theorem dX11_run_78 : decode cX11_run 78 = .ok (.aload 8, 2) := by decide +kernel
theorem dX11_run_80 : decode cX11_run 80 = .ok (.getfield 174, 3) := by decide +kernel
theorem dX11_run_83 : decode cX11_run 83 = .ok (.if_icmp .ne 7, 3) := by decide +kernel
theorem dX11_run_86 : decode cX11_run 86 = .ok (.iconst 1, 1) := by decide +kernel
theorem dX11_run_87 : decode cX11_run 87 = .ok (.goto 4, 3) := by decide +kernel
theorem dX11_run_90 : decode cX11_run 90 = .ok (.iconst 0, 1) := by decide +kernel
theorem dX11_run_91 : decode cX11_run 91 = .ok (.istore 9, 2) := by decide +kernel
theorem dX11_run_93 : decode cX11_run 93 = .ok (.iload 9, 2) := by decide +kernel
theorem dX11_run_95 : decode cX11_run 95 = .ok (.ifCond .ne 10, 3) := by decide +kernel
theorem dX11_run_98 : decode cX11_run 98 = .ok (.aload_n 0, 1) := by decide +kernel
theorem dX11_run_99 : decode cX11_run 99 = .ok (.bipush (-3), 2) := by decide +kernel
theorem dX11_run_101 : decode cX11_run 101 = .ok (.invokevirtual 82, 3) := by decide +kernel
theorem dX11_run_104 : decode cX11_run 104 = .ok (.ireturn, 1) := by decide +kernel
theorem dX11_run_105 : decode cX11_run 105 = .ok (.aload_n 0, 1) := by decide +kernel
theorem dX11_run_106 : decode cX11_run 106 = .ok (.invokevirtual 93, 3) := by decide +kernel
theorem dX11_run_109 : decode cX11_run 109 = .ok (.ifCond .eq 10, 3) := by decide +kernel
theorem dX11_run_112 : decode cX11_run 112 = .ok (.aload_n 0, 1) := by decide +kernel
theorem dX11_run_113 : decode cX11_run 113 = .ok (.bipush (-4), 2) := by decide +kernel
theorem dX11_run_115 : decode cX11_run 115 = .ok (.invokevirtual 82, 3) := by decide +kernel
theorem dX11_run_118 : decode cX11_run 118 = .ok (.ireturn, 1) := by decide +kernel
theorem dX11_run_119 : decode cX11_run 119 = .ok (.new 151, 3) := by decide +kernel
theorem dX11_run_122 : decode cX11_run 122 = .ok (.dup, 1) := by decide +kernel
theorem dX11_run_123 : decode cX11_run 123 = .ok (.aload 8, 2) := by decide +kernel
theorem dX11_run_125 : decode cX11_run 125 = .ok (.getfield 174, 3) := by decide +kernel
theorem dX11_run_128 : decode cX11_run 128 = .ok (.invokespecial 153, 3) := by decide +kernel
theorem dX11_run_131 : decode cX11_run 131 = .ok (.astore 10, 2) := by decide +kernel
theorem dX11_run_133 : decode cX11_run 133 = .ok (.aload 8, 2) := by decide +kernel
theorem dX11_run_135 : decode cX11_run 135 = .ok (.getfield 160, 3) := by decide +kernel
theorem dX11_run_138 : decode cX11_run 138 = .ok (.iconst 0, 1) := by decide +kernel
theorem dX11_run_139 : decode cX11_run 139 = .ok (.aload 10, 2) := by decide +kernel
theorem dX11_run_141 : decode cX11_run 141 = .ok (.getfield 160, 3) := by decide +kernel
theorem dX11_run_144 : decode cX11_run 144 = .ok (.iconst 0, 1) := by decide +kernel
theorem dX11_run_145 : decode cX11_run 145 = .ok (.aload 8, 2) := by decide +kernel
theorem dX11_run_147 : decode cX11_run 147 = .ok (.getfield 174, 3) := by decide +kernel
theorem dX11_run_150 : decode cX11_run 150 = .ok (.invokestatic 179, 3) := by decide +kernel
theorem dX11_run_153 : decode cX11_run 153 = .ok (.aload 10, 2) := by decide +kernel
theorem dX11_run_155 : decode cX11_run 155 = .ok (.aload 7, 2) := by decide +kernel
theorem dX11_run_157 : decode cX11_run 157 = .ok (.iload_n 3, 1) := by decide +kernel
theorem dX11_run_158 : decode cX11_run 158 = .ok (.iload 4, 2) := by decide +kernel
theorem dX11_run_160 : decode cX11_run 160 = .ok (.iload 5, 2) := by decide +kernel
theorem dX11_run_162 : decode cX11_run 162 = .ok (.iload 6, 2) := by decide +kernel
theorem dX11_run_164 : decode cX11_run 164 = .ok (.invokevirtual 185, 3) := by decide +kernel
theorem dX11_run_167 : decode cX11_run 167 = .ok (.aload_n 0, 1) := by decide +kernel
theorem dX11_run_168 : decode cX11_run 168 = .ok (.aload 10, 2) := by decide +kernel
theorem dX11_run_170 : decode cX11_run 170 = .ok (.invokevirtual 102, 3) := by decide +kernel
theorem dX11_run_173 : decode cX11_run 173 = .ok (.ireturn, 1) := by decide +kernel
theorem fX11_160 : lkF (gS, X) RX11 160 0 1 "GraphEngine$Column" RX0 TX0 2 := ⟨rfl, inX0, by decide, (tb_t (k := 532) (w := Cond.fieldLink RX11 160 "GraphEngine$Column" "numbers" "[J") (by decide +kernel)), Or.inl rfl⟩
theorem aX11_179 : lkA (gS, X) RX11 179 := ⟨(tb_t (k := 610) (w := Cond.methodLink RX11 179 arraycopyName) (by decide +kernel)), (tb_t (k := 272) (w := Cond.native arraycopyName) (by decide +kernel)), (tb_t (k := 271) (w := Cond.static arraycopyName) (by decide +kernel)), (tb_t (k := 13) (w := Cond.initialized "java/lang/System") (by decide +kernel))⟩
theorem kX11_185 : lkK (gS, X) RX11 185 mX0_play 5 ∧ Cond.instanceMethod yX0_play ∈ g_ws (gS, X) ∧ Cond.selects RX0 yX0_play yX0_play ∈ g_ws (gS, X) ∧ yX0_play.cls = RX0 := ⟨⟨tb_good, (tb_t (k := 611) (w := Cond.methodLink RX11 185 yX0_play) (by decide +kernel)), (tb_t (k := 15) (w := Cond.initialized RX0) (by decide +kernel)), (tb_t (k := 614) (w := Cond.code yX0_play cX0_play 13 none) (by decide +kernel)), by decide +kernel, by decide⟩, (tb_t (k := 612) (w := Cond.instanceMethod yX0_play) (by decide +kernel)), (tb_t (k := 613) (w := Cond.selects RX0 yX0_play yX0_play) (by decide +kernel)), rfl⟩
theorem dX11_ways_0 : decode cX11_ways 0 = .ok (.aload_n 0, 1) := by decide +kernel
theorem dX11_ways_1 : decode cX11_ways 1 = .ok (.iconst 0, 1) := by decide +kernel
theorem dX11_ways_2 : decode cX11_ways 2 = .ok (.putfield 19, 3) := by decide +kernel
theorem dX11_ways_5 : decode cX11_ways 5 = .ok (.aload_n 0, 1) := by decide +kernel
theorem dX11_ways_6 : decode cX11_ways 6 = .ok (.iload_n 1, 1) := by decide +kernel
theorem dX11_ways_7 : decode cX11_ways 7 = .ok (.invokevirtual 106, 3) := by decide +kernel
theorem dX11_ways_10 : decode cX11_ways 10 = .ok (.astore 4, 2) := by decide +kernel
theorem dX11_ways_12 : decode cX11_ways 12 = .ok (.aload 4, 2) := by decide +kernel
theorem dX11_ways_14 : decode cX11_ways 14 = .ok (.ifnonnull 13, 3) := by decide +kernel
theorem dX11_ways_17 : decode cX11_ways 17 = .ok (.aload_n 0, 1) := by decide +kernel
theorem dX11_ways_18 : decode cX11_ways 18 = .ok (.aload_n 0, 1) := by decide +kernel
theorem dX11_ways_19 : decode cX11_ways 19 = .ok (.iload_n 1, 1) := by decide +kernel
theorem dX11_ways_20 : decode cX11_ways 20 = .ok (.invokevirtual 110, 3) := by decide +kernel
theorem dX11_ways_23 : decode cX11_ways 23 = .ok (.invokevirtual 82, 3) := by decide +kernel
theorem dX11_ways_26 : decode cX11_ways 26 = .ok (.ireturn, 1) := by decide +kernel
theorem dX11_ways_27 : decode cX11_ways 27 = .ok (.iload_n 2, 1) := by decide +kernel
theorem dX11_ways_28 : decode cX11_ways 28 = .ok (.ifCond .lt 20, 3) := by decide +kernel
theorem dX11_ways_31 : decode cX11_ways 31 = .ok (.iload_n 2, 1) := by decide +kernel
theorem dX11_ways_32 : decode cX11_ways 32 = .ok (.iconst 2, 1) := by decide +kernel
theorem dX11_ways_33 : decode cX11_ways 33 = .ok (.if_icmp .gt 15, 3) := by decide +kernel
theorem dX11_ways_36 : decode cX11_ways 36 = .ok (.iload_n 3, 1) := by decide +kernel
theorem dX11_ways_37 : decode cX11_ways 37 = .ok (.aload 4, 2) := by decide +kernel
theorem dX11_ways_39 : decode cX11_ways 39 = .ok (.getfield 134, 3) := by decide +kernel
theorem dX11_ways_42 : decode cX11_ways 42 = .ok (.invokestatic 74, 3) := by decide +kernel
theorem dX11_ways_45 : decode cX11_ways 45 = .ok (.ifCond .ne 10, 3) := by decide +kernel
theorem dX11_ways_48 : decode cX11_ways 48 = .ok (.aload_n 0, 1) := by decide +kernel
theorem dX11_ways_49 : decode cX11_ways 49 = .ok (.bipush (-3), 2) := by decide +kernel
theorem dX11_ways_51 : decode cX11_ways 51 = .ok (.invokevirtual 82, 3) := by decide +kernel
theorem dX11_ways_54 : decode cX11_ways 54 = .ok (.ireturn, 1) := by decide +kernel
theorem dX11_ways_55 : decode cX11_ways 55 = .ok (.aload_n 0, 1) := by decide +kernel
theorem dX11_ways_56 : decode cX11_ways 56 = .ok (.invokevirtual 93, 3) := by decide +kernel
theorem dX11_ways_59 : decode cX11_ways 59 = .ok (.ifCond .eq 12, 3) := by decide +kernel
theorem dX11_ways_62 : decode cX11_ways 62 = .ok (.aload_n 0, 1) := by decide +kernel
theorem dX11_ways_63 : decode cX11_ways 63 = .ok (.bipush (-4), 2) := by decide +kernel
theorem dX11_ways_65 : decode cX11_ways 65 = .ok (.invokevirtual 82, 3) := by decide +kernel
theorem dX11_ways_68 : decode cX11_ways 68 = .ok (.goto 18, 3) := by decide +kernel
theorem dX11_ways_71 : decode cX11_ways 71 = .ok (.aload_n 0, 1) := by decide +kernel
theorem dX11_ways_72 : decode cX11_ways 72 = .ok (.new 189, 3) := by decide +kernel
theorem dX11_ways_75 : decode cX11_ways 75 = .ok (.dup, 1) := by decide +kernel
theorem dX11_ways_76 : decode cX11_ways 76 = .ok (.aload 4, 2) := by decide +kernel
theorem dX11_ways_78 : decode cX11_ways 78 = .ok (.iload_n 2, 1) := by decide +kernel
theorem dX11_ways_79 : decode cX11_ways 79 = .ok (.iload_n 3, 1) := by decide +kernel
theorem dX11_ways_80 : decode cX11_ways 80 = .ok (.invokespecial 191, 3) := by decide +kernel
theorem dX11_ways_83 : decode cX11_ways 83 = .ok (.invokevirtual 102, 3) := by decide +kernel
theorem dX11_ways_86 : decode cX11_ways 86 = .ok (.ireturn, 1) := by decide +kernel
theorem nX11_189 : lkN (gS, X) RX11 189 9 RX10 TX10 6 := ⟨rfl, inX10, (tb_t (k := 625) (w := Cond.classLink RX11 189 RX10) (by decide +kernel)), (tb_t (k := 626) (w := Cond.instantiable RX10 6) (by decide +kernel)), (tb_t (k := 16) (w := Cond.initialized RX10) (by decide +kernel))⟩
theorem kX11_191 : lkK (gS, X) RX11 191 mX10_init 3 ∧ Cond.instanceMethod yX10_init ∈ g_ws (gS, X) ∧ yX10_init.name = "<init>" ∧ mX10_init.2.2.2 = none := ⟨⟨tb_good, (tb_t (k := 627) (w := Cond.methodLink RX11 191 yX10_init) (by decide +kernel)), (tb_t (k := 16) (w := Cond.initialized RX10) (by decide +kernel)), (tb_t (k := 629) (w := Cond.code yX10_init cX10_init 4 none) (by decide +kernel)), by decide +kernel, by decide⟩, (tb_t (k := 628) (w := Cond.instanceMethod yX10_init) (by decide +kernel)), rfl, rfl⟩
theorem dX11_partsByColumn_0 : decode cX11_partsByColumn 0 = .ok (.aload_n 0, 1) := by decide +kernel
theorem dX11_partsByColumn_1 : decode cX11_partsByColumn 1 = .ok (.iload_n 1, 1) := by decide +kernel
theorem dX11_partsByColumn_2 : decode cX11_partsByColumn 2 = .ok (.invokevirtual 106, 3) := by decide +kernel
theorem dX11_partsByColumn_5 : decode cX11_partsByColumn 5 = .ok (.astore_n 3, 1) := by decide +kernel
theorem dX11_partsByColumn_6 : decode cX11_partsByColumn 6 = .ok (.aload_n 0, 1) := by decide +kernel
theorem dX11_partsByColumn_7 : decode cX11_partsByColumn 7 = .ok (.iload_n 2, 1) := by decide +kernel
theorem dX11_partsByColumn_8 : decode cX11_partsByColumn 8 = .ok (.invokevirtual 170, 3) := by decide +kernel
theorem dX11_partsByColumn_11 : decode cX11_partsByColumn 11 = .ok (.astore 4, 2) := by decide +kernel
theorem dX11_partsByColumn_13 : decode cX11_partsByColumn 13 = .ok (.aload_n 3, 1) := by decide +kernel
theorem dX11_partsByColumn_14 : decode cX11_partsByColumn 14 = .ok (.ifnull 8, 3) := by decide +kernel
theorem dX11_partsByColumn_17 : decode cX11_partsByColumn 17 = .ok (.aload 4, 2) := by decide +kernel
theorem dX11_partsByColumn_19 : decode cX11_partsByColumn 19 = .ok (.ifnonnull 14, 3) := by decide +kernel
theorem dX11_partsByColumn_22 : decode cX11_partsByColumn 22 = .ok (.aload_n 0, 1) := by decide +kernel
theorem dX11_partsByColumn_23 : decode cX11_partsByColumn 23 = .ok (.aload_n 0, 1) := by decide +kernel
theorem dX11_partsByColumn_24 : decode cX11_partsByColumn 24 = .ok (.iload_n 1, 1) := by decide +kernel
theorem dX11_partsByColumn_25 : decode cX11_partsByColumn 25 = .ok (.iload_n 2, 1) := by decide +kernel
theorem dX11_partsByColumn_26 : decode cX11_partsByColumn 26 = .ok (.invokevirtual 127, 3) := by decide +kernel
theorem dX11_partsByColumn_29 : decode cX11_partsByColumn 29 = .ok (.invokevirtual 82, 3) := by decide +kernel
theorem dX11_partsByColumn_32 : decode cX11_partsByColumn 32 = .ok (.ireturn, 1) := by decide +kernel
theorem dX11_partsByColumn_33 : decode cX11_partsByColumn 33 = .ok (.aload_n 3, 1) := by decide +kernel
theorem dX11_partsByColumn_34 : decode cX11_partsByColumn 34 = .ok (.getfield 134, 3) := by decide +kernel
theorem dX11_partsByColumn_37 : decode cX11_partsByColumn 37 = .ok (.aload 4, 2) := by decide +kernel
theorem dX11_partsByColumn_39 : decode cX11_partsByColumn 39 = .ok (.getfield 174, 3) := by decide +kernel
theorem dX11_partsByColumn_42 : decode cX11_partsByColumn 42 = .ok (.if_icmp .eq 10, 3) := by decide +kernel
theorem dX11_partsByColumn_45 : decode cX11_partsByColumn 45 = .ok (.aload_n 0, 1) := by decide +kernel
theorem dX11_partsByColumn_46 : decode cX11_partsByColumn 46 = .ok (.bipush (-3), 2) := by decide +kernel
theorem dX11_partsByColumn_48 : decode cX11_partsByColumn 48 = .ok (.invokevirtual 82, 3) := by decide +kernel
theorem dX11_partsByColumn_51 : decode cX11_partsByColumn 51 = .ok (.ireturn, 1) := by decide +kernel
theorem dX11_partsByColumn_52 : decode cX11_partsByColumn 52 = .ok (.aload_n 0, 1) := by decide +kernel
theorem dX11_partsByColumn_53 : decode cX11_partsByColumn 53 = .ok (.invokevirtual 93, 3) := by decide +kernel
theorem dX11_partsByColumn_56 : decode cX11_partsByColumn 56 = .ok (.ifCond .eq 12, 3) := by decide +kernel
theorem dX11_partsByColumn_59 : decode cX11_partsByColumn 59 = .ok (.aload_n 0, 1) := by decide +kernel
theorem dX11_partsByColumn_60 : decode cX11_partsByColumn 60 = .ok (.bipush (-4), 2) := by decide +kernel
theorem dX11_partsByColumn_62 : decode cX11_partsByColumn 62 = .ok (.invokevirtual 82, 3) := by decide +kernel
theorem dX11_partsByColumn_65 : decode cX11_partsByColumn 65 = .ok (.goto 18, 3) := by decide +kernel
theorem dX11_partsByColumn_68 : decode cX11_partsByColumn 68 = .ok (.aload_n 0, 1) := by decide +kernel
theorem dX11_partsByColumn_69 : decode cX11_partsByColumn 69 = .ok (.new 145, 3) := by decide +kernel
theorem dX11_partsByColumn_72 : decode cX11_partsByColumn 72 = .ok (.dup, 1) := by decide +kernel
theorem dX11_partsByColumn_73 : decode cX11_partsByColumn 73 = .ok (.aload_n 3, 1) := by decide +kernel
theorem dX11_partsByColumn_74 : decode cX11_partsByColumn 74 = .ok (.iconst 4, 1) := by decide +kernel
theorem dX11_partsByColumn_75 : decode cX11_partsByColumn 75 = .ok (.aload 4, 2) := by decide +kernel
theorem dX11_partsByColumn_77 : decode cX11_partsByColumn 77 = .ok (.invokespecial 196, 3) := by decide +kernel
theorem dX11_partsByColumn_80 : decode cX11_partsByColumn 80 = .ok (.invokevirtual 102, 3) := by decide +kernel
theorem dX11_partsByColumn_83 : decode cX11_partsByColumn 83 = .ok (.ireturn, 1) := by decide +kernel
theorem nX11_145 : lkN (gS, X) RX11 145 5 RX5 TX5 4 := ⟨rfl, inX5, (tb_t (k := 503) (w := Cond.classLink RX11 145 RX5) (by decide +kernel)), (tb_t (k := 702) (w := Cond.instantiable RX5 4) (by decide +kernel)), (tb_t (k := 17) (w := Cond.initialized RX5) (by decide +kernel))⟩
theorem kX11_196 : lkK (gS, X) RX11 196 mX5_init 3 ∧ Cond.instanceMethod yX5_init ∈ g_ws (gS, X) ∧ yX5_init.name = "<init>" ∧ mX5_init.2.2.2 = none := ⟨⟨tb_good, (tb_t (k := 703) (w := Cond.methodLink RX11 196 yX5_init) (by decide +kernel)), (tb_t (k := 17) (w := Cond.initialized RX5) (by decide +kernel)), (tb_t (k := 705) (w := Cond.code yX5_init cX5_init 8 none) (by decide +kernel)), by decide +kernel, by decide⟩, (tb_t (k := 704) (w := Cond.instanceMethod yX5_init) (by decide +kernel)), rfl, rfl⟩
theorem dX11_parts_0 : decode cX11_parts 0 = .ok (.aload_n 0, 1) := by decide +kernel
theorem dX11_parts_1 : decode cX11_parts 1 = .ok (.iconst 0, 1) := by decide +kernel
theorem dX11_parts_2 : decode cX11_parts 2 = .ok (.putfield 19, 3) := by decide +kernel
theorem dX11_parts_5 : decode cX11_parts 5 = .ok (.iload_n 2, 1) := by decide +kernel
theorem dX11_parts_6 : decode cX11_parts 6 = .ok (.iconst 4, 1) := by decide +kernel
theorem dX11_parts_7 : decode cX11_parts 7 = .ok (.if_icmp .ne 10, 3) := by decide +kernel
theorem dX11_parts_10 : decode cX11_parts 10 = .ok (.aload_n 0, 1) := by decide +kernel
theorem dX11_parts_11 : decode cX11_parts 11 = .ok (.iload_n 1, 1) := by decide +kernel
theorem dX11_parts_12 : decode cX11_parts 12 = .ok (.iload_n 3, 1) := by decide +kernel
theorem dX11_parts_13 : decode cX11_parts 13 = .ok (.invokevirtual 193, 3) := by decide +kernel
theorem dX11_parts_16 : decode cX11_parts 16 = .ok (.ireturn, 1) := by decide +kernel
theorem dX11_parts_17 : decode cX11_parts 17 = .ok (.aload_n 0, 1) := by decide +kernel
theorem dX11_parts_18 : decode cX11_parts 18 = .ok (.iload_n 1, 1) := by decide +kernel
theorem dX11_parts_19 : decode cX11_parts 19 = .ok (.invokevirtual 106, 3) := by decide +kernel
theorem dX11_parts_22 : decode cX11_parts 22 = .ok (.astore 4, 2) := by decide +kernel
theorem dX11_parts_24 : decode cX11_parts 24 = .ok (.aload 4, 2) := by decide +kernel
theorem dX11_parts_26 : decode cX11_parts 26 = .ok (.ifnonnull 13, 3) := by decide +kernel
theorem dX11_parts_29 : decode cX11_parts 29 = .ok (.aload_n 0, 1) := by decide +kernel
theorem dX11_parts_30 : decode cX11_parts 30 = .ok (.aload_n 0, 1) := by decide +kernel
theorem dX11_parts_31 : decode cX11_parts 31 = .ok (.iload_n 1, 1) := by decide +kernel
theorem dX11_parts_32 : decode cX11_parts 32 = .ok (.invokevirtual 110, 3) := by decide +kernel
theorem dX11_parts_35 : decode cX11_parts 35 = .ok (.invokevirtual 82, 3) := by decide +kernel
theorem dX11_parts_38 : decode cX11_parts 38 = .ok (.ireturn, 1) := by decide +kernel
theorem dX11_parts_39 : decode cX11_parts 39 = .ok (.iload_n 2, 1) := by decide +kernel
theorem dX11_parts_40 : decode cX11_parts 40 = .ok (.ifCond .lt 8, 3) := by decide +kernel
theorem dX11_parts_43 : decode cX11_parts 43 = .ok (.iload_n 2, 1) := by decide +kernel
theorem dX11_parts_44 : decode cX11_parts 44 = .ok (.iconst 4, 1) := by decide +kernel
theorem dX11_parts_45 : decode cX11_parts 45 = .ok (.if_icmp .le 10, 3) := by decide +kernel
theorem dX11_parts_48 : decode cX11_parts 48 = .ok (.aload_n 0, 1) := by decide +kernel
theorem dX11_parts_49 : decode cX11_parts 49 = .ok (.bipush (-3), 2) := by decide +kernel
theorem dX11_parts_51 : decode cX11_parts 51 = .ok (.invokevirtual 82, 3) := by decide +kernel
theorem dX11_parts_54 : decode cX11_parts 54 = .ok (.ireturn, 1) := by decide +kernel
theorem dX11_parts_55 : decode cX11_parts 55 = .ok (.aload_n 0, 1) := by decide +kernel
theorem dX11_parts_56 : decode cX11_parts 56 = .ok (.invokevirtual 93, 3) := by decide +kernel
theorem dX11_parts_59 : decode cX11_parts 59 = .ok (.ifCond .eq 12, 3) := by decide +kernel
theorem dX11_parts_62 : decode cX11_parts 62 = .ok (.aload_n 0, 1) := by decide +kernel
theorem dX11_parts_63 : decode cX11_parts 63 = .ok (.bipush (-4), 2) := by decide +kernel
theorem dX11_parts_65 : decode cX11_parts 65 = .ok (.invokevirtual 82, 3) := by decide +kernel
theorem dX11_parts_68 : decode cX11_parts 68 = .ok (.goto 18, 3) := by decide +kernel
theorem dX11_parts_71 : decode cX11_parts 71 = .ok (.aload_n 0, 1) := by decide +kernel
theorem dX11_parts_72 : decode cX11_parts 72 = .ok (.new 145, 3) := by decide +kernel
theorem dX11_parts_75 : decode cX11_parts 75 = .ok (.dup, 1) := by decide +kernel
theorem dX11_parts_76 : decode cX11_parts 76 = .ok (.aload 4, 2) := by decide +kernel
theorem dX11_parts_78 : decode cX11_parts 78 = .ok (.iload_n 2, 1) := by decide +kernel
theorem dX11_parts_79 : decode cX11_parts 79 = .ok (.aconst_null, 1) := by decide +kernel
theorem dX11_parts_80 : decode cX11_parts 80 = .ok (.invokespecial 196, 3) := by decide +kernel
theorem dX11_parts_83 : decode cX11_parts 83 = .ok (.invokevirtual 102, 3) := by decide +kernel
theorem dX11_parts_86 : decode cX11_parts 86 = .ok (.ireturn, 1) := by decide +kernel
theorem kX11_193 : lkK (gS, X) RX11 193 mX11_partsByColumn 2 ∧ Cond.instanceMethod yX11_partsByColumn ∈ g_ws (gS, X) ∧ Cond.selects RX11 yX11_partsByColumn yX11_partsByColumn ∈ g_ws (gS, X) ∧ yX11_partsByColumn.cls = RX11 := ⟨⟨tb_good, (tb_t (k := 698) (w := Cond.methodLink RX11 193 yX11_partsByColumn) (by decide +kernel)), (tb_t (k := 1) (w := Cond.initialized RX11) (by decide +kernel)), (tb_t (k := 701) (w := Cond.code yX11_partsByColumn cX11_partsByColumn 5 (some .int)) (by decide +kernel)), by decide +kernel, by decide⟩, (tb_t (k := 700) (w := Cond.instanceMethod yX11_partsByColumn) (by decide +kernel)), (tb_p (k := 32) (q := (yX11_partsByColumn, 10)) (by decide +kernel)), rfl⟩
theorem dX11_of_0 : decode cX11_of 0 = .ok (.aload_n 0, 1) := by decide +kernel
theorem dX11_of_1 : decode cX11_of 1 = .ok (.iconst 0, 1) := by decide +kernel
theorem dX11_of_2 : decode cX11_of 2 = .ok (.putfield 19, 3) := by decide +kernel
theorem dX11_of_5 : decode cX11_of 5 = .ok (.aload_n 0, 1) := by decide +kernel
theorem dX11_of_6 : decode cX11_of 6 = .ok (.iload_n 1, 1) := by decide +kernel
theorem dX11_of_7 : decode cX11_of 7 = .ok (.invokevirtual 106, 3) := by decide +kernel
theorem dX11_of_10 : decode cX11_of 10 = .ok (.astore 4, 2) := by decide +kernel
theorem dX11_of_12 : decode cX11_of 12 = .ok (.aload 4, 2) := by decide +kernel
theorem dX11_of_14 : decode cX11_of 14 = .ok (.ifnonnull 13, 3) := by decide +kernel
theorem dX11_of_17 : decode cX11_of 17 = .ok (.aload_n 0, 1) := by decide +kernel
theorem dX11_of_18 : decode cX11_of 18 = .ok (.aload_n 0, 1) := by decide +kernel
theorem dX11_of_19 : decode cX11_of 19 = .ok (.iload_n 1, 1) := by decide +kernel
theorem dX11_of_20 : decode cX11_of 20 = .ok (.invokevirtual 110, 3) := by decide +kernel
theorem dX11_of_23 : decode cX11_of 23 = .ok (.invokevirtual 203, 3) := by decide +kernel
theorem dX11_of_26 : decode cX11_of 26 = .ok (.ireturn, 1) := by decide +kernel
theorem dX11_of_27 : decode cX11_of 27 = .ok (.iload_n 2, 1) := by decide +kernel
theorem dX11_of_28 : decode cX11_of 28 = .ok (.ifCond .lt 26, 3) := by decide +kernel
theorem dX11_of_31 : decode cX11_of 31 = .ok (.iload_n 2, 1) := by decide +kernel
theorem dX11_of_32 : decode cX11_of 32 = .ok (.bipush 6, 2) := by decide +kernel
theorem dX11_of_34 : decode cX11_of 34 = .ok (.if_icmp .gt 20, 3) := by decide +kernel
theorem dX11_of_37 : decode cX11_of 37 = .ok (.iload_n 2, 1) := by decide +kernel
theorem dX11_of_38 : decode cX11_of 38 = .ok (.iconst 3, 1) := by decide +kernel
theorem dX11_of_39 : decode cX11_of 39 = .ok (.if_icmp .lt 22, 3) := by decide +kernel
theorem dX11_of_42 : decode cX11_of 42 = .ok (.iload_n 3, 1) := by decide +kernel
theorem dX11_of_43 : decode cX11_of 43 = .ok (.aload 4, 2) := by decide +kernel
theorem dX11_of_45 : decode cX11_of 45 = .ok (.getfield 135, 3) := by decide +kernel
theorem dX11_of_48 : decode cX11_of 48 = .ok (.invokestatic 74, 3) := by decide +kernel
theorem dX11_of_51 : decode cX11_of 51 = .ok (.ifCond .ne 10, 3) := by decide +kernel
theorem dX11_of_54 : decode cX11_of 54 = .ok (.aload_n 0, 1) := by decide +kernel
theorem dX11_of_55 : decode cX11_of 55 = .ok (.bipush (-3), 2) := by decide +kernel
theorem dX11_of_57 : decode cX11_of 57 = .ok (.invokevirtual 203, 3) := by decide +kernel
theorem dX11_of_60 : decode cX11_of 60 = .ok (.ireturn, 1) := by decide +kernel
theorem dX11_of_61 : decode cX11_of 61 = .ok (.aload 4, 2) := by decide +kernel
theorem dX11_of_63 : decode cX11_of 63 = .ok (.iload_n 2, 1) := by decide +kernel
theorem dX11_of_64 : decode cX11_of 64 = .ok (.iload_n 3, 1) := by decide +kernel
theorem dX11_of_65 : decode cX11_of 65 = .ok (.invokevirtual 210, 3) := by decide +kernel
theorem dX11_of_68 : decode cX11_of 68 = .ok (.ireturn, 1) := by decide +kernel
theorem kX11_203 : lkK (gS, X) RX11 203 mX11_deny 1 ∧ Cond.instanceMethod yX11_deny ∈ g_ws (gS, X) ∧ Cond.selects RX11 yX11_deny yX11_deny ∈ g_ws (gS, X) ∧ yX11_deny.cls = RX11 := ⟨⟨tb_good, (tb_t (k := 769) (w := Cond.methodLink RX11 203 yX11_deny) (by decide +kernel)), (tb_t (k := 1) (w := Cond.initialized RX11) (by decide +kernel)), (tb_t (k := 772) (w := Cond.code yX11_deny cX11_deny 2 (some .int)) (by decide +kernel)), by decide +kernel, by decide⟩, (tb_t (k := 771) (w := Cond.instanceMethod yX11_deny) (by decide +kernel)), (tb_p (k := 33) (q := (yX11_deny, 10)) (by decide +kernel)), rfl⟩
theorem kX11_210 : lkK (gS, X) RX11 210 mX3_detail 2 ∧ Cond.instanceMethod yX3_detail ∈ g_ws (gS, X) ∧ Cond.selects RX3 yX3_detail yX3_detail ∈ g_ws (gS, X) ∧ yX3_detail.cls = RX3 := ⟨⟨tb_good, (tb_t (k := 792) (w := Cond.methodLink RX11 210 yX3_detail) (by decide +kernel)), (tb_t (k := 10) (w := Cond.initialized RX3) (by decide +kernel)), (tb_t (k := 795) (w := Cond.code yX3_detail cX3_detail 3 (some .int)) (by decide +kernel)), by decide +kernel, by decide⟩, (tb_t (k := 793) (w := Cond.instanceMethod yX3_detail) (by decide +kernel)), (tb_t (k := 794) (w := Cond.selects RX3 yX3_detail yX3_detail) (by decide +kernel)), rfl⟩
theorem dX11_at_0 : decode cX11_at 0 = .ok (.aload_n 0, 1) := by decide +kernel
theorem dX11_at_1 : decode cX11_at 1 = .ok (.iconst 0, 1) := by decide +kernel
theorem dX11_at_2 : decode cX11_at 2 = .ok (.putfield 19, 3) := by decide +kernel
theorem dX11_at_5 : decode cX11_at 5 = .ok (.aload_n 0, 1) := by decide +kernel
theorem dX11_at_6 : decode cX11_at 6 = .ok (.iload_n 1, 1) := by decide +kernel
theorem dX11_at_7 : decode cX11_at 7 = .ok (.invokevirtual 170, 3) := by decide +kernel
theorem dX11_at_10 : decode cX11_at 10 = .ok (.astore_n 3, 1) := by decide +kernel
theorem dX11_at_11 : decode cX11_at 11 = .ok (.aload_n 3, 1) := by decide +kernel
theorem dX11_at_12 : decode cX11_at 12 = .ok (.ifnonnull 14, 3) := by decide +kernel
theorem dX11_at_15 : decode cX11_at 15 = .ok (.aload_n 0, 1) := by decide +kernel
theorem dX11_at_16 : decode cX11_at 16 = .ok (.aload_n 0, 1) := by decide +kernel
theorem dX11_at_17 : decode cX11_at 17 = .ok (.iload_n 1, 1) := by decide +kernel
theorem dX11_at_18 : decode cX11_at 18 = .ok (.invokevirtual 110, 3) := by decide +kernel
theorem dX11_at_21 : decode cX11_at 21 = .ok (.invokevirtual 203, 3) := by decide +kernel
theorem dX11_at_24 : decode cX11_at 24 = .ok (.i2l, 1) := by decide +kernel
theorem dX11_at_25 : decode cX11_at 25 = .ok (.lreturn, 1) := by decide +kernel
theorem dX11_at_26 : decode cX11_at 26 = .ok (.iload_n 2, 1) := by decide +kernel
theorem dX11_at_27 : decode cX11_at 27 = .ok (.iconst (-1), 1) := by decide +kernel
theorem dX11_at_28 : decode cX11_at 28 = .ok (.if_icmp .ne 8, 3) := by decide +kernel
theorem dX11_at_31 : decode cX11_at 31 = .ok (.aload_n 3, 1) := by decide +kernel
theorem dX11_at_32 : decode cX11_at 32 = .ok (.invokevirtual 213, 3) := by decide +kernel
theorem dX11_at_35 : decode cX11_at 35 = .ok (.lreturn, 1) := by decide +kernel
theorem dX11_at_36 : decode cX11_at 36 = .ok (.iload_n 2, 1) := by decide +kernel
theorem dX11_at_37 : decode cX11_at 37 = .ok (.aload_n 3, 1) := by decide +kernel
theorem dX11_at_38 : decode cX11_at 38 = .ok (.getfield 174, 3) := by decide +kernel
theorem dX11_at_41 : decode cX11_at 41 = .ok (.invokestatic 74, 3) := by decide +kernel
theorem dX11_at_44 : decode cX11_at 44 = .ok (.ifCond .eq 12, 3) := by decide +kernel
theorem dX11_at_47 : decode cX11_at 47 = .ok (.aload_n 3, 1) := by decide +kernel
theorem dX11_at_48 : decode cX11_at 48 = .ok (.getfield 160, 3) := by decide +kernel
theorem dX11_at_51 : decode cX11_at 51 = .ok (.iload_n 2, 1) := by decide +kernel
theorem dX11_at_52 : decode cX11_at 52 = .ok (.laload, 1) := by decide +kernel
theorem dX11_at_53 : decode cX11_at 53 = .ok (.goto 10, 3) := by decide +kernel
theorem dX11_at_56 : decode cX11_at 56 = .ok (.aload_n 0, 1) := by decide +kernel
theorem dX11_at_57 : decode cX11_at 57 = .ok (.bipush (-3), 2) := by decide +kernel
theorem dX11_at_59 : decode cX11_at 59 = .ok (.invokevirtual 203, 3) := by decide +kernel
theorem dX11_at_62 : decode cX11_at 62 = .ok (.i2l, 1) := by decide +kernel
theorem dX11_at_63 : decode cX11_at 63 = .ok (.lreturn, 1) := by decide +kernel
theorem kX11_213 : lkK (gS, X) RX11 213 mX0_total 0 ∧ Cond.instanceMethod yX0_total ∈ g_ws (gS, X) ∧ Cond.selects RX0 yX0_total yX0_total ∈ g_ws (gS, X) ∧ yX0_total.cls = RX0 := ⟨⟨tb_good, (tb_t (k := 800) (w := Cond.methodLink RX11 213 yX0_total) (by decide +kernel)), (tb_t (k := 15) (w := Cond.initialized RX0) (by decide +kernel)), (tb_t (k := 803) (w := Cond.code yX0_total cX0_total 4 (some .long)) (by decide +kernel)), by decide +kernel, by decide⟩, (tb_t (k := 801) (w := Cond.instanceMethod yX0_total) (by decide +kernel)), (tb_t (k := 802) (w := Cond.selects RX0 yX0_total yX0_total) (by decide +kernel)), rfl⟩
theorem dX11_way_0 : decode cX11_way 0 = .ok (.aload_n 0, 1) := by decide +kernel
theorem dX11_way_1 : decode cX11_way 1 = .ok (.iconst 0, 1) := by decide +kernel
theorem dX11_way_2 : decode cX11_way 2 = .ok (.putfield 19, 3) := by decide +kernel
theorem dX11_way_5 : decode cX11_way 5 = .ok (.aload_n 0, 1) := by decide +kernel
theorem dX11_way_6 : decode cX11_way 6 = .ok (.iload_n 1, 1) := by decide +kernel
theorem dX11_way_7 : decode cX11_way 7 = .ok (.invokevirtual 217, 3) := by decide +kernel
theorem dX11_way_10 : decode cX11_way 10 = .ok (.astore 4, 2) := by decide +kernel
theorem dX11_way_12 : decode cX11_way 12 = .ok (.aload 4, 2) := by decide +kernel
theorem dX11_way_14 : decode cX11_way 14 = .ok (.ifnonnull 14, 3) := by decide +kernel
theorem dX11_way_17 : decode cX11_way 17 = .ok (.aload_n 0, 1) := by decide +kernel
theorem dX11_way_18 : decode cX11_way 18 = .ok (.aload_n 0, 1) := by decide +kernel
theorem dX11_way_19 : decode cX11_way 19 = .ok (.iload_n 1, 1) := by decide +kernel
theorem dX11_way_20 : decode cX11_way 20 = .ok (.invokevirtual 110, 3) := by decide +kernel
theorem dX11_way_23 : decode cX11_way 23 = .ok (.invokevirtual 203, 3) := by decide +kernel
theorem dX11_way_26 : decode cX11_way 26 = .ok (.i2l, 1) := by decide +kernel
theorem dX11_way_27 : decode cX11_way 27 = .ok (.lreturn, 1) := by decide +kernel
theorem dX11_way_28 : decode cX11_way 28 = .ok (.iload_n 2, 1) := by decide +kernel
theorem dX11_way_29 : decode cX11_way 29 = .ok (.aload 4, 2) := by decide +kernel
theorem dX11_way_31 : decode cX11_way 31 = .ok (.getfield 221, 3) := by decide +kernel
theorem dX11_way_34 : decode cX11_way 34 = .ok (.invokestatic 74, 3) := by decide +kernel
theorem dX11_way_37 : decode cX11_way 37 = .ok (.ifCond .eq 12, 3) := by decide +kernel
theorem dX11_way_40 : decode cX11_way 40 = .ok (.iload_n 3, 1) := by decide +kernel
theorem dX11_way_41 : decode cX11_way 41 = .ok (.ifCond .lt 8, 3) := by decide +kernel
theorem dX11_way_44 : decode cX11_way 44 = .ok (.iload_n 3, 1) := by decide +kernel
theorem dX11_way_45 : decode cX11_way 45 = .ok (.iconst 3, 1) := by decide +kernel
theorem dX11_way_46 : decode cX11_way 46 = .ok (.if_icmp .le 11, 3) := by decide +kernel
theorem dX11_way_49 : decode cX11_way 49 = .ok (.aload_n 0, 1) := by decide +kernel
theorem dX11_way_50 : decode cX11_way 50 = .ok (.bipush (-3), 2) := by decide +kernel
theorem dX11_way_52 : decode cX11_way 52 = .ok (.invokevirtual 203, 3) := by decide +kernel
theorem dX11_way_55 : decode cX11_way 55 = .ok (.i2l, 1) := by decide +kernel
theorem dX11_way_56 : decode cX11_way 56 = .ok (.lreturn, 1) := by decide +kernel
theorem dX11_way_57 : decode cX11_way 57 = .ok (.aload 4, 2) := by decide +kernel
theorem dX11_way_59 : decode cX11_way 59 = .ok (.iload_n 2, 1) := by decide +kernel
theorem dX11_way_60 : decode cX11_way 60 = .ok (.iload_n 3, 1) := by decide +kernel
theorem dX11_way_61 : decode cX11_way 61 = .ok (.invokevirtual 222, 3) := by decide +kernel
theorem dX11_way_64 : decode cX11_way 64 = .ok (.lreturn, 1) := by decide +kernel
theorem kX11_217 : lkK (gS, X) RX11 217 mX11_waysAt 1 ∧ Cond.instanceMethod yX11_waysAt ∈ g_ws (gS, X) ∧ Cond.selects RX11 yX11_waysAt yX11_waysAt ∈ g_ws (gS, X) ∧ yX11_waysAt.cls = RX11 := ⟨⟨tb_good, (tb_t (k := 808) (w := Cond.methodLink RX11 217 yX11_waysAt) (by decide +kernel)), (tb_t (k := 1) (w := Cond.initialized RX11) (by decide +kernel)), (tb_t (k := 811) (w := Cond.code yX11_waysAt cX11_waysAt 4 (some (.object "GraphEngine$Ways"))) (by decide +kernel)), by decide +kernel, by decide⟩, (tb_t (k := 810) (w := Cond.instanceMethod yX11_waysAt) (by decide +kernel)), (tb_p (k := 34) (q := (yX11_waysAt, 10)) (by decide +kernel)), rfl⟩
theorem fX11_221 : lkF (gS, X) RX11 221 9 0 "GraphEngine$Ways" RX10 TX10 6 := ⟨rfl, inX10, by decide, (tb_t (k := 371) (w := Cond.fieldLink RX11 221 "GraphEngine$Ways" "nodes" "I") (by decide +kernel)), Or.inr (tb_t (k := 355) (w := Cond.sameField "GraphEngine$Ways" "GraphEngine$Thing" "nodes" "I") (by decide +kernel))⟩
theorem kX11_222 : lkK (gS, X) RX11 222 mX10_detail 2 ∧ Cond.instanceMethod yX10_detail ∈ g_ws (gS, X) ∧ Cond.selects RX10 yX10_detail yX10_detail ∈ g_ws (gS, X) ∧ yX10_detail.cls = RX10 := ⟨⟨tb_good, (tb_t (k := 812) (w := Cond.methodLink RX11 222 yX10_detail) (by decide +kernel)), (tb_t (k := 16) (w := Cond.initialized RX10) (by decide +kernel)), (tb_t (k := 815) (w := Cond.code yX10_detail cX10_detail 3 (some .long)) (by decide +kernel)), by decide +kernel, by decide⟩, (tb_t (k := 813) (w := Cond.instanceMethod yX10_detail) (by decide +kernel)), (tb_t (k := 814) (w := Cond.selects RX10 yX10_detail yX10_detail) (by decide +kernel)), rfl⟩
theorem dX11_step_0 : decode cX11_step 0 = .ok (.aload_n 0, 1) := by decide +kernel
theorem dX11_step_1 : decode cX11_step 1 = .ok (.iconst 0, 1) := by decide +kernel
theorem dX11_step_2 : decode cX11_step 2 = .ok (.putfield 19, 3) := by decide +kernel
theorem dX11_step_5 : decode cX11_step 5 = .ok (.aload_n 0, 1) := by decide +kernel
theorem dX11_step_6 : decode cX11_step 6 = .ok (.iload_n 1, 1) := by decide +kernel
theorem dX11_step_7 : decode cX11_step 7 = .ok (.invokevirtual 217, 3) := by decide +kernel
theorem dX11_step_10 : decode cX11_step 10 = .ok (.astore 4, 2) := by decide +kernel
theorem dX11_step_12 : decode cX11_step 12 = .ok (.aload 4, 2) := by decide +kernel
theorem dX11_step_14 : decode cX11_step 14 = .ok (.ifnonnull 13, 3) := by decide +kernel
theorem dX11_step_17 : decode cX11_step 17 = .ok (.aload_n 0, 1) := by decide +kernel
theorem dX11_step_18 : decode cX11_step 18 = .ok (.aload_n 0, 1) := by decide +kernel
theorem dX11_step_19 : decode cX11_step 19 = .ok (.iload_n 1, 1) := by decide +kernel
theorem dX11_step_20 : decode cX11_step 20 = .ok (.invokevirtual 110, 3) := by decide +kernel
theorem dX11_step_23 : decode cX11_step 23 = .ok (.invokevirtual 203, 3) := by decide +kernel
theorem dX11_step_26 : decode cX11_step 26 = .ok (.ireturn, 1) := by decide +kernel
theorem dX11_step_27 : decode cX11_step 27 = .ok (.iload_n 2, 1) := by decide +kernel
theorem dX11_step_28 : decode cX11_step 28 = .ok (.aload 4, 2) := by decide +kernel
theorem dX11_step_30 : decode cX11_step 30 = .ok (.getfield 221, 3) := by decide +kernel
theorem dX11_step_33 : decode cX11_step 33 = .ok (.invokestatic 74, 3) := by decide +kernel
theorem dX11_step_36 : decode cX11_step 36 = .ok (.ifCond .eq 13, 3) := by decide +kernel
theorem dX11_step_39 : decode cX11_step 39 = .ok (.aload 4, 2) := by decide +kernel
theorem dX11_step_41 : decode cX11_step 41 = .ok (.iload_n 2, 1) := by decide +kernel
theorem dX11_step_42 : decode cX11_step 42 = .ok (.iload_n 3, 1) := by decide +kernel
theorem dX11_step_43 : decode cX11_step 43 = .ok (.invokevirtual 225, 3) := by decide +kernel
theorem dX11_step_46 : decode cX11_step 46 = .ok (.goto 9, 3) := by decide +kernel
theorem dX11_step_49 : decode cX11_step 49 = .ok (.aload_n 0, 1) := by decide +kernel
theorem dX11_step_50 : decode cX11_step 50 = .ok (.bipush (-3), 2) := by decide +kernel
theorem dX11_step_52 : decode cX11_step 52 = .ok (.invokevirtual 203, 3) := by decide +kernel
theorem dX11_step_55 : decode cX11_step 55 = .ok (.ireturn, 1) := by decide +kernel
theorem kX11_225 : lkK (gS, X) RX11 225 mX10_arcOnWay 2 ∧ Cond.instanceMethod yX10_arcOnWay ∈ g_ws (gS, X) ∧ Cond.selects RX10 yX10_arcOnWay yX10_arcOnWay ∈ g_ws (gS, X) ∧ yX10_arcOnWay.cls = RX10 := ⟨⟨tb_good, (tb_t (k := 820) (w := Cond.methodLink RX11 225 yX10_arcOnWay) (by decide +kernel)), (tb_t (k := 16) (w := Cond.initialized RX10) (by decide +kernel)), (tb_t (k := 823) (w := Cond.code yX10_arcOnWay cX10_arcOnWay 3 (some .int)) (by decide +kernel)), by decide +kernel, by decide⟩, (tb_t (k := 821) (w := Cond.instanceMethod yX10_arcOnWay) (by decide +kernel)), (tb_t (k := 822) (w := Cond.selects RX10 yX10_arcOnWay yX10_arcOnWay) (by decide +kernel)), rfl⟩
theorem dX11_part_0 : decode cX11_part 0 = .ok (.aload_n 0, 1) := by decide +kernel
theorem dX11_part_1 : decode cX11_part 1 = .ok (.iconst 0, 1) := by decide +kernel
theorem dX11_part_2 : decode cX11_part 2 = .ok (.putfield 19, 3) := by decide +kernel
theorem dX11_part_5 : decode cX11_part 5 = .ok (.aload_n 0, 1) := by decide +kernel
theorem dX11_part_6 : decode cX11_part 6 = .ok (.iload_n 1, 1) := by decide +kernel
theorem dX11_part_7 : decode cX11_part 7 = .ok (.invokevirtual 140, 3) := by decide +kernel
theorem dX11_part_10 : decode cX11_part 10 = .ok (.astore_n 3, 1) := by decide +kernel
theorem dX11_part_11 : decode cX11_part 11 = .ok (.aload_n 3, 1) := by decide +kernel
theorem dX11_part_12 : decode cX11_part 12 = .ok (.ifnonnull 13, 3) := by decide +kernel
theorem dX11_part_15 : decode cX11_part 15 = .ok (.aload_n 0, 1) := by decide +kernel
theorem dX11_part_16 : decode cX11_part 16 = .ok (.aload_n 0, 1) := by decide +kernel
theorem dX11_part_17 : decode cX11_part 17 = .ok (.iload_n 1, 1) := by decide +kernel
theorem dX11_part_18 : decode cX11_part 18 = .ok (.invokevirtual 110, 3) := by decide +kernel
theorem dX11_part_21 : decode cX11_part 21 = .ok (.invokevirtual 203, 3) := by decide +kernel
theorem dX11_part_24 : decode cX11_part 24 = .ok (.ireturn, 1) := by decide +kernel
theorem dX11_part_25 : decode cX11_part 25 = .ok (.iload_n 2, 1) := by decide +kernel
theorem dX11_part_26 : decode cX11_part 26 = .ok (.iconst (-1), 1) := by decide +kernel
theorem dX11_part_27 : decode cX11_part 27 = .ok (.if_icmp .ne 8, 3) := by decide +kernel
theorem dX11_part_30 : decode cX11_part 30 = .ok (.aload_n 3, 1) := by decide +kernel
theorem dX11_part_31 : decode cX11_part 31 = .ok (.getfield 228, 3) := by decide +kernel
theorem dX11_part_34 : decode cX11_part 34 = .ok (.ireturn, 1) := by decide +kernel
theorem dX11_part_35 : decode cX11_part 35 = .ok (.iload_n 2, 1) := by decide +kernel
theorem dX11_part_36 : decode cX11_part 36 = .ok (.aload_n 3, 1) := by decide +kernel
theorem dX11_part_37 : decode cX11_part 37 = .ok (.getfield 144, 3) := by decide +kernel
theorem dX11_part_40 : decode cX11_part 40 = .ok (.invokestatic 74, 3) := by decide +kernel
theorem dX11_part_43 : decode cX11_part 43 = .ok (.ifCond .eq 12, 3) := by decide +kernel
theorem dX11_part_46 : decode cX11_part 46 = .ok (.aload_n 3, 1) := by decide +kernel
theorem dX11_part_47 : decode cX11_part 47 = .ok (.getfield 231, 3) := by decide +kernel
theorem dX11_part_50 : decode cX11_part 50 = .ok (.iload_n 2, 1) := by decide +kernel
theorem dX11_part_51 : decode cX11_part 51 = .ok (.iaload, 1) := by decide +kernel
theorem dX11_part_52 : decode cX11_part 52 = .ok (.goto 9, 3) := by decide +kernel
theorem dX11_part_55 : decode cX11_part 55 = .ok (.aload_n 0, 1) := by decide +kernel
theorem dX11_part_56 : decode cX11_part 56 = .ok (.bipush (-3), 2) := by decide +kernel
theorem dX11_part_58 : decode cX11_part 58 = .ok (.invokevirtual 203, 3) := by decide +kernel
theorem dX11_part_61 : decode cX11_part 61 = .ok (.ireturn, 1) := by decide +kernel
theorem fX11_228 : lkF (gS, X) RX11 228 5 1 "GraphEngine$Parts" RX5 TX5 4 := ⟨rfl, inX5, by decide, (tb_t (k := 739) (w := Cond.fieldLink RX11 228 "GraphEngine$Parts" "size" "I") (by decide +kernel)), Or.inl rfl⟩
theorem fX11_231 : lkF (gS, X) RX11 231 5 2 "GraphEngine$Parts" RX5 TX5 4 := ⟨rfl, inX5, by decide, (tb_t (k := 742) (w := Cond.fieldLink RX11 231 "GraphEngine$Parts" "number" "[I") (by decide +kernel)), Or.inl rfl⟩
theorem dX11_members_0 : decode cX11_members 0 = .ok (.aload_n 0, 1) := by decide +kernel
theorem dX11_members_1 : decode cX11_members 1 = .ok (.iconst 0, 1) := by decide +kernel
theorem dX11_members_2 : decode cX11_members 2 = .ok (.putfield 19, 3) := by decide +kernel
theorem dX11_members_5 : decode cX11_members 5 = .ok (.aload_n 0, 1) := by decide +kernel
theorem dX11_members_6 : decode cX11_members 6 = .ok (.iload_n 1, 1) := by decide +kernel
theorem dX11_members_7 : decode cX11_members 7 = .ok (.invokevirtual 140, 3) := by decide +kernel
theorem dX11_members_10 : decode cX11_members 10 = .ok (.astore_n 3, 1) := by decide +kernel
theorem dX11_members_11 : decode cX11_members 11 = .ok (.aload_n 3, 1) := by decide +kernel
theorem dX11_members_12 : decode cX11_members 12 = .ok (.ifnonnull 13, 3) := by decide +kernel
theorem dX11_members_15 : decode cX11_members 15 = .ok (.aload_n 0, 1) := by decide +kernel
theorem dX11_members_16 : decode cX11_members 16 = .ok (.aload_n 0, 1) := by decide +kernel
theorem dX11_members_17 : decode cX11_members 17 = .ok (.iload_n 1, 1) := by decide +kernel
theorem dX11_members_18 : decode cX11_members 18 = .ok (.invokevirtual 110, 3) := by decide +kernel
theorem dX11_members_21 : decode cX11_members 21 = .ok (.invokevirtual 203, 3) := by decide +kernel
theorem dX11_members_24 : decode cX11_members 24 = .ok (.ireturn, 1) := by decide +kernel
theorem dX11_members_25 : decode cX11_members 25 = .ok (.iload_n 2, 1) := by decide +kernel
theorem dX11_members_26 : decode cX11_members 26 = .ok (.aload_n 3, 1) := by decide +kernel
theorem dX11_members_27 : decode cX11_members 27 = .ok (.getfield 228, 3) := by decide +kernel
theorem dX11_members_30 : decode cX11_members 30 = .ok (.invokestatic 74, 3) := by decide +kernel
theorem dX11_members_33 : decode cX11_members 33 = .ok (.ifCond .eq 12, 3) := by decide +kernel
theorem dX11_members_36 : decode cX11_members 36 = .ok (.aload_n 3, 1) := by decide +kernel
theorem dX11_members_37 : decode cX11_members 37 = .ok (.getfield 235, 3) := by decide +kernel
theorem dX11_members_40 : decode cX11_members 40 = .ok (.iload_n 2, 1) := by decide +kernel
theorem dX11_members_41 : decode cX11_members 41 = .ok (.iaload, 1) := by decide +kernel
theorem dX11_members_42 : decode cX11_members 42 = .ok (.goto 4, 3) := by decide +kernel
theorem dX11_members_45 : decode cX11_members 45 = .ok (.iconst 0, 1) := by decide +kernel
theorem dX11_members_46 : decode cX11_members 46 = .ok (.ireturn, 1) := by decide +kernel
theorem fX11_235 : lkF (gS, X) RX11 235 5 3 "GraphEngine$Parts" RX5 TX5 4 := ⟨rfl, inX5, by decide, (tb_t (k := 744) (w := Cond.fieldLink RX11 235 "GraphEngine$Parts" "nodesOf" "[I") (by decide +kernel)), Or.inl rfl⟩
theorem dX11_askSameness_0 : decode cX11_askSameness 0 = .ok (.aload_n 0, 1) := by decide +kernel
theorem dX11_askSameness_1 : decode cX11_askSameness 1 = .ok (.iload_n 1, 1) := by decide +kernel
theorem dX11_askSameness_2 : decode cX11_askSameness 2 = .ok (.invokevirtual 106, 3) := by decide +kernel
theorem dX11_askSameness_5 : decode cX11_askSameness 5 = .ok (.astore 5, 2) := by decide +kernel
theorem dX11_askSameness_7 : decode cX11_askSameness 7 = .ok (.aload_n 0, 1) := by decide +kernel
theorem dX11_askSameness_8 : decode cX11_askSameness 8 = .ok (.iload 4, 2) := by decide +kernel
theorem dX11_askSameness_10 : decode cX11_askSameness 10 = .ok (.invokevirtual 106, 3) := by decide +kernel
theorem dX11_askSameness_13 : decode cX11_askSameness 13 = .ok (.astore 6, 2) := by decide +kernel
theorem dX11_askSameness_15 : decode cX11_askSameness 15 = .ok (.aload 5, 2) := by decide +kernel
theorem dX11_askSameness_17 : decode cX11_askSameness 17 = .ok (.ifnull 8, 3) := by decide +kernel
theorem dX11_askSameness_20 : decode cX11_askSameness 20 = .ok (.aload 6, 2) := by decide +kernel
theorem dX11_askSameness_22 : decode cX11_askSameness 22 = .ok (.ifnonnull 16, 3) := by decide +kernel
theorem dX11_askSameness_25 : decode cX11_askSameness 25 = .ok (.aload_n 0, 1) := by decide +kernel
theorem dX11_askSameness_26 : decode cX11_askSameness 26 = .ok (.aload_n 0, 1) := by decide +kernel
theorem dX11_askSameness_27 : decode cX11_askSameness 27 = .ok (.iload_n 1, 1) := by decide +kernel
theorem dX11_askSameness_28 : decode cX11_askSameness 28 = .ok (.iload 4, 2) := by decide +kernel
theorem dX11_askSameness_30 : decode cX11_askSameness 30 = .ok (.invokevirtual 127, 3) := by decide +kernel
theorem dX11_askSameness_33 : decode cX11_askSameness 33 = .ok (.invokevirtual 203, 3) := by decide +kernel
theorem dX11_askSameness_36 : decode cX11_askSameness 36 = .ok (.i2l, 1) := by decide +kernel
theorem dX11_askSameness_37 : decode cX11_askSameness 37 = .ok (.lreturn, 1) := by decide +kernel
theorem dX11_askSameness_38 : decode cX11_askSameness 38 = .ok (.iload_n 2, 1) := by decide +kernel
theorem dX11_askSameness_39 : decode cX11_askSameness 39 = .ok (.bipush 16, 2) := by decide +kernel
theorem dX11_askSameness_41 : decode cX11_askSameness 41 = .ok (.if_icmp .ne 23, 3) := by decide +kernel
theorem dX11_askSameness_44 : decode cX11_askSameness 44 = .ok (.aload_n 0, 1) := by decide +kernel
theorem dX11_askSameness_45 : decode cX11_askSameness 45 = .ok (.getfield 63, 3) := by decide +kernel
theorem dX11_askSameness_48 : decode cX11_askSameness 48 = .ok (.aload 5, 2) := by decide +kernel
theorem dX11_askSameness_50 : decode cX11_askSameness 50 = .ok (.aload 6, 2) := by decide +kernel
theorem dX11_askSameness_52 : decode cX11_askSameness 52 = .ok (.invokevirtual 250, 3) := by decide +kernel
theorem dX11_askSameness_55 : decode cX11_askSameness 55 = .ok (.ifCond .eq 7, 3) := by decide +kernel
theorem dX11_askSameness_58 : decode cX11_askSameness 58 = .ok (.lconst 1, 1) := by decide +kernel
theorem dX11_askSameness_59 : decode cX11_askSameness 59 = .ok (.goto 4, 3) := by decide +kernel
theorem dX11_askSameness_62 : decode cX11_askSameness 62 = .ok (.lconst 0, 1) := by decide +kernel
theorem dX11_askSameness_63 : decode cX11_askSameness 63 = .ok (.lreturn, 1) := by decide +kernel
theorem dX11_askSameness_64 : decode cX11_askSameness 64 = .ok (.iload_n 3, 1) := by decide +kernel
theorem dX11_askSameness_65 : decode cX11_askSameness 65 = .ok (.aload 5, 2) := by decide +kernel
theorem dX11_askSameness_67 : decode cX11_askSameness 67 = .ok (.getfield 134, 3) := by decide +kernel
theorem dX11_askSameness_70 : decode cX11_askSameness 70 = .ok (.invokestatic 74, 3) := by decide +kernel
theorem dX11_askSameness_73 : decode cX11_askSameness 73 = .ok (.ifCond .ne 11, 3) := by decide +kernel
theorem dX11_askSameness_76 : decode cX11_askSameness 76 = .ok (.aload_n 0, 1) := by decide +kernel
theorem dX11_askSameness_77 : decode cX11_askSameness 77 = .ok (.bipush (-3), 2) := by decide +kernel
theorem dX11_askSameness_79 : decode cX11_askSameness 79 = .ok (.invokevirtual 203, 3) := by decide +kernel
theorem dX11_askSameness_82 : decode cX11_askSameness 82 = .ok (.i2l, 1) := by decide +kernel
theorem dX11_askSameness_83 : decode cX11_askSameness 83 = .ok (.lreturn, 1) := by decide +kernel
theorem dX11_askSameness_84 : decode cX11_askSameness 84 = .ok (.aload_n 0, 1) := by decide +kernel
theorem dX11_askSameness_85 : decode cX11_askSameness 85 = .ok (.getfield 63, 3) := by decide +kernel
theorem dX11_askSameness_88 : decode cX11_askSameness 88 = .ok (.aload 5, 2) := by decide +kernel
theorem dX11_askSameness_90 : decode cX11_askSameness 90 = .ok (.aload 6, 2) := by decide +kernel
theorem dX11_askSameness_92 : decode cX11_askSameness 92 = .ok (.invokevirtual 250, 3) := by decide +kernel
theorem dX11_askSameness_95 : decode cX11_askSameness 95 = .ok (.ifCond .eq 15, 3) := by decide +kernel
theorem dX11_askSameness_98 : decode cX11_askSameness 98 = .ok (.aload_n 0, 1) := by decide +kernel
theorem dX11_askSameness_99 : decode cX11_askSameness 99 = .ok (.getfield 63, 3) := by decide +kernel
theorem dX11_askSameness_102 : decode cX11_askSameness 102 = .ok (.iload_n 3, 1) := by decide +kernel
theorem dX11_askSameness_103 : decode cX11_askSameness 103 = .ok (.invokevirtual 254, 3) := by decide +kernel
theorem dX11_askSameness_106 : decode cX11_askSameness 106 = .ok (.i2l, 1) := by decide +kernel
theorem dX11_askSameness_107 : decode cX11_askSameness 107 = .ok (.goto 6, 3) := by decide +kernel
theorem dX11_askSameness_110 : decode cX11_askSameness 110 = .ok (.ldc2_w 257, 3) := by decide +kernel
theorem dX11_askSameness_113 : decode cX11_askSameness 113 = .ok (.lreturn, 1) := by decide +kernel
theorem kX11_250 : lkK (gS, X) RX11 250 mX6_find 2 ∧ Cond.instanceMethod yX6_find ∈ g_ws (gS, X) ∧ Cond.selects RX6 yX6_find yX6_find ∈ g_ws (gS, X) ∧ yX6_find.cls = RX6 := ⟨⟨tb_good, (tb_t (k := 840) (w := Cond.methodLink RX11 250 yX6_find) (by decide +kernel)), (tb_t (k := 7) (w := Cond.initialized RX6) (by decide +kernel)), (tb_t (k := 843) (w := Cond.code yX6_find cX6_find 3 (some .boolean)) (by decide +kernel)), by decide +kernel, by decide⟩, (tb_t (k := 841) (w := Cond.instanceMethod yX6_find) (by decide +kernel)), (tb_t (k := 842) (w := Cond.selects RX6 yX6_find yX6_find) (by decide +kernel)), rfl⟩
theorem kX11_254 : lkK (gS, X) RX11 254 mX6_newNumber 1 ∧ Cond.instanceMethod yX6_newNumber ∈ g_ws (gS, X) ∧ Cond.selects RX6 yX6_newNumber yX6_newNumber ∈ g_ws (gS, X) ∧ yX6_newNumber.cls = RX6 := ⟨⟨tb_good, (tb_t (k := 897) (w := Cond.methodLink RX11 254 yX6_newNumber) (by decide +kernel)), (tb_t (k := 7) (w := Cond.initialized RX6) (by decide +kernel)), (tb_t (k := 900) (w := Cond.code yX6_newNumber cX6_newNumber 2 (some .int)) (by decide +kernel)), by decide +kernel, by decide⟩, (tb_t (k := 898) (w := Cond.instanceMethod yX6_newNumber) (by decide +kernel)), (tb_t (k := 899) (w := Cond.selects RX6 yX6_newNumber yX6_newNumber) (by decide +kernel)), rfl⟩
theorem kX11_257 : Cond.constantLong RX11 257 (-1) ∈ g_ws (gS, X) := (tb_t (k := 901) (w := Cond.constantLong RX11 257 (-1)) (by decide +kernel))
theorem dX11_ask_0 : decode cX11_ask 0 = .ok (.aload_n 0, 1) := by decide +kernel
theorem dX11_ask_1 : decode cX11_ask 1 = .ok (.iconst 0, 1) := by decide +kernel
theorem dX11_ask_2 : decode cX11_ask 2 = .ok (.putfield 19, 3) := by decide +kernel
theorem dX11_ask_5 : decode cX11_ask 5 = .ok (.iload_n 2, 1) := by decide +kernel
theorem dX11_ask_6 : decode cX11_ask 6 = .ok (.bipush 16, 2) := by decide +kernel
theorem dX11_ask_8 : decode cX11_ask 8 = .ok (.if_icmp .eq 9, 3) := by decide +kernel
theorem dX11_ask_11 : decode cX11_ask 11 = .ok (.iload_n 2, 1) := by decide +kernel
theorem dX11_ask_12 : decode cX11_ask 12 = .ok (.bipush 17, 2) := by decide +kernel
theorem dX11_ask_14 : decode cX11_ask 14 = .ok (.if_icmp .ne 13, 3) := by decide +kernel
theorem dX11_ask_17 : decode cX11_ask 17 = .ok (.aload_n 0, 1) := by decide +kernel
theorem dX11_ask_18 : decode cX11_ask 18 = .ok (.iload_n 1, 1) := by decide +kernel
theorem dX11_ask_19 : decode cX11_ask 19 = .ok (.iload_n 2, 1) := by decide +kernel
theorem dX11_ask_20 : decode cX11_ask 20 = .ok (.iload_n 3, 1) := by decide +kernel
theorem dX11_ask_21 : decode cX11_ask 21 = .ok (.iload 4, 2) := by decide +kernel
theorem dX11_ask_23 : decode cX11_ask 23 = .ok (.invokevirtual 238, 3) := by decide +kernel
theorem dX11_ask_26 : decode cX11_ask 26 = .ok (.lreturn, 1) := by decide +kernel
theorem dX11_ask_27 : decode cX11_ask 27 = .ok (.aload_n 0, 1) := by decide +kernel
theorem dX11_ask_28 : decode cX11_ask 28 = .ok (.iload_n 1, 1) := by decide +kernel
theorem dX11_ask_29 : decode cX11_ask 29 = .ok (.invokevirtual 106, 3) := by decide +kernel
theorem dX11_ask_32 : decode cX11_ask 32 = .ok (.astore 5, 2) := by decide +kernel
theorem dX11_ask_34 : decode cX11_ask 34 = .ok (.aload 5, 2) := by decide +kernel
theorem dX11_ask_36 : decode cX11_ask 36 = .ok (.ifnonnull 14, 3) := by decide +kernel
theorem dX11_ask_39 : decode cX11_ask 39 = .ok (.aload_n 0, 1) := by decide +kernel
theorem dX11_ask_40 : decode cX11_ask 40 = .ok (.aload_n 0, 1) := by decide +kernel
theorem dX11_ask_41 : decode cX11_ask 41 = .ok (.iload_n 1, 1) := by decide +kernel
theorem dX11_ask_42 : decode cX11_ask 42 = .ok (.invokevirtual 110, 3) := by decide +kernel
theorem dX11_ask_45 : decode cX11_ask 45 = .ok (.invokevirtual 203, 3) := by decide +kernel
theorem dX11_ask_48 : decode cX11_ask 48 = .ok (.i2l, 1) := by decide +kernel
theorem dX11_ask_49 : decode cX11_ask 49 = .ok (.lreturn, 1) := by decide +kernel
theorem dX11_ask_50 : decode cX11_ask 50 = .ok (.aload 5, 2) := by decide +kernel
theorem dX11_ask_52 : decode cX11_ask 52 = .ok (.iload_n 2, 1) := by decide +kernel
theorem dX11_ask_53 : decode cX11_ask 53 = .ok (.iload_n 3, 1) := by decide +kernel
theorem dX11_ask_54 : decode cX11_ask 54 = .ok (.iload 4, 2) := by decide +kernel
theorem dX11_ask_56 : decode cX11_ask 56 = .ok (.invokestatic 242, 3) := by decide +kernel
theorem dX11_ask_59 : decode cX11_ask 59 = .ok (.ifCond .eq 16, 3) := by decide +kernel
theorem dX11_ask_62 : decode cX11_ask 62 = .ok (.aload_n 0, 1) := by decide +kernel
theorem dX11_ask_63 : decode cX11_ask 63 = .ok (.aload 5, 2) := by decide +kernel
theorem dX11_ask_65 : decode cX11_ask 65 = .ok (.iload_n 2, 1) := by decide +kernel
theorem dX11_ask_66 : decode cX11_ask 66 = .ok (.iload_n 3, 1) := by decide +kernel
theorem dX11_ask_67 : decode cX11_ask 67 = .ok (.iload 4, 2) := by decide +kernel
theorem dX11_ask_69 : decode cX11_ask 69 = .ok (.invokevirtual 246, 3) := by decide +kernel
theorem dX11_ask_72 : decode cX11_ask 72 = .ok (.goto 10, 3) := by decide +kernel
theorem dX11_ask_75 : decode cX11_ask 75 = .ok (.aload_n 0, 1) := by decide +kernel
theorem dX11_ask_76 : decode cX11_ask 76 = .ok (.bipush (-3), 2) := by decide +kernel
theorem dX11_ask_78 : decode cX11_ask 78 = .ok (.invokevirtual 203, 3) := by decide +kernel
theorem dX11_ask_81 : decode cX11_ask 81 = .ok (.i2l, 1) := by decide +kernel
theorem dX11_ask_82 : decode cX11_ask 82 = .ok (.lreturn, 1) := by decide +kernel
theorem kX11_238 : lkK (gS, X) RX11 238 mX11_askSameness 4 ∧ Cond.instanceMethod yX11_askSameness ∈ g_ws (gS, X) ∧ Cond.selects RX11 yX11_askSameness yX11_askSameness ∈ g_ws (gS, X) ∧ yX11_askSameness.cls = RX11 := ⟨⟨tb_good, (tb_t (k := 836) (w := Cond.methodLink RX11 238 yX11_askSameness) (by decide +kernel)), (tb_t (k := 1) (w := Cond.initialized RX11) (by decide +kernel)), (tb_t (k := 839) (w := Cond.code yX11_askSameness cX11_askSameness 7 (some .long)) (by decide +kernel)), by decide +kernel, by decide⟩, (tb_t (k := 838) (w := Cond.instanceMethod yX11_askSameness) (by decide +kernel)), (tb_p (k := 35) (q := (yX11_askSameness, 10)) (by decide +kernel)), rfl⟩
theorem kX11_242 : lkK (gS, X) RX11 242 mX11_isQuestion 4 ∧ Cond.static yX11_isQuestion ∈ g_ws (gS, X) := ⟨⟨tb_good, (tb_t (k := 902) (w := Cond.methodLink RX11 242 yX11_isQuestion) (by decide +kernel)), (tb_t (k := 1) (w := Cond.initialized RX11) (by decide +kernel)), (tb_t (k := 904) (w := Cond.code yX11_isQuestion cX11_isQuestion 4 (some .boolean)) (by decide +kernel)), by decide +kernel, by decide⟩, (tb_t (k := 903) (w := Cond.static yX11_isQuestion) (by decide +kernel))⟩
theorem kX11_246 : lkK (gS, X) RX11 246 mX11_answer 4 ∧ Cond.instanceMethod yX11_answer ∈ g_ws (gS, X) ∧ Cond.selects RX11 yX11_answer yX11_answer ∈ g_ws (gS, X) ∧ yX11_answer.cls = RX11 := ⟨⟨tb_good, (tb_t (k := 905) (w := Cond.methodLink RX11 246 yX11_answer) (by decide +kernel)), (tb_t (k := 1) (w := Cond.initialized RX11) (by decide +kernel)), (tb_t (k := 908) (w := Cond.code yX11_answer cX11_answer 5 (some .long)) (by decide +kernel)), by decide +kernel, by decide⟩, (tb_t (k := 907) (w := Cond.instanceMethod yX11_answer) (by decide +kernel)), (tb_p (k := 47) (q := (yX11_answer, 10)) (by decide +kernel)), rfl⟩
theorem dX11_sort_0 : decode cX11_sort 0 = .ok (.aload_n 0, 1) := by decide +kernel
theorem dX11_sort_1 : decode cX11_sort 1 = .ok (.iconst 0, 1) := by decide +kernel
theorem dX11_sort_2 : decode cX11_sort 2 = .ok (.putfield 19, 3) := by decide +kernel
theorem dX11_sort_5 : decode cX11_sort 5 = .ok (.aload_n 0, 1) := by decide +kernel
theorem dX11_sort_6 : decode cX11_sort 6 = .ok (.iload_n 1, 1) := by decide +kernel
theorem dX11_sort_7 : decode cX11_sort 7 = .ok (.invokevirtual 199, 3) := by decide +kernel
theorem dX11_sort_10 : decode cX11_sort 10 = .ok (.astore_n 2, 1) := by decide +kernel
theorem dX11_sort_11 : decode cX11_sort 11 = .ok (.aload_n 2, 1) := by decide +kernel
theorem dX11_sort_12 : decode cX11_sort 12 = .ok (.ifnonnull 11, 3) := by decide +kernel
theorem dX11_sort_15 : decode cX11_sort 15 = .ok (.aload_n 0, 1) := by decide +kernel
theorem dX11_sort_16 : decode cX11_sort 16 = .ok (.iconst (-1), 1) := by decide +kernel
theorem dX11_sort_17 : decode cX11_sort 17 = .ok (.invokevirtual 203, 3) := by decide +kernel
theorem dX11_sort_20 : decode cX11_sort 20 = .ok (.goto 7, 3) := by decide +kernel
theorem dX11_sort_23 : decode cX11_sort 23 = .ok (.aload_n 2, 1) := by decide +kernel
theorem dX11_sort_24 : decode cX11_sort 24 = .ok (.invokevirtual 206, 3) := by decide +kernel
theorem dX11_sort_27 : decode cX11_sort 27 = .ok (.ireturn, 1) := by decide +kernel
theorem dX11_begin_0 : decode cX11_begin 0 = .ok (.aload_n 0, 1) := by decide +kernel
theorem dX11_begin_1 : decode cX11_begin 1 = .ok (.iconst 0, 1) := by decide +kernel
theorem dX11_begin_2 : decode cX11_begin 2 = .ok (.putfield 19, 3) := by decide +kernel
theorem dX11_begin_5 : decode cX11_begin 5 = .ok (.iload_n 1, 1) := by decide +kernel
theorem dX11_begin_6 : decode cX11_begin 6 = .ok (.iconst 1, 1) := by decide +kernel
theorem dX11_begin_7 : decode cX11_begin 7 = .ok (.if_icmp .lt 9, 3) := by decide +kernel
theorem dX11_begin_10 : decode cX11_begin 10 = .ok (.iload_n 1, 1) := by decide +kernel
theorem dX11_begin_11 : decode cX11_begin 11 = .ok (.bipush 16, 2) := by decide +kernel
theorem dX11_begin_13 : decode cX11_begin 13 = .ok (.if_icmp .le 11, 3) := by decide +kernel
theorem dX11_begin_16 : decode cX11_begin 16 = .ok (.aload_n 0, 1) := by decide +kernel
theorem dX11_begin_17 : decode cX11_begin 17 = .ok (.bipush (-3), 2) := by decide +kernel
theorem dX11_begin_19 : decode cX11_begin 19 = .ok (.putfield 19, 3) := by decide +kernel
theorem dX11_begin_22 : decode cX11_begin 22 = .ok (.iconst 0, 1) := by decide +kernel
theorem dX11_begin_23 : decode cX11_begin 23 = .ok (.ireturn, 1) := by decide +kernel
theorem dX11_begin_24 : decode cX11_begin 24 = .ok (.aload_n 0, 1) := by decide +kernel
theorem dX11_begin_25 : decode cX11_begin 25 = .ok (.getfield 25, 3) := by decide +kernel
theorem dX11_begin_28 : decode cX11_begin 28 = .ok (.iload_n 1, 1) := by decide +kernel
theorem dX11_begin_29 : decode cX11_begin 29 = .ok (.iload_n 2, 1) := by decide +kernel
theorem dX11_begin_30 : decode cX11_begin 30 = .ok (.invokevirtual 67, 3) := by decide +kernel
theorem dX11_begin_33 : decode cX11_begin 33 = .ok (.iconst 1, 1) := by decide +kernel
theorem dX11_begin_34 : decode cX11_begin 34 = .ok (.ireturn, 1) := by decide +kernel
theorem kX11_67 : lkK (gS, X) RX11 67 mX1_restart 2 ∧ Cond.instanceMethod yX1_restart ∈ g_ws (gS, X) ∧ Cond.selects RX1 yX1_restart yX1_restart ∈ g_ws (gS, X) ∧ yX1_restart.cls = RX1 := ⟨⟨tb_good, (tb_t (k := 218) (w := Cond.methodLink RX11 67 yX1_restart) (by decide +kernel)), (tb_t (k := 2) (w := Cond.initialized RX1) (by decide +kernel)), (tb_t (k := 221) (w := Cond.code yX1_restart cX1_restart 3 none) (by decide +kernel)), by decide +kernel, by decide⟩, (tb_t (k := 219) (w := Cond.instanceMethod yX1_restart) (by decide +kernel)), (tb_t (k := 220) (w := Cond.selects RX1 yX1_restart yX1_restart) (by decide +kernel)), rfl⟩
theorem dX11_arc_0 : decode cX11_arc 0 = .ok (.aload_n 0, 1) := by decide +kernel
theorem dX11_arc_1 : decode cX11_arc 1 = .ok (.iconst 0, 1) := by decide +kernel
theorem dX11_arc_2 : decode cX11_arc 2 = .ok (.putfield 19, 3) := by decide +kernel
theorem dX11_arc_5 : decode cX11_arc 5 = .ok (.iload_n 1, 1) := by decide +kernel
theorem dX11_arc_6 : decode cX11_arc 6 = .ok (.aload_n 0, 1) := by decide +kernel
theorem dX11_arc_7 : decode cX11_arc 7 = .ok (.getfield 25, 3) := by decide +kernel
theorem dX11_arc_10 : decode cX11_arc 10 = .ok (.getfield 71, 3) := by decide +kernel
theorem dX11_arc_13 : decode cX11_arc 13 = .ok (.invokestatic 74, 3) := by decide +kernel
theorem dX11_arc_16 : decode cX11_arc 16 = .ok (.ifCond .eq 32, 3) := by decide +kernel
theorem dX11_arc_19 : decode cX11_arc 19 = .ok (.iload_n 2, 1) := by decide +kernel
theorem dX11_arc_20 : decode cX11_arc 20 = .ok (.aload_n 0, 1) := by decide +kernel
theorem dX11_arc_21 : decode cX11_arc 21 = .ok (.getfield 25, 3) := by decide +kernel
theorem dX11_arc_24 : decode cX11_arc 24 = .ok (.getfield 71, 3) := by decide +kernel
theorem dX11_arc_27 : decode cX11_arc 27 = .ok (.invokestatic 74, 3) := by decide +kernel
theorem dX11_arc_30 : decode cX11_arc 30 = .ok (.ifCond .eq 18, 3) := by decide +kernel
theorem dX11_arc_33 : decode cX11_arc 33 = .ok (.iload_n 3, 1) := by decide +kernel
theorem dX11_arc_34 : decode cX11_arc 34 = .ok (.invokestatic 78, 3) := by decide +kernel
theorem dX11_arc_37 : decode cX11_arc 37 = .ok (.ifCond .eq 11, 3) := by decide +kernel
theorem dX11_arc_40 : decode cX11_arc 40 = .ok (.iload 4, 2) := by decide +kernel
theorem dX11_arc_42 : decode cX11_arc 42 = .ok (.invokestatic 78, 3) := by decide +kernel
theorem dX11_arc_45 : decode cX11_arc 45 = .ok (.ifCond .ne 10, 3) := by decide +kernel
theorem dX11_arc_48 : decode cX11_arc 48 = .ok (.aload_n 0, 1) := by decide +kernel
theorem dX11_arc_49 : decode cX11_arc 49 = .ok (.bipush (-3), 2) := by decide +kernel
theorem dX11_arc_51 : decode cX11_arc 51 = .ok (.invokevirtual 82, 3) := by decide +kernel
theorem dX11_arc_54 : decode cX11_arc 54 = .ok (.ireturn, 1) := by decide +kernel
theorem dX11_arc_55 : decode cX11_arc 55 = .ok (.aload_n 0, 1) := by decide +kernel
theorem dX11_arc_56 : decode cX11_arc 56 = .ok (.getfield 25, 3) := by decide +kernel
theorem dX11_arc_59 : decode cX11_arc 59 = .ok (.getfield 86, 3) := by decide +kernel
theorem dX11_arc_62 : decode cX11_arc 62 = .ok (.istore 5, 2) := by decide +kernel
theorem dX11_arc_64 : decode cX11_arc 64 = .ok (.aload_n 0, 1) := by decide +kernel
theorem dX11_arc_65 : decode cX11_arc 65 = .ok (.getfield 25, 3) := by decide +kernel
theorem dX11_arc_68 : decode cX11_arc 68 = .ok (.iload_n 1, 1) := by decide +kernel
theorem dX11_arc_69 : decode cX11_arc 69 = .ok (.iload_n 2, 1) := by decide +kernel
theorem dX11_arc_70 : decode cX11_arc 70 = .ok (.iload_n 3, 1) := by decide +kernel
theorem dX11_arc_71 : decode cX11_arc 71 = .ok (.iload 4, 2) := by decide +kernel
theorem dX11_arc_73 : decode cX11_arc 73 = .ok (.invokevirtual 89, 3) := by decide +kernel
theorem dX11_arc_76 : decode cX11_arc 76 = .ok (.ifCond .eq 8, 3) := by decide +kernel
theorem dX11_arc_79 : decode cX11_arc 79 = .ok (.iload 5, 2) := by decide +kernel
theorem dX11_arc_81 : decode cX11_arc 81 = .ok (.goto 9, 3) := by decide +kernel
theorem dX11_arc_84 : decode cX11_arc 84 = .ok (.aload_n 0, 1) := by decide +kernel
theorem dX11_arc_85 : decode cX11_arc 85 = .ok (.bipush (-4), 2) := by decide +kernel
theorem dX11_arc_87 : decode cX11_arc 87 = .ok (.invokevirtual 82, 3) := by decide +kernel
theorem dX11_arc_90 : decode cX11_arc 90 = .ok (.ireturn, 1) := by decide +kernel
theorem fX11_71 : lkF (gS, X) RX11 71 1 0 "GraphEngine$Draft" RX1 TX1 8 := ⟨rfl, inX1, by decide, (tb_t (k := 36) (w := Cond.fieldLink RX11 71 "GraphEngine$Draft" "nodes" "I") (by decide +kernel)), Or.inl rfl⟩
theorem kX11_78 : lkK (gS, X) RX11 78 mX11_isWeight 1 ∧ Cond.static yX11_isWeight ∈ g_ws (gS, X) := ⟨⟨tb_good, (tb_t (k := 229) (w := Cond.methodLink RX11 78 yX11_isWeight) (by decide +kernel)), (tb_t (k := 1) (w := Cond.initialized RX11) (by decide +kernel)), (tb_t (k := 231) (w := Cond.code yX11_isWeight cX11_isWeight 1 (some .boolean)) (by decide +kernel)), by decide +kernel, by decide⟩, (tb_t (k := 230) (w := Cond.static yX11_isWeight) (by decide +kernel))⟩
theorem fX11_86 : lkF (gS, X) RX11 86 1 2 "GraphEngine$Draft" RX1 TX1 8 := ⟨rfl, inX1, by decide, (tb_t (k := 41) (w := Cond.fieldLink RX11 86 "GraphEngine$Draft" "arcs" "I") (by decide +kernel)), Or.inl rfl⟩
theorem kX11_89 : lkK (gS, X) RX11 89 mX1_add 4 ∧ Cond.instanceMethod yX1_add ∈ g_ws (gS, X) ∧ Cond.selects RX1 yX1_add yX1_add ∈ g_ws (gS, X) ∧ yX1_add.cls = RX1 := ⟨⟨tb_good, (tb_t (k := 236) (w := Cond.methodLink RX11 89 yX1_add) (by decide +kernel)), (tb_t (k := 2) (w := Cond.initialized RX1) (by decide +kernel)), (tb_t (k := 239) (w := Cond.code yX1_add cX1_add 6 (some .boolean)) (by decide +kernel)), by decide +kernel, by decide⟩, (tb_t (k := 237) (w := Cond.instanceMethod yX1_add) (by decide +kernel)), (tb_t (k := 238) (w := Cond.selects RX1 yX1_add yX1_add) (by decide +kernel)), rfl⟩
theorem dX11_graph_0 : decode cX11_graph 0 = .ok (.aload_n 0, 1) := by decide +kernel
theorem dX11_graph_1 : decode cX11_graph 1 = .ok (.iconst 0, 1) := by decide +kernel
theorem dX11_graph_2 : decode cX11_graph 2 = .ok (.putfield 19, 3) := by decide +kernel
theorem dX11_graph_5 : decode cX11_graph 5 = .ok (.aload_n 0, 1) := by decide +kernel
theorem dX11_graph_6 : decode cX11_graph 6 = .ok (.invokevirtual 93, 3) := by decide +kernel
theorem dX11_graph_9 : decode cX11_graph 9 = .ok (.ifCond .eq 12, 3) := by decide +kernel
theorem dX11_graph_12 : decode cX11_graph 12 = .ok (.aload_n 0, 1) := by decide +kernel
theorem dX11_graph_13 : decode cX11_graph 13 = .ok (.bipush (-4), 2) := by decide +kernel
theorem dX11_graph_15 : decode cX11_graph 15 = .ok (.invokevirtual 82, 3) := by decide +kernel
theorem dX11_graph_18 : decode cX11_graph 18 = .ok (.goto 18, 3) := by decide +kernel
theorem dX11_graph_21 : decode cX11_graph 21 = .ok (.aload_n 0, 1) := by decide +kernel
theorem dX11_graph_22 : decode cX11_graph 22 = .ok (.new 97, 3) := by decide +kernel
theorem dX11_graph_25 : decode cX11_graph 25 = .ok (.dup, 1) := by decide +kernel
theorem dX11_graph_26 : decode cX11_graph 26 = .ok (.aload_n 0, 1) := by decide +kernel
theorem dX11_graph_27 : decode cX11_graph 27 = .ok (.getfield 25, 3) := by decide +kernel
theorem dX11_graph_30 : decode cX11_graph 30 = .ok (.invokespecial 99, 3) := by decide +kernel
theorem dX11_graph_33 : decode cX11_graph 33 = .ok (.invokevirtual 102, 3) := by decide +kernel
theorem dX11_graph_36 : decode cX11_graph 36 = .ok (.ireturn, 1) := by decide +kernel
theorem dX11_flat_0 : decode cX11_flat 0 = .ok (.aload_n 0, 1) := by decide +kernel
theorem dX11_flat_1 : decode cX11_flat 1 = .ok (.iconst 0, 1) := by decide +kernel
theorem dX11_flat_2 : decode cX11_flat 2 = .ok (.putfield 19, 3) := by decide +kernel
theorem dX11_flat_5 : decode cX11_flat 5 = .ok (.iload_n 1, 1) := by decide +kernel
theorem dX11_flat_6 : decode cX11_flat 6 = .ok (.iconst 1, 1) := by decide +kernel
theorem dX11_flat_7 : decode cX11_flat 7 = .ok (.if_icmp .lt 21, 3) := by decide +kernel
theorem dX11_flat_10 : decode cX11_flat 10 = .ok (.iload_n 1, 1) := by decide +kernel
theorem dX11_flat_11 : decode cX11_flat 11 = .ok (.bipush 16, 2) := by decide +kernel
theorem dX11_flat_13 : decode cX11_flat 13 = .ok (.if_icmp .gt 15, 3) := by decide +kernel
theorem dX11_flat_16 : decode cX11_flat 16 = .ok (.iload 4, 2) := by decide +kernel
theorem dX11_flat_18 : decode cX11_flat 18 = .ok (.iconst (-1), 1) := by decide +kernel
theorem dX11_flat_19 : decode cX11_flat 19 = .ok (.if_icmp .lt 9, 3) := by decide +kernel
theorem dX11_flat_22 : decode cX11_flat 22 = .ok (.iload 4, 2) := by decide +kernel
theorem dX11_flat_24 : decode cX11_flat 24 = .ok (.iload_n 1, 1) := by decide +kernel
theorem dX11_flat_25 : decode cX11_flat 25 = .ok (.if_icmp .lt 10, 3) := by decide +kernel
theorem dX11_flat_28 : decode cX11_flat 28 = .ok (.aload_n 0, 1) := by decide +kernel
theorem dX11_flat_29 : decode cX11_flat 29 = .ok (.bipush (-3), 2) := by decide +kernel
theorem dX11_flat_31 : decode cX11_flat 31 = .ok (.invokevirtual 82, 3) := by decide +kernel
theorem dX11_flat_34 : decode cX11_flat 34 = .ok (.ireturn, 1) := by decide +kernel
theorem dX11_flat_35 : decode cX11_flat 35 = .ok (.aload_n 0, 1) := by decide +kernel
theorem dX11_flat_36 : decode cX11_flat 36 = .ok (.invokevirtual 93, 3) := by decide +kernel
theorem dX11_flat_39 : decode cX11_flat 39 = .ok (.ifCond .eq 10, 3) := by decide +kernel
theorem dX11_flat_42 : decode cX11_flat 42 = .ok (.aload_n 0, 1) := by decide +kernel
theorem dX11_flat_43 : decode cX11_flat 43 = .ok (.bipush (-4), 2) := by decide +kernel
theorem dX11_flat_45 : decode cX11_flat 45 = .ok (.invokevirtual 82, 3) := by decide +kernel
theorem dX11_flat_48 : decode cX11_flat 48 = .ok (.ireturn, 1) := by decide +kernel
theorem dX11_flat_49 : decode cX11_flat 49 = .ok (.new 151, 3) := by decide +kernel
theorem dX11_flat_52 : decode cX11_flat 52 = .ok (.dup, 1) := by decide +kernel
theorem dX11_flat_53 : decode cX11_flat 53 = .ok (.iload_n 1, 1) := by decide +kernel
theorem dX11_flat_54 : decode cX11_flat 54 = .ok (.invokespecial 153, 3) := by decide +kernel
theorem dX11_flat_57 : decode cX11_flat 57 = .ok (.astore 7, 2) := by decide +kernel
theorem dX11_flat_59 : decode cX11_flat 59 = .ok (.aload 7, 2) := by decide +kernel
theorem dX11_flat_61 : decode cX11_flat 61 = .ok (.getfield 160, 3) := by decide +kernel
theorem dX11_flat_64 : decode cX11_flat 64 = .ok (.lload_n 2, 1) := by decide +kernel
theorem dX11_flat_65 : decode cX11_flat 65 = .ok (.invokestatic 164, 3) := by decide +kernel
theorem dX11_flat_68 : decode cX11_flat 68 = .ok (.iload 4, 2) := by decide +kernel
theorem dX11_flat_70 : decode cX11_flat 70 = .ok (.ifCond .lt 13, 3) := by decide +kernel
theorem dX11_flat_73 : decode cX11_flat 73 = .ok (.aload 7, 2) := by decide +kernel
theorem dX11_flat_75 : decode cX11_flat 75 = .ok (.getfield 160, 3) := by decide +kernel
theorem dX11_flat_78 : decode cX11_flat 78 = .ok (.iload 4, 2) := by decide +kernel
theorem dX11_flat_80 : decode cX11_flat 80 = .ok (.lload 5, 2) := by decide +kernel
theorem dX11_flat_82 : decode cX11_flat 82 = .ok (.lastore, 1) := by decide +kernel
theorem dX11_flat_83 : decode cX11_flat 83 = .ok (.aload_n 0, 1) := by decide +kernel
theorem dX11_flat_84 : decode cX11_flat 84 = .ok (.aload 7, 2) := by decide +kernel
theorem dX11_flat_86 : decode cX11_flat 86 = .ok (.invokevirtual 102, 3) := by decide +kernel
theorem dX11_flat_89 : decode cX11_flat 89 = .ok (.ireturn, 1) := by decide +kernel
theorem kX11_164 : lkK (gS, X) RX11 164 mJ7_fill_d0a16 2 ∧ Cond.static yJ7_fill_d0a16 ∈ g_ws (gS, X) := ⟨⟨tb_good, (tb_t (k := 584) (w := Cond.methodLink RX11 164 yJ7_fill_d0a16) (by decide +kernel)), (tb_t (k := 11) (w := Cond.initialized RJ7) (by decide +kernel)), (tb_t (k := 565) (w := Cond.code yJ7_fill_d0a16 cJ7_fill_d0a16 5 none) (by decide +kernel)), by decide +kernel, by decide⟩, (tb_t (k := 564) (w := Cond.static yJ7_fill_d0a16) (by decide +kernel))⟩
theorem dX11_drop_0 : decode cX11_drop 0 = .ok (.aload_n 0, 1) := by decide +kernel
theorem dX11_drop_1 : decode cX11_drop 1 = .ok (.iconst 0, 1) := by decide +kernel
theorem dX11_drop_2 : decode cX11_drop 2 = .ok (.putfield 19, 3) := by decide +kernel
theorem dX11_drop_5 : decode cX11_drop 5 = .ok (.aload_n 0, 1) := by decide +kernel
theorem dX11_drop_6 : decode cX11_drop 6 = .ok (.getfield 15, 3) := by decide +kernel
theorem dX11_drop_9 : decode cX11_drop 9 = .ok (.ifCond .gt 9, 3) := by decide +kernel
theorem dX11_drop_12 : decode cX11_drop 12 = .ok (.aload_n 0, 1) := by decide +kernel
theorem dX11_drop_13 : decode cX11_drop 13 = .ok (.iconst (-1), 1) := by decide +kernel
theorem dX11_drop_14 : decode cX11_drop 14 = .ok (.invokevirtual 82, 3) := by decide +kernel
theorem dX11_drop_17 : decode cX11_drop 17 = .ok (.ireturn, 1) := by decide +kernel
theorem dX11_drop_18 : decode cX11_drop 18 = .ok (.aload_n 0, 1) := by decide +kernel
theorem dX11_drop_19 : decode cX11_drop 19 = .ok (.dup, 1) := by decide +kernel
theorem dX11_drop_20 : decode cX11_drop 20 = .ok (.getfield 15, 3) := by decide +kernel
theorem dX11_drop_23 : decode cX11_drop 23 = .ok (.iconst 1, 1) := by decide +kernel
theorem dX11_drop_24 : decode cX11_drop 24 = .ok (.isub, 1) := by decide +kernel
theorem dX11_drop_25 : decode cX11_drop 25 = .ok (.putfield 15, 3) := by decide +kernel
theorem dX11_drop_28 : decode cX11_drop 28 = .ok (.aload_n 0, 1) := by decide +kernel
theorem dX11_drop_29 : decode cX11_drop 29 = .ok (.getfield 11, 3) := by decide +kernel
theorem dX11_drop_32 : decode cX11_drop 32 = .ok (.aload_n 0, 1) := by decide +kernel
theorem dX11_drop_33 : decode cX11_drop 33 = .ok (.getfield 15, 3) := by decide +kernel
theorem dX11_drop_36 : decode cX11_drop 36 = .ok (.aconst_null, 1) := by decide +kernel
theorem dX11_drop_37 : decode cX11_drop 37 = .ok (.aastore, 1) := by decide +kernel
theorem dX11_drop_38 : decode cX11_drop 38 = .ok (.aload_n 0, 1) := by decide +kernel
theorem dX11_drop_39 : decode cX11_drop 39 = .ok (.getfield 15, 3) := by decide +kernel
theorem dX11_drop_42 : decode cX11_drop 42 = .ok (.ireturn, 1) := by decide +kernel
theorem dX11_refused_0 : decode cX11_refused 0 = .ok (.aload_n 0, 1) := by decide +kernel
theorem dX11_refused_1 : decode cX11_refused 1 = .ok (.getfield 19, 3) := by decide +kernel
theorem dX11_refused_4 : decode cX11_refused 4 = .ok (.ireturn, 1) := by decide +kernel
theorem dX11_handles_0 : decode cX11_handles 0 = .ok (.aload_n 0, 1) := by decide +kernel
theorem dX11_handles_1 : decode cX11_handles 1 = .ok (.iconst 0, 1) := by decide +kernel
theorem dX11_handles_2 : decode cX11_handles 2 = .ok (.putfield 19, 3) := by decide +kernel
theorem dX11_handles_5 : decode cX11_handles 5 = .ok (.aload_n 0, 1) := by decide +kernel
theorem dX11_handles_6 : decode cX11_handles 6 = .ok (.getfield 15, 3) := by decide +kernel
theorem dX11_handles_9 : decode cX11_handles 9 = .ok (.ireturn, 1) := by decide +kernel
theorem dX9_init_0 : decode cX9_init 0 = .ok (.aload_n 0, 1) := by decide +kernel
theorem dX9_init_1 : decode cX9_init 1 = .ok (.invokespecial 1, 3) := by decide +kernel
theorem dX9_init_4 : decode cX9_init 4 = .ok (.aload_n 0, 1) := by decide +kernel
theorem dX9_init_5 : decode cX9_init 5 = .ok (.iload_n 1, 1) := by decide +kernel
theorem dX9_init_6 : decode cX9_init 6 = .ok (.putfield 7, 3) := by decide +kernel
theorem dX9_init_9 : decode cX9_init 9 = .ok (.return_, 1) := by decide +kernel
theorem kX9_1 : Cond.methodLink RX9 1 objectInit ∈ g_ws (gS, X) ∧ Cond.instanceMethod objectInit ∈ g_ws (gS, X) ∧ Cond.code objectInit ⟨#[0xb1]⟩ 1 none ∈ g_ws (gS, X) := ⟨(tb_t (k := 256) (w := Cond.methodLink RX9 1 objectInit) (by decide +kernel)), (tb_t (k := 24) (w := Cond.instanceMethod objectInit) (by decide +kernel)), (tb_t (k := 25) (w := Cond.code objectInit ⟨#[0xb1]⟩ 1 none) (by decide +kernel))⟩
theorem fX9_7_X0 : lkF (gS, X) RX9 7 0 0 "GraphEngine$Thing" RX0 TX0 2 := ⟨rfl, inX0, by decide, (tb_t (k := 353) (w := Cond.fieldLink RX9 7 "GraphEngine$Thing" "nodes" "I") (by decide +kernel)), Or.inl rfl⟩
theorem fX9_7_X3 : lkF (gS, X) RX9 7 3 0 "GraphEngine$Thing" RX3 TX3 14 := ⟨rfl, inX3, by decide, (tb_t (k := 353) (w := Cond.fieldLink RX9 7 "GraphEngine$Thing" "nodes" "I") (by decide +kernel)), Or.inl rfl⟩
theorem fX9_7_X5 : lkF (gS, X) RX9 7 5 0 "GraphEngine$Thing" RX5 TX5 4 := ⟨rfl, inX5, by decide, (tb_t (k := 353) (w := Cond.fieldLink RX9 7 "GraphEngine$Thing" "nodes" "I") (by decide +kernel)), Or.inl rfl⟩
theorem fX9_7_X10 : lkF (gS, X) RX9 7 9 0 "GraphEngine$Thing" RX10 TX10 6 := ⟨rfl, inX10, by decide, (tb_t (k := 353) (w := Cond.fieldLink RX9 7 "GraphEngine$Thing" "nodes" "I") (by decide +kernel)), Or.inl rfl⟩
theorem dX0_init_0 : decode cX0_init 0 = .ok (.aload_n 0, 1) := by decide +kernel
theorem dX0_init_1 : decode cX0_init 1 = .ok (.iload_n 1, 1) := by decide +kernel
theorem dX0_init_2 : decode cX0_init 2 = .ok (.invokespecial 3, 3) := by decide +kernel
theorem dX0_init_5 : decode cX0_init 5 = .ok (.aload_n 0, 1) := by decide +kernel
theorem dX0_init_6 : decode cX0_init 6 = .ok (.iload_n 1, 1) := by decide +kernel
theorem dX0_init_7 : decode cX0_init 7 = .ok (.newarray .long, 2) := by decide +kernel
theorem dX0_init_9 : decode cX0_init 9 = .ok (.putfield 9, 3) := by decide +kernel
theorem dX0_init_12 : decode cX0_init 12 = .ok (.return_, 1) := by decide +kernel
theorem kX0_3 : lkK (gS, X) RX0 3 mX9_init 1 ∧ Cond.instanceMethod yX9_init ∈ g_ws (gS, X) ∧ yX9_init.name = "<init>" ∧ mX9_init.2.2.2 = none := ⟨⟨tb_good, (tb_t (k := 529) (w := Cond.methodLink RX0 3 yX9_init) (by decide +kernel)), (tb_t (k := 9) (w := Cond.initialized RX9) (by decide +kernel)), (tb_t (k := 255) (w := Cond.code yX9_init cX9_init 2 none) (by decide +kernel)), by decide +kernel, by decide⟩, (tb_t (k := 254) (w := Cond.instanceMethod yX9_init) (by decide +kernel)), rfl, rfl⟩
theorem fX0_9 : lkF (gS, X) RX0 9 0 1 "GraphEngine$Column" RX0 TX0 2 := ⟨rfl, inX0, by decide, (tb_t (k := 530) (w := Cond.fieldLink RX0 9 "GraphEngine$Column" "numbers" "[J") (by decide +kernel)), Or.inl rfl⟩
end NM
