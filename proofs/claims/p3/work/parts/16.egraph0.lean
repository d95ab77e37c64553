set_option maxHeartbeats 4000000 in
set_option maxRecDepth 100000 in
theorem c_copyOf_lt {D : va_G} {cI cJ cZ cT : ClassId} {lo b L : Nat} {xs : Nat → Int32} {hp : MH} {n d : Nat} {a N m : Nat} {f : Nat → Int32} (hd0 : 1 ≤ d) (gc0 : hp a = some (.inl (cI, N, .inl (f)))) (hN : N ≤ 1000) (hm : m < N) : Mt (gG D cI cJ cZ cT lo b L xs) mJ7_copyOf_59c91 d 1 m [.ref a, .int ((nI m))] hp n (fun r hp1 n1 => r = some (.ref n) ∧ n1 = n + 1 ∧ hp1 n = some (.inl (cI, m, .inl (va_cpy f (fun _ => 0) 0 0 m))) ∧ ∀ (q : Nat) (e9 : va_E), hp q = some e9 → hp1 q = some e9) := by
  refine Mt.of rfl (Nat.le_of_ble_eq_true rfl) ?_
  refine Rn.pick (lv' := [(0, .ref a), (1, .int ((nI m)))]) [0, 1] rfl ?_
  refine Rn.bd (fun bd => ?_)
  have l_a := bd _ _ gc0
  refine r_iload_n (pc := 0) dJ7_copyOf_59c91_0 (i := 1) rfl rfl ?_
  refine r_aload_n (pc := 1) dJ7_copyOf_59c91_1 (i := 0) rfl rfl ?_
  refine r_alen (pc := 2) (t0 := 0) dJ7_copyOf_59c91_2 rfl gc0 ?_
  refine r_icmp_ne (pc := 3) (tgt := 14) dJ7_copyOf_59c91_3 (by decide) (fun _ => ?_) (fun c9 => absurd (fun h9 => absurd ((nI_eq (by omega) (by omega)).mp h9) (by omega)) c9)
  refine r_iload_n (pc := 14) dJ7_copyOf_59c91_14 (i := 1) rfl rfl ?_
  refine w_newi (pc := 15) (t0 := 0) (N := m) dJ7_copyOf_59c91_15 (tb_t (k := 68) (w := Cond.arrayClass .int) (by decide +kernel)) rfl (rfl) (by omega) (by omega) (by omega) (fun hp_1 h_2 hk_3 ho_4 => ?_)
  refine r_astore_n (pc := 17) (lv' := [(2, .ref n), (0, .ref a), (1, .int ((nI m)))]) dJ7_copyOf_59c91_17 (i := 2) rfl (by decide) rfl ?_
  refine r_aload_n (pc := 18) dJ7_copyOf_59c91_18 (i := 0) rfl rfl ?_
  refine r_iconst (pc := 19) (v := 0) dJ7_copyOf_59c91_19 (by decide) ?_
  refine r_aload_n (pc := 20) dJ7_copyOf_59c91_20 (i := 2) rfl rfl ?_
  refine r_iconst (pc := 21) (v := 0) dJ7_copyOf_59c91_21 (by decide) ?_
  refine r_aload_n (pc := 22) dJ7_copyOf_59c91_22 (i := 0) rfl rfl ?_
  have h_5 : hp_1 a = some (.inl (cI, N, .inl (f))) := (hk_3 a _ gc0)
  refine r_alen (pc := 23) (t0 := 0) dJ7_copyOf_59c91_23 rfl h_5 ?_
  refine r_iload_n (pc := 24) dJ7_copyOf_59c91_24 (i := 1) rfl rfl ?_
  refine r_mmin (pc := 25) (v := (nI m)) qJ7_304 dJ7_copyOf_59c91_25 (Nat.le_of_ble_eq_true rfl) (if_pos (nI_lt (by omega) (by omega))) ?_
  refine w_copyi (pc := 28) (t0 := 0) (t1 := 0) (s0 := 0) (d0 := 0) (N := m) (g' := va_cpy (f) (fun _ => 0) 0 0 m) aJ7_150 dJ7_copyOf_59c91_28 rfl rfl h_5 h_2 rfl rfl rfl (by omega) (by omega) (by omega) (by omega) (Nat.le_of_ble_eq_true rfl) (rfl) (fun hp_6 h_7 ho_8 => ?_)
  refine r_aload_n (pc := 31) dJ7_copyOf_59c91_31 (i := 2) rfl rfl ?_
  exact r_aret (pc := 32) dJ7_copyOf_59c91_32 rfl (Or.inr ⟨_, rfl⟩) (⟨rfl, rfl, h_7, fun q e9 h9 => have l9 := bd q e9 h9; ((ho_8 q (ne_an l9 0)).trans (hk_3 q e9 h9))⟩)
set_option maxHeartbeats 4000000 in
set_option maxRecDepth 100000 in
theorem c_X9_init_X3 {D : va_G} {cI cJ cZ cT : ClassId} {lo b L : Nat} {xs : Nat → Int32} {hp : MH} {n d : Nat} {a : Nat} {x0 p1 : Int32} {v1 v2 v3 v4 v5 v6 v7 v8 v9 v10 v11 v12 v13 : Value} (hd0 : 0 ≤ d) (gc0 : hp a = some (.inr (3, [.int x0, v1, v2, v3, v4, v5, v6, v7, v8, v9, v10, v11, v12, v13]))) : Mt (gG D cI cJ cZ cT lo b L xs) mX9_init d 0 0 [.ref a, .int p1] hp n (fun r hp1 n1 => r = none ∧ n1 = n ∧ hp1 a = some (.inr (3, [.int p1, v1, v2, v3, v4, v5, v6, v7, v8, v9, v10, v11, v12, v13])) ∧ ∀ (q : Nat) (e9 : va_E), hp q = some e9 → q ≠ a → hp1 q = some e9) := by
  refine Mt.of rfl (Nat.le_of_ble_eq_true rfl) ?_
  refine Rn.pick (lv' := [(0, .ref a), (1, .int p1)]) [0, 1] rfl ?_
  refine r_aload_n (pc := 0) dX9_init_0 (i := 0) rfl rfl ?_
  refine r_objInit (pc := 1) kX9_1 dX9_init_1 (Nat.le_of_ble_eq_true rfl) ?_
  refine r_aload_n (pc := 4) dX9_init_4 (i := 0) rfl rfl ?_
  refine r_iload_n (pc := 5) dX9_init_5 (i := 1) rfl rfl ?_
  refine w_put (pc := 6) (ty := .int) (fs' := [.int p1, v1, v2, v3, v4, v5, v6, v7, v8, v9, v10, v11, v12, v13]) fX9_7_X3 tyX3 tyX3_ok nmX3 (by decide +kernel) (Or.inr ⟨rfl, rfl, rfl⟩) dX9_init_6 gc0 (Nat.le_of_ble_eq_true rfl) (rfl) (rfl) rfl (fun hp_1 h_2 ho_3 => ?_)
  exact r_vret (pc := 9) dX9_init_9 rfl (⟨rfl, rfl, h_2, fun q e9 h9 n9_0 => ((ho_3 q n9_0).trans h9)⟩)
set_option maxHeartbeats 4000000 in
set_option maxRecDepth 100000 in
theorem c_X3_countGoings_0 {D : va_G} {cI cJ cZ cT : ClassId} {lo b L : Nat} {xs : Nat → Int32} {hp : MH} {n d : Nat} {a af au aw ac al : Nat} {x0 x1 : Int32} (hd0 : 0 ≤ d) (gc0 : hp a = some (.inr (1, [.int x0, .int x1, .int 0, .ref af, .ref au, .ref aw, .ref ac, .ref al]))) : Mt (gG D cI cJ cZ cT lo b L xs) mX3_countGoings d 0 0 [.ref a] hp n (fun r hp1 n1 => r = some (.int 0) ∧ n1 = n ∧ ∀ (q : Nat) (e9 : va_E), hp q = some e9 → hp1 q = some e9) := by
  refine Mt.of rfl (Nat.le_of_ble_eq_true rfl) ?_
  refine Rn.pick (lv' := [(0, .ref a)]) [0] rfl ?_
  refine r_aload_n (pc := 0) dX3_countGoings_0 (i := 0) rfl rfl ?_
  refine r_get (pc := 1) (v := .int 0) fX3_22 dX3_countGoings_1 gc0 rfl ?_
  refine r_istore_n (pc := 4) (lv' := [(1, .int 0), (0, .ref a)]) dX3_countGoings_4 (i := 1) rfl (by decide) rfl ?_
  refine r_iconst (pc := 5) (v := 0) dX3_countGoings_5 (by decide) ?_
  refine r_istore_n (pc := 6) (lv' := [(2, .int 0), (1, .int 0), (0, .ref a)]) dX3_countGoings_6 (i := 2) rfl (by decide) rfl ?_
  refine r_iload_n (pc := 7) dX3_countGoings_7 (i := 2) rfl rfl ?_
  refine r_aload_n (pc := 8) dX3_countGoings_8 (i := 0) rfl rfl ?_
  refine r_get (pc := 9) (v := .int 0) fX3_22 dX3_countGoings_9 gc0 rfl ?_
  refine r_icmp_ge (pc := 12) (tgt := 46) dX3_countGoings_12 (by decide) (fun _ => ?_) (fun c9 => absurd (by decide) c9)
  refine r_iload_n (pc := 46) dX3_countGoings_46 (i := 1) rfl rfl ?_
  exact r_iret (pc := 47) dX3_countGoings_47 rfl (⟨rfl, rfl, fun q e9 h9 => h9⟩)
set_option maxHeartbeats 4000000 in
set_option maxRecDepth 100000 in
theorem c_X3_fillGoings_0 {D : va_G} {cI cJ cZ cT : ClassId} {lo b L : Nat} {xs : Nat → Int32} {hp : MH} {n d : Nat} {a r3 r4 r5 r6 r8 r9 r10 r11 r12 r13 : Nat} {x0 x1 : Int32} (hd0 : 0 ≤ d) (gc0 : hp a = some (.inr (3, [.int x0, .int x1, .int 0, .ref r3, .ref r4, .ref r5, .ref r6, .int 0, .ref r8, .ref r9, .ref r10, .ref r11, .ref r12, .ref r13]))) : Mt (gG D cI cJ cZ cT lo b L xs) mX3_fillGoings d 0 0 [.ref a] hp n (fun r hp1 n1 => r = none ∧ n1 = n ∧ ∀ (q : Nat) (e9 : va_E), hp q = some e9 → hp1 q = some e9) := by
  refine Mt.of rfl (Nat.le_of_ble_eq_true rfl) ?_
  refine Rn.pick (lv' := [(0, .ref a)]) [0] rfl ?_
  refine r_iconst (pc := 0) (v := 0) dX3_fillGoings_0 (by decide) ?_
  refine r_istore_n (pc := 1) (lv' := [(1, .int 0), (0, .ref a)]) dX3_fillGoings_1 (i := 1) rfl (by decide) rfl ?_
  refine r_iconst (pc := 2) (v := 0) dX3_fillGoings_2 (by decide) ?_
  refine r_istore_n (pc := 3) (lv' := [(2, .int 0), (1, .int 0), (0, .ref a)]) dX3_fillGoings_3 (i := 2) rfl (by decide) rfl ?_
  refine r_iload_n (pc := 4) dX3_fillGoings_4 (i := 2) rfl rfl ?_
  refine r_aload_n (pc := 5) dX3_fillGoings_5 (i := 0) rfl rfl ?_
  refine r_get (pc := 6) (v := .int 0) fX3_25 dX3_fillGoings_6 gc0 rfl ?_
  refine r_icmp_ge (pc := 9) (tgt := 108) dX3_fillGoings_9 (by decide) (fun _ => ?_) (fun c9 => absurd (by decide) c9)
  exact r_vret (pc := 108) dX3_fillGoings_108 rfl (⟨rfl, rfl, fun q e9 h9 => h9⟩)
set_option maxHeartbeats 4000000 in
set_option maxRecDepth 100000 in
theorem c_X3_fillNeighbours_0 {D : va_G} {cI cJ cZ cT : ClassId} {lo b L : Nat} {xs : Nat → Int32} {hp : MH} {n d : Nat} {a r3 r4 r5 r6 r8 r9 r10 r11 r12 r13 : Nat} {x0 x1 : Int32} (hd0 : 0 ≤ d) (gc0 : hp a = some (.inr (3, [.int x0, .int x1, .int 0, .ref r3, .ref r4, .ref r5, .ref r6, .int 0, .ref r8, .ref r9, .ref r10, .ref r11, .ref r12, .ref r13]))) : Mt (gG D cI cJ cZ cT lo b L xs) mX3_fillNeighbours d 0 0 [.ref a] hp n (fun r hp1 n1 => r = none ∧ n1 = n ∧ ∀ (q : Nat) (e9 : va_E), hp q = some e9 → hp1 q = some e9) := by
  refine Mt.of rfl (Nat.le_of_ble_eq_true rfl) ?_
  refine Rn.pick (lv' := [(0, .ref a)]) [0] rfl ?_
  refine r_iconst (pc := 0) (v := 0) dX3_fillNeighbours_0 (by decide) ?_
  refine r_istore_n (pc := 1) (lv' := [(1, .int 0), (0, .ref a)]) dX3_fillNeighbours_1 (i := 1) rfl (by decide) rfl ?_
  refine r_iload_n (pc := 2) dX3_fillNeighbours_2 (i := 1) rfl rfl ?_
  refine r_aload_n (pc := 3) dX3_fillNeighbours_3 (i := 0) rfl rfl ?_
  refine r_get (pc := 4) (v := .int 0) fX3_63 dX3_fillNeighbours_4 gc0 rfl ?_
  refine r_icmp_ge (pc := 7) (tgt := 83) dX3_fillNeighbours_7 (by decide) (fun _ => ?_) (fun c9 => absurd (by decide) c9)
  exact r_vret (pc := 83) dX3_fillNeighbours_83 rfl (⟨rfl, rfl, fun q e9 h9 => h9⟩)
set_option maxHeartbeats 4000000 in
set_option maxRecDepth 100000 in
theorem c_X3_init_0 {D : va_G} {cI cJ cZ cT : ClassId} {lo b L : Nat} {xs : Nat → Int32} {hp : MH} {n d : Nat} {a dr af au aw ac al N : Nat} {q : Bool} {f1 f2 f3 f4 : Nat → Int32} (hd0 : 2 ≤ d) (gc0 : hp a = some (.inr (3, [.int 0, .int 0, .int 0, .null, .null, .null, .null, .int 0, .null, .null, .null, .null, .null, .null]))) (gc1 : hp dr = some (.inr (1, [.int ((nI N)), .int ((bI q)), .int 0, .ref af, .ref au, .ref aw, .ref ac, .ref al]))) (gc2 : hp af = some (.inl (cI, 60, .inl (f1)))) (gc3 : hp au = some (.inl (cI, 60, .inl (f2)))) (gc4 : hp aw = some (.inl (cI, 60, .inl (f3)))) (gc5 : hp ac = some (.inl (cI, 60, .inl (f4)))) (hN : N ≤ 16) : Mt (gG D cI cJ cZ cT lo b L xs) mX3_init d 10 (0 + 0 + 0 + 0 + N + N + N + 0 + 0 + 0) [.ref a, .ref dr] hp n (fun r hp1 n1 => r = none ∧ n1 = n + 10 ∧ hp1 a = some (.inr (3, [.int ((nI N)), .int ((bI q)), .int 0, .ref n, .ref ((n + 1)), .ref ((n + 2)), .ref ((n + 3)), .int 0, .ref ((n + 7)), .ref ((n + 8)), .ref ((n + 9)), .ref ((n + 4)), .ref ((n + 5)), .ref ((n + 6))])) ∧ hp1 n = some (.inl (cI, 0, .inl (va_cpy f1 (fun _ => 0) 0 0 0))) ∧ hp1 (n + 1) = some (.inl (cI, 0, .inl (va_cpy f2 (fun _ => 0) 0 0 0))) ∧ hp1 (n + 2) = some (.inl (cI, 0, .inl (va_cpy f3 (fun _ => 0) 0 0 0))) ∧ hp1 (n + 3) = some (.inl (cI, 0, .inl (va_cpy f4 (fun _ => 0) 0 0 0))) ∧ hp1 (n + 4) = some (.inl (cI, N, .inl (fun _ => 0))) ∧ hp1 (n + 5) = some (.inl (cI, N, .inl (fun _ => 0))) ∧ hp1 (n + 6) = some (.inl (cI, N, .inl (fun _ => 0))) ∧ hp1 (n + 7) = some (.inl (cI, 0, .inl (fun _ => 0))) ∧ hp1 (n + 8) = some (.inl (cI, 0, .inl (fun _ => 0))) ∧ hp1 (n + 9) = some (.inl (cI, 0, .inl (fun _ => 0))) ∧ ∀ (q : Nat) (e9 : va_E), hp q = some e9 → q ≠ a → hp1 q = some e9) := by
  refine Mt.of rfl (Nat.le_of_ble_eq_true rfl) ?_
  refine Rn.pick (lv' := [(0, .ref a), (1, .ref dr)]) [0, 1] rfl ?_
  refine Rn.bd (fun bd => ?_)
  have l_a := bd _ _ gc0
  have l_dr := bd _ _ gc1
  have l_af := bd _ _ gc2
  have l_au := bd _ _ gc3
  have l_aw := bd _ _ gc4
  have l_ac := bd _ _ gc5
  refine r_aload_n (pc := 0) dX3_init_0 (i := 0) rfl rfl ?_
  refine r_aload_n (pc := 1) dX3_init_1 (i := 1) rfl rfl ?_
  refine r_get (pc := 2) (v := .int ((nI N))) fX3_3 dX3_init_2 gc1 rfl ?_
  refine r_callI (pc := 5) (as := [.int ((nI N))]) (st := []) kX3_9 dX3_init_5 (c_X9_init_X3 (d := d - 1) (a := a) (x0 := 0) (p1 := (nI N)) (v1 := .int 0) (v2 := .int 0) (v3 := .null) (v4 := .null) (v5 := .null) (v6 := .null) (v7 := .int 0) (v8 := .null) (v9 := .null) (v10 := .null) (v11 := .null) (v12 := .null) (v13 := .null) (by omega) gc0 ) rfl (by omega) (Nat.le_of_ble_eq_true rfl) (by omega) (by omega) rfl (fun r9 hp_1 nn_2 hq_3 => ?_)
  obtain ⟨rfl, hq_3n, h_4, ho_5⟩ := hq_3
  subst nn_2
  change Rn _ _ _ 8 _ [] _ _ _ _ _
  refine r_aload_n (pc := 8) dX3_init_8 (i := 0) rfl rfl ?_
  refine r_aload_n (pc := 9) dX3_init_9 (i := 1) rfl rfl ?_
  have h_6 : hp_1 dr = some (.inr (1, [.int ((nI N)), .int ((bI q)), .int 0, .ref af, .ref au, .ref aw, .ref ac, .ref al])) := (ho_5 dr _ gc1 (ne_c gc1 gc0 (by intro h9; cases h9)))
  refine r_get (pc := 10) (v := .int ((bI q))) fX3_15 dX3_init_10 h_6 rfl ?_
  refine w_put (pc := 13) (ty := .boolean) (fs' := [.int ((nI N)), .int ((bI q)), .int 0, .null, .null, .null, .null, .int 0, .null, .null, .null, .null, .null, .null]) fX3_19 tyX3 tyX3_ok nmX3 (by decide +kernel) (Or.inr ⟨rfl, rfl, rfl⟩) dX3_init_13 h_4 (Nat.le_of_ble_eq_true rfl) (bI_n q) (bI_fit q) rfl (fun hp_7 h_8 ho_9 => ?_)
  refine r_aload_n (pc := 16) dX3_init_16 (i := 0) rfl rfl ?_
  refine r_aload_n (pc := 17) dX3_init_17 (i := 1) rfl rfl ?_
  have h_10 : hp_7 dr = some (.inr (1, [.int ((nI N)), .int ((bI q)), .int 0, .ref af, .ref au, .ref aw, .ref ac, .ref al])) := ((ho_9 dr (ne_c gc1 gc0 (by intro h9; cases h9))).trans h_6)
  refine r_get (pc := 18) (v := .int 0) fX3_22 dX3_init_18 h_10 rfl ?_
  refine w_put (pc := 21) (ty := .int) (fs' := [.int ((nI N)), .int ((bI q)), .int 0, .null, .null, .null, .null, .int 0, .null, .null, .null, .null, .null, .null]) fX3_25 tyX3 tyX3_ok nmX3 (by decide +kernel) (Or.inr ⟨rfl, rfl, rfl⟩) dX3_init_21 h_8 (Nat.le_of_ble_eq_true rfl) (rfl) (rfl) rfl (fun hp_11 h_12 ho_13 => ?_)
  refine r_aload_n (pc := 24) dX3_init_24 (i := 0) rfl rfl ?_
  refine r_aload_n (pc := 25) dX3_init_25 (i := 1) rfl rfl ?_
  have h_14 : hp_11 dr = some (.inr (1, [.int ((nI N)), .int ((bI q)), .int 0, .ref af, .ref au, .ref aw, .ref ac, .ref al])) := ((ho_13 dr (ne_c gc1 gc0 (by intro h9; cases h9))).trans h_10)
  refine r_get (pc := 26) (v := .ref af) fX3_26 dX3_init_26 h_14 rfl ?_
  refine r_aload_n (pc := 29) dX3_init_29 (i := 0) rfl rfl ?_
  refine r_get (pc := 30) (v := .int 0) fX3_25 dX3_init_30 h_12 rfl ?_
  have h_18 : hp_11 af = some (.inl (cI, 60, .inl (f1))) := ((ho_13 af (ne_c gc2 gc0 (by intro h9; cases h9))).trans ((ho_9 af (ne_c gc2 gc0 (by intro h9; cases h9))).trans (ho_5 af _ gc2 (ne_c gc2 gc0 (by intro h9; cases h9)))))
  refine r_callS (pc := 33) (as := [.ref af, .int 0]) (st := [.ref a]) kX3_30 dX3_init_33 (c_copyOf_lt (d := d - 1) (a := af) (N := 60) (m := 0) (f := f1) (by omega) h_18 (by omega) (by omega)) rfl (by omega) (Nat.le_of_ble_eq_true rfl) (by omega) (by omega) rfl (fun r9 hp_15 nn_16 hq_17 => ?_)
  obtain ⟨rfl, hq_17n, h_19, ho_20⟩ := hq_17
  subst nn_16
  change Rn _ _ _ 36 _ [.ref n, .ref a] _ _ _ _ _
  have h_21 : hp_15 a = some (.inr (3, [.int ((nI N)), .int ((bI q)), .int 0, .null, .null, .null, .null, .int 0, .null, .null, .null, .null, .null, .null])) := (ho_20 a _ h_12)
  refine w_put (pc := 36) (ty := .array .int) (fs' := [.int ((nI N)), .int ((bI q)), .int 0, .ref n, .null, .null, .null, .int 0, .null, .null, .null, .null, .null, .null]) fX3_36 tyX3 tyX3_ok nmX3 (by decide +kernel) (Or.inr ⟨rfl, rfl, rfl⟩) dX3_init_36 h_21 (Nat.le_of_ble_eq_true rfl) (rfl) (rfl) rfl (fun hp_22 h_23 ho_24 => ?_)
  refine r_aload_n (pc := 39) dX3_init_39 (i := 0) rfl rfl ?_
  refine r_aload_n (pc := 40) dX3_init_40 (i := 1) rfl rfl ?_
  have h_25 : hp_22 dr = some (.inr (1, [.int ((nI N)), .int ((bI q)), .int 0, .ref af, .ref au, .ref aw, .ref ac, .ref al])) := ((ho_24 dr (ne_c gc1 gc0 (by intro h9; cases h9))).trans (ho_20 dr _ h_14))
  refine r_get (pc := 41) (v := .ref au) fX3_37 dX3_init_41 h_25 rfl ?_
  refine r_aload_n (pc := 44) dX3_init_44 (i := 0) rfl rfl ?_
  refine r_get (pc := 45) (v := .int 0) fX3_25 dX3_init_45 h_23 rfl ?_
  have h_29 : hp_22 au = some (.inl (cI, 60, .inl (f2))) := ((ho_24 au (ne_c gc3 gc0 (by intro h9; cases h9))).trans (ho_20 au _ ((ho_13 au (ne_c gc3 gc0 (by intro h9; cases h9))).trans ((ho_9 au (ne_c gc3 gc0 (by intro h9; cases h9))).trans (ho_5 au _ gc3 (ne_c gc3 gc0 (by intro h9; cases h9)))))))
  refine r_callS (pc := 48) (as := [.ref au, .int 0]) (st := [.ref a]) kX3_30 dX3_init_48 (c_copyOf_lt (d := d - 1) (a := au) (N := 60) (m := 0) (f := f2) (by omega) h_29 (by omega) (by omega)) rfl (by omega) (Nat.le_of_ble_eq_true rfl) (by omega) (by omega) rfl (fun r9 hp_26 nn_27 hq_28 => ?_)
  obtain ⟨rfl, hq_28n, h_30, ho_31⟩ := hq_28
  subst nn_27
  change Rn _ _ _ 51 _ [.ref ((n + 1)), .ref a] _ _ _ _ _
  have h_32 : hp_26 a = some (.inr (3, [.int ((nI N)), .int ((bI q)), .int 0, .ref n, .null, .null, .null, .int 0, .null, .null, .null, .null, .null, .null])) := (ho_31 a _ h_23)
  refine w_put (pc := 51) (ty := .array .int) (fs' := [.int ((nI N)), .int ((bI q)), .int 0, .ref n, .ref ((n + 1)), .null, .null, .int 0, .null, .null, .null, .null, .null, .null]) fX3_40 tyX3 tyX3_ok nmX3 (by decide +kernel) (Or.inr ⟨rfl, rfl, rfl⟩) dX3_init_51 h_32 (Nat.le_of_ble_eq_true rfl) (rfl) (rfl) rfl (fun hp_33 h_34 ho_35 => ?_)
  refine r_aload_n (pc := 54) dX3_init_54 (i := 0) rfl rfl ?_
  refine r_aload_n (pc := 55) dX3_init_55 (i := 1) rfl rfl ?_
  have h_36 : hp_33 dr = some (.inr (1, [.int ((nI N)), .int ((bI q)), .int 0, .ref af, .ref au, .ref aw, .ref ac, .ref al])) := ((ho_35 dr (ne_c gc1 gc0 (by intro h9; cases h9))).trans (ho_31 dr _ h_25))
  refine r_get (pc := 56) (v := .ref aw) fX3_41 dX3_init_56 h_36 rfl ?_
  refine r_aload_n (pc := 59) dX3_init_59 (i := 0) rfl rfl ?_
  refine r_get (pc := 60) (v := .int 0) fX3_25 dX3_init_60 h_34 rfl ?_
  have h_40 : hp_33 aw = some (.inl (cI, 60, .inl (f3))) := ((ho_35 aw (ne_c gc4 gc0 (by intro h9; cases h9))).trans (ho_31 aw _ ((ho_24 aw (ne_c gc4 gc0 (by intro h9; cases h9))).trans (ho_20 aw _ ((ho_13 aw (ne_c gc4 gc0 (by intro h9; cases h9))).trans ((ho_9 aw (ne_c gc4 gc0 (by intro h9; cases h9))).trans (ho_5 aw _ gc4 (ne_c gc4 gc0 (by intro h9; cases h9)))))))))
  refine r_callS (pc := 63) (as := [.ref aw, .int 0]) (st := [.ref a]) kX3_30 dX3_init_63 (c_copyOf_lt (d := d - 1) (a := aw) (N := 60) (m := 0) (f := f3) (by omega) h_40 (by omega) (by omega)) rfl (by omega) (Nat.le_of_ble_eq_true rfl) (by omega) (by omega) rfl (fun r9 hp_37 nn_38 hq_39 => ?_)
  obtain ⟨rfl, hq_39n, h_41, ho_42⟩ := hq_39
  subst nn_38
  change Rn _ _ _ 66 _ [.ref ((n + 2)), .ref a] _ _ _ _ _
  have h_43 : hp_37 a = some (.inr (3, [.int ((nI N)), .int ((bI q)), .int 0, .ref n, .ref ((n + 1)), .null, .null, .int 0, .null, .null, .null, .null, .null, .null])) := (ho_42 a _ h_34)
  refine w_put (pc := 66) (ty := .array .int) (fs' := [.int ((nI N)), .int ((bI q)), .int 0, .ref n, .ref ((n + 1)), .ref ((n + 2)), .null, .int 0, .null, .null, .null, .null, .null, .null]) fX3_44 tyX3 tyX3_ok nmX3 (by decide +kernel) (Or.inr ⟨rfl, rfl, rfl⟩) dX3_init_66 h_43 (Nat.le_of_ble_eq_true rfl) (rfl) (rfl) rfl (fun hp_44 h_45 ho_46 => ?_)
  refine r_aload_n (pc := 69) dX3_init_69 (i := 0) rfl rfl ?_
  refine r_aload_n (pc := 70) dX3_init_70 (i := 1) rfl rfl ?_
  have h_47 : hp_44 dr = some (.inr (1, [.int ((nI N)), .int ((bI q)), .int 0, .ref af, .ref au, .ref aw, .ref ac, .ref al])) := ((ho_46 dr (ne_c gc1 gc0 (by intro h9; cases h9))).trans (ho_42 dr _ h_36))
  refine r_get (pc := 71) (v := .ref ac) fX3_45 dX3_init_71 h_47 rfl ?_
  refine r_aload_n (pc := 74) dX3_init_74 (i := 0) rfl rfl ?_
  refine r_get (pc := 75) (v := .int 0) fX3_25 dX3_init_75 h_45 rfl ?_
  have h_51 : hp_44 ac = some (.inl (cI, 60, .inl (f4))) := ((ho_46 ac (ne_c gc5 gc0 (by intro h9; cases h9))).trans (ho_42 ac _ ((ho_35 ac (ne_c gc5 gc0 (by intro h9; cases h9))).trans (ho_31 ac _ ((ho_24 ac (ne_c gc5 gc0 (by intro h9; cases h9))).trans (ho_20 ac _ ((ho_13 ac (ne_c gc5 gc0 (by intro h9; cases h9))).trans ((ho_9 ac (ne_c gc5 gc0 (by intro h9; cases h9))).trans (ho_5 ac _ gc5 (ne_c gc5 gc0 (by intro h9; cases h9)))))))))))
  refine r_callS (pc := 78) (as := [.ref ac, .int 0]) (st := [.ref a]) kX3_30 dX3_init_78 (c_copyOf_lt (d := d - 1) (a := ac) (N := 60) (m := 0) (f := f4) (by omega) h_51 (by omega) (by omega)) rfl (by omega) (Nat.le_of_ble_eq_true rfl) (by omega) (by omega) rfl (fun r9 hp_48 nn_49 hq_50 => ?_)
  obtain ⟨rfl, hq_50n, h_52, ho_53⟩ := hq_50
  subst nn_49
  change Rn _ _ _ 81 _ [.ref ((n + 3)), .ref a] _ _ _ _ _
  have h_54 : hp_48 a = some (.inr (3, [.int ((nI N)), .int ((bI q)), .int 0, .ref n, .ref ((n + 1)), .ref ((n + 2)), .null, .int 0, .null, .null, .null, .null, .null, .null])) := (ho_53 a _ h_45)
  refine w_put (pc := 81) (ty := .array .int) (fs' := [.int ((nI N)), .int ((bI q)), .int 0, .ref n, .ref ((n + 1)), .ref ((n + 2)), .ref ((n + 3)), .int 0, .null, .null, .null, .null, .null, .null]) fX3_48 tyX3 tyX3_ok nmX3 (by decide +kernel) (Or.inr ⟨rfl, rfl, rfl⟩) dX3_init_81 h_54 (Nat.le_of_ble_eq_true rfl) (rfl) (rfl) rfl (fun hp_55 h_56 ho_57 => ?_)
  refine r_aload_n (pc := 84) dX3_init_84 (i := 0) rfl rfl ?_
  refine r_aload_n (pc := 85) dX3_init_85 (i := 0) rfl rfl ?_
  refine r_get (pc := 86) (v := .int ((nI N))) fX3_49 dX3_init_86 h_56 rfl ?_
  refine w_newi (pc := 89) (t0 := 0) (N := N) dX3_init_89 (tb_t (k := 68) (w := Cond.arrayClass .int) (by decide +kernel)) rfl (rfl) (by omega) (by omega) (by omega) (fun hp_58 h_59 hk_60 ho_61 => ?_)
  have h_62 : hp_58 a = some (.inr (3, [.int ((nI N)), .int ((bI q)), .int 0, .ref n, .ref ((n + 1)), .ref ((n + 2)), .ref ((n + 3)), .int 0, .null, .null, .null, .null, .null, .null])) := (hk_60 a _ h_56)
  refine w_put (pc := 91) (ty := .array .int) (fs' := [.int ((nI N)), .int ((bI q)), .int 0, .ref n, .ref ((n + 1)), .ref ((n + 2)), .ref ((n + 3)), .int 0, .null, .null, .null, .ref ((n + 4)), .null, .null]) fX3_50 tyX3 tyX3_ok nmX3 (by decide +kernel) (Or.inr ⟨rfl, rfl, rfl⟩) dX3_init_91 h_62 (Nat.le_of_ble_eq_true rfl) (rfl) (rfl) rfl (fun hp_63 h_64 ho_65 => ?_)
  refine r_aload_n (pc := 94) dX3_init_94 (i := 0) rfl rfl ?_
  refine r_aload_n (pc := 95) dX3_init_95 (i := 0) rfl rfl ?_
  refine r_get (pc := 96) (v := .int ((nI N))) fX3_49 dX3_init_96 h_64 rfl ?_
  refine w_newi (pc := 99) (t0 := 0) (N := N) dX3_init_99 (tb_t (k := 68) (w := Cond.arrayClass .int) (by decide +kernel)) rfl (rfl) (by omega) (by omega) (by omega) (fun hp_66 h_67 hk_68 ho_69 => ?_)
  have h_70 : hp_66 a = some (.inr (3, [.int ((nI N)), .int ((bI q)), .int 0, .ref n, .ref ((n + 1)), .ref ((n + 2)), .ref ((n + 3)), .int 0, .null, .null, .null, .ref ((n + 4)), .null, .null])) := (hk_68 a _ h_64)
  refine w_put (pc := 101) (ty := .array .int) (fs' := [.int ((nI N)), .int ((bI q)), .int 0, .ref n, .ref ((n + 1)), .ref ((n + 2)), .ref ((n + 3)), .int 0, .null, .null, .null, .ref ((n + 4)), .ref ((n + 5)), .null]) fX3_53 tyX3 tyX3_ok nmX3 (by decide +kernel) (Or.inr ⟨rfl, rfl, rfl⟩) dX3_init_101 h_70 (Nat.le_of_ble_eq_true rfl) (rfl) (rfl) rfl (fun hp_71 h_72 ho_73 => ?_)
  refine r_aload_n (pc := 104) dX3_init_104 (i := 0) rfl rfl ?_
  refine r_aload_n (pc := 105) dX3_init_105 (i := 0) rfl rfl ?_
  refine r_get (pc := 106) (v := .int ((nI N))) fX3_49 dX3_init_106 h_72 rfl ?_
  refine w_newi (pc := 109) (t0 := 0) (N := N) dX3_init_109 (tb_t (k := 68) (w := Cond.arrayClass .int) (by decide +kernel)) rfl (rfl) (by omega) (by omega) (by omega) (fun hp_74 h_75 hk_76 ho_77 => ?_)
  have h_78 : hp_74 a = some (.inr (3, [.int ((nI N)), .int ((bI q)), .int 0, .ref n, .ref ((n + 1)), .ref ((n + 2)), .ref ((n + 3)), .int 0, .null, .null, .null, .ref ((n + 4)), .ref ((n + 5)), .null])) := (hk_76 a _ h_72)
  refine w_put (pc := 111) (ty := .array .int) (fs' := [.int ((nI N)), .int ((bI q)), .int 0, .ref n, .ref ((n + 1)), .ref ((n + 2)), .ref ((n + 3)), .int 0, .null, .null, .null, .ref ((n + 4)), .ref ((n + 5)), .ref ((n + 6))]) fX3_56 tyX3 tyX3_ok nmX3 (by decide +kernel) (Or.inr ⟨rfl, rfl, rfl⟩) dX3_init_111 h_78 (Nat.le_of_ble_eq_true rfl) (rfl) (rfl) rfl (fun hp_79 h_80 ho_81 => ?_)
  refine r_aload_n (pc := 114) dX3_init_114 (i := 0) rfl rfl ?_
  refine r_aload_n (pc := 115) dX3_init_115 (i := 1) rfl rfl ?_
  have h_85 : hp_79 dr = some (.inr (1, [.int ((nI N)), .int ((bI q)), .int 0, .ref af, .ref au, .ref aw, .ref ac, .ref al])) := ((ho_81 dr (ne_c gc1 gc0 (by intro h9; cases h9))).trans (hk_76 dr _ ((ho_73 dr (ne_c gc1 gc0 (by intro h9; cases h9))).trans (hk_68 dr _ ((ho_65 dr (ne_c gc1 gc0 (by intro h9; cases h9))).trans (hk_60 dr _ ((ho_57 dr (ne_c gc1 gc0 (by intro h9; cases h9))).trans (ho_53 dr _ h_47))))))))
  refine r_callS (pc := 116) (as := [.ref dr]) (st := [.ref a]) kX3_59 dX3_init_116 (c_X3_countGoings_0 (d := d - 1) (a := dr) (x0 := (nI N)) (x1 := (bI q)) (af := af) (au := au) (aw := aw) (ac := ac) (al := al) (by omega) h_85 ) rfl (by omega) (Nat.le_of_ble_eq_true rfl) (by omega) (by omega) rfl (fun r9 hp_82 nn_83 hq_84 => ?_)
  obtain ⟨rfl, hq_84n, ho_86⟩ := hq_84
  subst nn_83
  change Rn _ _ _ 119 _ [.int 0, .ref a] _ _ _ _ _
  have h_87 : hp_82 a = some (.inr (3, [.int ((nI N)), .int ((bI q)), .int 0, .ref n, .ref ((n + 1)), .ref ((n + 2)), .ref ((n + 3)), .int 0, .null, .null, .null, .ref ((n + 4)), .ref ((n + 5)), .ref ((n + 6))])) := (ho_86 a _ h_80)
  refine w_put (pc := 119) (ty := .int) (fs' := [.int ((nI N)), .int ((bI q)), .int 0, .ref n, .ref ((n + 1)), .ref ((n + 2)), .ref ((n + 3)), .int 0, .null, .null, .null, .ref ((n + 4)), .ref ((n + 5)), .ref ((n + 6))]) fX3_63 tyX3 tyX3_ok nmX3 (by decide +kernel) (Or.inr ⟨rfl, rfl, rfl⟩) dX3_init_119 h_87 (Nat.le_of_ble_eq_true rfl) (rfl) (rfl) rfl (fun hp_88 h_89 ho_90 => ?_)
  refine r_aload_n (pc := 122) dX3_init_122 (i := 0) rfl rfl ?_
  refine r_aload_n (pc := 123) dX3_init_123 (i := 0) rfl rfl ?_
  refine r_get (pc := 124) (v := .int 0) fX3_63 dX3_init_124 h_89 rfl ?_
  refine w_newi (pc := 127) (t0 := 0) (N := 0) dX3_init_127 (tb_t (k := 68) (w := Cond.arrayClass .int) (by decide +kernel)) rfl (rfl) (by omega) (by omega) (by omega) (fun hp_91 h_92 hk_93 ho_94 => ?_)
  have h_95 : hp_91 a = some (.inr (3, [.int ((nI N)), .int ((bI q)), .int 0, .ref n, .ref ((n + 1)), .ref ((n + 2)), .ref ((n + 3)), .int 0, .null, .null, .null, .ref ((n + 4)), .ref ((n + 5)), .ref ((n + 6))])) := (hk_93 a _ h_89)
  refine w_put (pc := 129) (ty := .array .int) (fs' := [.int ((nI N)), .int ((bI q)), .int 0, .ref n, .ref ((n + 1)), .ref ((n + 2)), .ref ((n + 3)), .int 0, .ref ((n + 7)), .null, .null, .ref ((n + 4)), .ref ((n + 5)), .ref ((n + 6))]) fX3_66 tyX3 tyX3_ok nmX3 (by decide +kernel) (Or.inr ⟨rfl, rfl, rfl⟩) dX3_init_129 h_95 (Nat.le_of_ble_eq_true rfl) (rfl) (rfl) rfl (fun hp_96 h_97 ho_98 => ?_)
  refine r_aload_n (pc := 132) dX3_init_132 (i := 0) rfl rfl ?_
  refine r_aload_n (pc := 133) dX3_init_133 (i := 0) rfl rfl ?_
  refine r_get (pc := 134) (v := .int 0) fX3_63 dX3_init_134 h_97 rfl ?_
  refine w_newi (pc := 137) (t0 := 0) (N := 0) dX3_init_137 (tb_t (k := 68) (w := Cond.arrayClass .int) (by decide +kernel)) rfl (rfl) (by omega) (by omega) (by omega) (fun hp_99 h_100 hk_101 ho_102 => ?_)
  have h_103 : hp_99 a = some (.inr (3, [.int ((nI N)), .int ((bI q)), .int 0, .ref n, .ref ((n + 1)), .ref ((n + 2)), .ref ((n + 3)), .int 0, .ref ((n + 7)), .null, .null, .ref ((n + 4)), .ref ((n + 5)), .ref ((n + 6))])) := (hk_101 a _ h_97)
  refine w_put (pc := 139) (ty := .array .int) (fs' := [.int ((nI N)), .int ((bI q)), .int 0, .ref n, .ref ((n + 1)), .ref ((n + 2)), .ref ((n + 3)), .int 0, .ref ((n + 7)), .ref ((n + 8)), .null, .ref ((n + 4)), .ref ((n + 5)), .ref ((n + 6))]) fX3_69 tyX3 tyX3_ok nmX3 (by decide +kernel) (Or.inr ⟨rfl, rfl, rfl⟩) dX3_init_139 h_103 (Nat.le_of_ble_eq_true rfl) (rfl) (rfl) rfl (fun hp_104 h_105 ho_106 => ?_)
  refine r_aload_n (pc := 142) dX3_init_142 (i := 0) rfl rfl ?_
  refine r_aload_n (pc := 143) dX3_init_143 (i := 0) rfl rfl ?_
  refine r_get (pc := 144) (v := .int 0) fX3_63 dX3_init_144 h_105 rfl ?_
  refine w_newi (pc := 147) (t0 := 0) (N := 0) dX3_init_147 (tb_t (k := 68) (w := Cond.arrayClass .int) (by decide +kernel)) rfl (rfl) (by omega) (by omega) (by omega) (fun hp_107 h_108 hk_109 ho_110 => ?_)
  have h_111 : hp_107 a = some (.inr (3, [.int ((nI N)), .int ((bI q)), .int 0, .ref n, .ref ((n + 1)), .ref ((n + 2)), .ref ((n + 3)), .int 0, .ref ((n + 7)), .ref ((n + 8)), .null, .ref ((n + 4)), .ref ((n + 5)), .ref ((n + 6))])) := (hk_109 a _ h_105)
  refine w_put (pc := 149) (ty := .array .int) (fs' := [.int ((nI N)), .int ((bI q)), .int 0, .ref n, .ref ((n + 1)), .ref ((n + 2)), .ref ((n + 3)), .int 0, .ref ((n + 7)), .ref ((n + 8)), .ref ((n + 9)), .ref ((n + 4)), .ref ((n + 5)), .ref ((n + 6))]) fX3_72 tyX3 tyX3_ok nmX3 (by decide +kernel) (Or.inr ⟨rfl, rfl, rfl⟩) dX3_init_149 h_111 (Nat.le_of_ble_eq_true rfl) (rfl) (rfl) rfl (fun hp_112 h_113 ho_114 => ?_)
  refine r_aload_n (pc := 152) dX3_init_152 (i := 0) rfl rfl ?_
  refine r_callV (pc := 153) (as := []) (st := []) kX3_75 rfl dX3_init_153 h_113 (c_X3_fillGoings_0 (d := d - 1) (a := a) (x0 := (nI N)) (x1 := (bI q)) (r3 := n) (r4 := (n + 1)) (r5 := (n + 2)) (r6 := (n + 3)) (r8 := (n + 7)) (r9 := (n + 8)) (r10 := (n + 9)) (r11 := (n + 4)) (r12 := (n + 5)) (r13 := (n + 6)) (by omega) h_113 ) rfl (by omega) (Nat.le_of_ble_eq_true rfl) (by omega) (by omega) rfl (fun r9 hp_115 nn_116 hq_117 => ?_)
  obtain ⟨rfl, hq_117n, ho_118⟩ := hq_117
  subst nn_116
  change Rn _ _ _ 156 _ [] _ _ _ _ _
  refine r_aload_n (pc := 156) dX3_init_156 (i := 0) rfl rfl ?_
  have h_122 : hp_115 a = some (.inr (3, [.int ((nI N)), .int ((bI q)), .int 0, .ref n, .ref ((n + 1)), .ref ((n + 2)), .ref ((n + 3)), .int 0, .ref ((n + 7)), .ref ((n + 8)), .ref ((n + 9)), .ref ((n + 4)), .ref ((n + 5)), .ref ((n + 6))])) := (ho_118 a _ h_113)
  refine r_callV (pc := 157) (as := []) (st := []) kX3_79 rfl dX3_init_157 h_122 (c_X3_fillNeighbours_0 (d := d - 1) (a := a) (x0 := (nI N)) (x1 := (bI q)) (r3 := n) (r4 := (n + 1)) (r5 := (n + 2)) (r6 := (n + 3)) (r8 := (n + 7)) (r9 := (n + 8)) (r10 := (n + 9)) (r11 := (n + 4)) (r12 := (n + 5)) (r13 := (n + 6)) (by omega) h_122 ) rfl (by omega) (Nat.le_of_ble_eq_true rfl) (by omega) (by omega) rfl (fun r9 hp_119 nn_120 hq_121 => ?_)
  obtain ⟨rfl, hq_121n, ho_123⟩ := hq_121
  subst nn_120
  change Rn _ _ _ 160 _ [] _ _ _ _ _
  have h_124 : hp_119 a = some (.inr (3, [.int ((nI N)), .int ((bI q)), .int 0, .ref n, .ref ((n + 1)), .ref ((n + 2)), .ref ((n + 3)), .int 0, .ref ((n + 7)), .ref ((n + 8)), .ref ((n + 9)), .ref ((n + 4)), .ref ((n + 5)), .ref ((n + 6))])) := (ho_123 a _ h_122)
  have h_125 : hp_119 n = some (.inl (cI, 0, .inl (va_cpy f1 (fun _ => 0) 0 0 0))) := (ho_123 n _ (ho_118 n _ ((ho_114 n (Ne.symm (ne_an l_a 0))).trans (hk_109 n _ ((ho_106 n (Ne.symm (ne_an l_a 0))).trans (hk_101 n _ ((ho_98 n (Ne.symm (ne_an l_a 0))).trans (hk_93 n _ ((ho_90 n (Ne.symm (ne_an l_a 0))).trans (ho_86 n _ ((ho_81 n (Ne.symm (ne_an l_a 0))).trans (hk_76 n _ ((ho_73 n (Ne.symm (ne_an l_a 0))).trans (hk_68 n _ ((ho_65 n (Ne.symm (ne_an l_a 0))).trans (hk_60 n _ ((ho_57 n (Ne.symm (ne_an l_a 0))).trans (ho_53 n _ ((ho_46 n (Ne.symm (ne_an l_a 0))).trans (ho_42 n _ ((ho_35 n (Ne.symm (ne_an l_a 0))).trans (ho_31 n _ ((ho_24 n (Ne.symm (ne_an l_a 0))).trans h_19)))))))))))))))))))))))
  have h_126 : hp_119 (n + 1) = some (.inl (cI, 0, .inl (va_cpy f2 (fun _ => 0) 0 0 0))) := (ho_123 (n + 1) _ (ho_118 (n + 1) _ ((ho_114 (n + 1) (Ne.symm (ne_an l_a 1))).trans (hk_109 (n + 1) _ ((ho_106 (n + 1) (Ne.symm (ne_an l_a 1))).trans (hk_101 (n + 1) _ ((ho_98 (n + 1) (Ne.symm (ne_an l_a 1))).trans (hk_93 (n + 1) _ ((ho_90 (n + 1) (Ne.symm (ne_an l_a 1))).trans (ho_86 (n + 1) _ ((ho_81 (n + 1) (Ne.symm (ne_an l_a 1))).trans (hk_76 (n + 1) _ ((ho_73 (n + 1) (Ne.symm (ne_an l_a 1))).trans (hk_68 (n + 1) _ ((ho_65 (n + 1) (Ne.symm (ne_an l_a 1))).trans (hk_60 (n + 1) _ ((ho_57 (n + 1) (Ne.symm (ne_an l_a 1))).trans (ho_53 (n + 1) _ ((ho_46 (n + 1) (Ne.symm (ne_an l_a 1))).trans (ho_42 (n + 1) _ ((ho_35 (n + 1) (Ne.symm (ne_an l_a 1))).trans h_30)))))))))))))))))))))
  have h_127 : hp_119 (n + 2) = some (.inl (cI, 0, .inl (va_cpy f3 (fun _ => 0) 0 0 0))) := (ho_123 (n + 2) _ (ho_118 (n + 2) _ ((ho_114 (n + 2) (Ne.symm (ne_an l_a 2))).trans (hk_109 (n + 2) _ ((ho_106 (n + 2) (Ne.symm (ne_an l_a 2))).trans (hk_101 (n + 2) _ ((ho_98 (n + 2) (Ne.symm (ne_an l_a 2))).trans (hk_93 (n + 2) _ ((ho_90 (n + 2) (Ne.symm (ne_an l_a 2))).trans (ho_86 (n + 2) _ ((ho_81 (n + 2) (Ne.symm (ne_an l_a 2))).trans (hk_76 (n + 2) _ ((ho_73 (n + 2) (Ne.symm (ne_an l_a 2))).trans (hk_68 (n + 2) _ ((ho_65 (n + 2) (Ne.symm (ne_an l_a 2))).trans (hk_60 (n + 2) _ ((ho_57 (n + 2) (Ne.symm (ne_an l_a 2))).trans (ho_53 (n + 2) _ ((ho_46 (n + 2) (Ne.symm (ne_an l_a 2))).trans h_41)))))))))))))))))))
  have h_128 : hp_119 (n + 3) = some (.inl (cI, 0, .inl (va_cpy f4 (fun _ => 0) 0 0 0))) := (ho_123 (n + 3) _ (ho_118 (n + 3) _ ((ho_114 (n + 3) (Ne.symm (ne_an l_a 3))).trans (hk_109 (n + 3) _ ((ho_106 (n + 3) (Ne.symm (ne_an l_a 3))).trans (hk_101 (n + 3) _ ((ho_98 (n + 3) (Ne.symm (ne_an l_a 3))).trans (hk_93 (n + 3) _ ((ho_90 (n + 3) (Ne.symm (ne_an l_a 3))).trans (ho_86 (n + 3) _ ((ho_81 (n + 3) (Ne.symm (ne_an l_a 3))).trans (hk_76 (n + 3) _ ((ho_73 (n + 3) (Ne.symm (ne_an l_a 3))).trans (hk_68 (n + 3) _ ((ho_65 (n + 3) (Ne.symm (ne_an l_a 3))).trans (hk_60 (n + 3) _ ((ho_57 (n + 3) (Ne.symm (ne_an l_a 3))).trans h_52)))))))))))))))))
  have h_129 : hp_119 (n + 4) = some (.inl (cI, N, .inl (fun _ => 0))) := (ho_123 (n + 4) _ (ho_118 (n + 4) _ ((ho_114 (n + 4) (Ne.symm (ne_an l_a 4))).trans (hk_109 (n + 4) _ ((ho_106 (n + 4) (Ne.symm (ne_an l_a 4))).trans (hk_101 (n + 4) _ ((ho_98 (n + 4) (Ne.symm (ne_an l_a 4))).trans (hk_93 (n + 4) _ ((ho_90 (n + 4) (Ne.symm (ne_an l_a 4))).trans (ho_86 (n + 4) _ ((ho_81 (n + 4) (Ne.symm (ne_an l_a 4))).trans (hk_76 (n + 4) _ ((ho_73 (n + 4) (Ne.symm (ne_an l_a 4))).trans (hk_68 (n + 4) _ ((ho_65 (n + 4) (Ne.symm (ne_an l_a 4))).trans h_59)))))))))))))))
  have h_130 : hp_119 (n + 5) = some (.inl (cI, N, .inl (fun _ => 0))) := (ho_123 (n + 5) _ (ho_118 (n + 5) _ ((ho_114 (n + 5) (Ne.symm (ne_an l_a 5))).trans (hk_109 (n + 5) _ ((ho_106 (n + 5) (Ne.symm (ne_an l_a 5))).trans (hk_101 (n + 5) _ ((ho_98 (n + 5) (Ne.symm (ne_an l_a 5))).trans (hk_93 (n + 5) _ ((ho_90 (n + 5) (Ne.symm (ne_an l_a 5))).trans (ho_86 (n + 5) _ ((ho_81 (n + 5) (Ne.symm (ne_an l_a 5))).trans (hk_76 (n + 5) _ ((ho_73 (n + 5) (Ne.symm (ne_an l_a 5))).trans h_67)))))))))))))
  have h_131 : hp_119 (n + 6) = some (.inl (cI, N, .inl (fun _ => 0))) := (ho_123 (n + 6) _ (ho_118 (n + 6) _ ((ho_114 (n + 6) (Ne.symm (ne_an l_a 6))).trans (hk_109 (n + 6) _ ((ho_106 (n + 6) (Ne.symm (ne_an l_a 6))).trans (hk_101 (n + 6) _ ((ho_98 (n + 6) (Ne.symm (ne_an l_a 6))).trans (hk_93 (n + 6) _ ((ho_90 (n + 6) (Ne.symm (ne_an l_a 6))).trans (ho_86 (n + 6) _ ((ho_81 (n + 6) (Ne.symm (ne_an l_a 6))).trans h_75)))))))))))
  have h_132 : hp_119 (n + 7) = some (.inl (cI, 0, .inl (fun _ => 0))) := (ho_123 (n + 7) _ (ho_118 (n + 7) _ ((ho_114 (n + 7) (Ne.symm (ne_an l_a 7))).trans (hk_109 (n + 7) _ ((ho_106 (n + 7) (Ne.symm (ne_an l_a 7))).trans (hk_101 (n + 7) _ ((ho_98 (n + 7) (Ne.symm (ne_an l_a 7))).trans h_92)))))))
  have h_133 : hp_119 (n + 8) = some (.inl (cI, 0, .inl (fun _ => 0))) := (ho_123 (n + 8) _ (ho_118 (n + 8) _ ((ho_114 (n + 8) (Ne.symm (ne_an l_a 8))).trans (hk_109 (n + 8) _ ((ho_106 (n + 8) (Ne.symm (ne_an l_a 8))).trans h_100)))))
  have h_134 : hp_119 (n + 9) = some (.inl (cI, 0, .inl (fun _ => 0))) := (ho_123 (n + 9) _ (ho_118 (n + 9) _ ((ho_114 (n + 9) (Ne.symm (ne_an l_a 9))).trans h_108)))
  exact r_vret (pc := 160) dX3_init_160 rfl (⟨rfl, rfl, h_124, h_125, h_126, h_127, h_128, h_129, h_130, h_131, h_132, h_133, h_134, fun q e9 h9 n9_0 => (ho_123 q e9 (ho_118 q e9 ((ho_114 q n9_0).trans (hk_109 q e9 ((ho_106 q n9_0).trans (hk_101 q e9 ((ho_98 q n9_0).trans (hk_93 q e9 ((ho_90 q n9_0).trans (ho_86 q e9 ((ho_81 q n9_0).trans (hk_76 q e9 ((ho_73 q n9_0).trans (hk_68 q e9 ((ho_65 q n9_0).trans (hk_60 q e9 ((ho_57 q n9_0).trans (ho_53 q e9 ((ho_46 q n9_0).trans (ho_42 q e9 ((ho_35 q n9_0).trans (ho_31 q e9 ((ho_24 q n9_0).trans (ho_20 q e9 ((ho_13 q n9_0).trans ((ho_9 q n9_0).trans (ho_5 q e9 h9 n9_0))) )) )) )) )))))))) )))))))) ) )⟩)
set_option maxHeartbeats 4000000 in
set_option maxRecDepth 100000 in
theorem c_X11_keep_X3 {D : va_G} {cI cJ cZ cT : ClassId} {lo b L : Nat} {xs : Nat → Int32} {hp : MH} {n d : Nat} {x th dr sk sh se pa fl sa : Nat} {rf : Int32} {i t : Nat} {f : Nat → Option Nat} {v0 v1 v2 v3 v4 v5 v6 v7 v8 v9 v10 v11 v12 v13 : Value} (hd0 : 1 ≤ d) (gc0 : hp x = some (.inr (10, [.ref th, .int ((nI i)), .int rf, .ref dr, .ref sk, .ref sh, .ref se, .ref pa, .ref fl, .ref sa]))) (gc1 : hp th = some (.inl (cT, 120, .inr (.inr (.inr (.inr (f))))))) (gc2 : hp t = some (.inr (3, [v0, v1, v2, v3, v4, v5, v6, v7, v8, v9, v10, v11, v12, v13]))) (hi : i < 120) : Mt (gG D cI cJ cZ cT lo b L xs) mX11_keep d 0 0 [.ref x, .ref t] hp n (fun r hp1 n1 => r = some (.int ((nI i))) ∧ n1 = n ∧ hp1 x = some (.inr (10, [.ref th, .int ((nI (i + 1))), .int rf, .ref dr, .ref sk, .ref sh, .ref se, .ref pa, .ref fl, .ref sa])) ∧ hp1 th = some (.inl (cT, 120, .inr (.inr (.inr (.inr (va_up f i (some t))))))) ∧ ∀ (q : Nat) (e9 : va_E), hp q = some e9 → q ≠ th → q ≠ x → hp1 q = some e9) := by
  refine Mt.of rfl (Nat.le_of_ble_eq_true rfl) ?_
  refine Rn.pick (lv' := [(0, .ref x), (1, .ref t)]) [0, 1] rfl ?_
  refine r_aload_n (pc := 0) dX11_keep_0 (i := 0) rfl rfl ?_
  refine r_get (pc := 1) (v := .int ((nI i))) fX11_15 dX11_keep_1 gc0 rfl ?_
  refine r_istore_n (pc := 4) (lv' := [(2, .int ((nI i))), (0, .ref x), (1, .ref t)]) dX11_keep_4 (i := 2) rfl (by decide) rfl ?_
  refine r_iload_n (pc := 5) dX11_keep_5 (i := 2) rfl rfl ?_
  refine r_if_lt (pc := 6) (tgt := 15) dX11_keep_6 (by decide) (fun c9 => absurd c9 (nI_pos (by omega))) (fun _ => ?_)
  refine r_iload_n (pc := 9) dX11_keep_9 (i := 2) rfl rfl ?_
  refine r_bipush (pc := 10) (v := 120) dX11_keep_10 (by decide) ?_
  refine r_icmp_lt (pc := 12) (tgt := 22) dX11_keep_12 (by decide) (fun _ => ?_) (fun c9 => absurd (nI_lt (b := 120) (by omega) (by omega)) c9)
  refine r_aload_n (pc := 22) dX11_keep_22 (i := 0) rfl rfl ?_
  refine r_get (pc := 23) (v := .ref th) fX11_11 dX11_keep_23 gc0 rfl ?_
  refine r_iload_n (pc := 26) dX11_keep_26 (i := 2) rfl rfl ?_
  refine r_aload_n (pc := 27) dX11_keep_27 (i := 1) rfl rfl ?_
  refine w_aast (pc := 28) (t0 := 3) (f' := va_up f i (some t)) (r := (RX3, TX3, 14)) dX11_keep_28 rfl rfl (show (RX3, "GraphEngine$Thing") ∈ cas by decide +kernel) gc1 gc2 (vp_in_nI (by omega) (by omega)) (by rw [nI_clamp (by omega)]) (fun hp_1 h_2 ho_3 => ?_)
  refine r_aload_n (pc := 29) dX11_keep_29 (i := 0) rfl rfl ?_
  refine r_iload_n (pc := 30) dX11_keep_30 (i := 2) rfl rfl ?_
  refine r_iconst (pc := 31) (v := 1) dX11_keep_31 (by decide) ?_
  refine r_iadd (pc := 32) (v := (nI (i + 1))) dX11_keep_32 (nI_1 i) ?_
  have h_4 : hp_1 x = some (.inr (10, [.ref th, .int ((nI i)), .int rf, .ref dr, .ref sk, .ref sh, .ref se, .ref pa, .ref fl, .ref sa])) := ((ho_3 x (ne_c gc0 gc1 (by intro h9; cases h9))).trans gc0)
  refine w_put (pc := 33) (ty := .int) (fs' := [.ref th, .int ((nI (i + 1))), .int rf, .ref dr, .ref sk, .ref sh, .ref se, .ref pa, .ref fl, .ref sa]) fX11_15 tyX11 tyX11_ok nmX11 (by decide +kernel) (Or.inl rfl) dX11_keep_33 h_4 (Nat.le_of_ble_eq_true rfl) (rfl) (rfl) rfl (fun hp_5 h_6 ho_7 => ?_)
  refine r_iload_n (pc := 36) dX11_keep_36 (i := 2) rfl rfl ?_
  have h_8 : hp_5 th = some (.inl (cT, 120, .inr (.inr (.inr (.inr (va_up f i (some t))))))) := ((ho_7 th (ne_c gc1 gc0 (by intro h9; cases h9))).trans h_2)
  exact r_iret (pc := 37) dX11_keep_37 rfl (⟨rfl, rfl, h_6, h_8, fun q e9 h9 n9_0 n9_1 => ((ho_7 q n9_1).trans ((ho_3 q n9_0).trans h9))⟩)
set_option maxHeartbeats 4000000 in
set_option maxRecDepth 100000 in
theorem c_X11_graph_0 {D : va_G} {cI cJ cZ cT : ClassId} {lo b L : Nat} {xs : Nat → Int32} {hp : MH} {n d : Nat} {x th dr sk sh se pa fl sa : Nat} {rf : Int32} {af au aw ac al N i : Nat} {q : Bool} {f1 f2 f3 f4 : Nat → Int32} {f : Nat → Option Nat} (hd0 : 3 ≤ d) (gc0 : hp x = some (.inr (10, [.ref th, .int ((nI i)), .int rf, .ref dr, .ref sk, .ref sh, .ref se, .ref pa, .ref fl, .ref sa]))) (gc1 : hp dr = some (.inr (1, [.int ((nI N)), .int ((bI q)), .int 0, .ref af, .ref au, .ref aw, .ref ac, .ref al]))) (gc2 : hp af = some (.inl (cI, 60, .inl (f1)))) (gc3 : hp au = some (.inl (cI, 60, .inl (f2)))) (gc4 : hp aw = some (.inl (cI, 60, .inl (f3)))) (gc5 : hp ac = some (.inl (cI, 60, .inl (f4)))) (gc6 : hp th = some (.inl (cT, 120, .inr (.inr (.inr (.inr (f))))))) (hi : i < 120) (hN : N ≤ 16) : Mt (gG D cI cJ cZ cT lo b L xs) mX11_graph d 11 (14 + (0 + 0 + 0 + 0 + N + N + N + 0 + 0 + 0)) [.ref x] hp n (fun r hp1 n1 => r = some (.int ((nI i))) ∧ n1 = n + 11 ∧ hp1 x = some (.inr (10, [.ref th, .int ((nI (i + 1))), .int 0, .ref dr, .ref sk, .ref sh, .ref se, .ref pa, .ref fl, .ref sa])) ∧ hp1 th = some (.inl (cT, 120, .inr (.inr (.inr (.inr (va_up f i (some n))))))) ∧ ∀ (q : Nat) (e9 : va_E), hp q = some e9 → q ≠ x → q ≠ th → hp1 q = some e9) := by
  refine Mt.of rfl (Nat.le_of_ble_eq_true rfl) ?_
  refine Rn.pick (lv' := [(0, .ref x)]) [0] rfl ?_
  refine Rn.bd (fun bd => ?_)
  have l_x := bd _ _ gc0
  have l_dr := bd _ _ gc1
  have l_af := bd _ _ gc2
  have l_au := bd _ _ gc3
  have l_aw := bd _ _ gc4
  have l_ac := bd _ _ gc5
  have l_th := bd _ _ gc6
  refine r_aload_n (pc := 0) dX11_graph_0 (i := 0) rfl rfl ?_
  refine r_iconst (pc := 1) (v := 0) dX11_graph_1 (by decide) ?_
  refine w_put (pc := 2) (ty := .int) (fs' := [.ref th, .int ((nI i)), .int 0, .ref dr, .ref sk, .ref sh, .ref se, .ref pa, .ref fl, .ref sa]) fX11_19 tyX11 tyX11_ok nmX11 (by decide +kernel) (Or.inl rfl) dX11_graph_2 gc0 (Nat.le_of_ble_eq_true rfl) (rfl) (rfl) rfl (fun hp_1 h_2 ho_3 => ?_)
  refine r_aload_n (pc := 5) dX11_graph_5 (i := 0) rfl rfl ?_
  refine r_callV (pc := 6) (as := []) (st := []) kX11_93 rfl dX11_graph_6 h_2 (c_X11_isFull (d := d - 1) (th := th) (cnt := (nI i)) (rf := 0) (dr := dr) (sk := sk) (sh := sh) (se := se) (pa := pa) (fl := fl) (sa := sa) (x := x) (by omega) h_2 ) rfl (by omega) (Nat.le_of_ble_eq_true rfl) (by omega) (by omega) rfl (fun r9 hp_4 nn_5 hq_6 => ?_)
  obtain ⟨rfl, hq_6n, ho_7⟩ := hq_6
  subst nn_5
  change Rn _ _ _ 9 _ [.int ((bI (decide (¬ (nI i) < 120))))] _ _ _ _ _
  refine r_if_eq (pc := 9) (tgt := 21) dX11_graph_9 (by decide) (fun _ => ?_) (fun c9 => absurd (bI_f (decide_eq_false (fun h9 => h9 (nI_lt (b := 120) (by omega) (by omega))))) c9)
  refine r_aload_n (pc := 21) dX11_graph_21 (i := 0) rfl rfl ?_
  refine w_new (pc := 22) (fs := [.int 0, .int 0, .int 0, .null, .null, .null, .null, .int 0, .null, .null, .null, .null, .null, .null]) nX11_97 tyX3 tyX3_ok (by decide +kernel) dX11_graph_22 (by omega) (by omega) (fun hp_8 h_9 hk_10 ho_11 => ?_)
  refine r_dup (pc := 25) dX11_graph_25 rfl ?_
  refine r_aload_n (pc := 26) dX11_graph_26 (i := 0) rfl rfl ?_
  have h_12 : hp_8 x = some (.inr (10, [.ref th, .int ((nI i)), .int 0, .ref dr, .ref sk, .ref sh, .ref se, .ref pa, .ref fl, .ref sa])) := (hk_10 x _ (ho_7 x _ h_2))
  refine r_get (pc := 27) (v := .ref dr) fX11_25 dX11_graph_27 h_12 rfl ?_
  have h_16 : hp_8 dr = some (.inr (1, [.int ((nI N)), .int ((bI q)), .int 0, .ref af, .ref au, .ref aw, .ref ac, .ref al])) := (hk_10 dr _ (ho_7 dr _ ((ho_3 dr (ne_c gc1 gc0 (by intro h9; cases h9))).trans gc1)))
  have h_17 : hp_8 af = some (.inl (cI, 60, .inl (f1))) := (hk_10 af _ (ho_7 af _ ((ho_3 af (ne_c gc2 gc0 (by intro h9; cases h9))).trans gc2)))
  have h_18 : hp_8 au = some (.inl (cI, 60, .inl (f2))) := (hk_10 au _ (ho_7 au _ ((ho_3 au (ne_c gc3 gc0 (by intro h9; cases h9))).trans gc3)))
  have h_19 : hp_8 aw = some (.inl (cI, 60, .inl (f3))) := (hk_10 aw _ (ho_7 aw _ ((ho_3 aw (ne_c gc4 gc0 (by intro h9; cases h9))).trans gc4)))
  have h_20 : hp_8 ac = some (.inl (cI, 60, .inl (f4))) := (hk_10 ac _ (ho_7 ac _ ((ho_3 ac (ne_c gc5 gc0 (by intro h9; cases h9))).trans gc5)))
  refine r_callI (pc := 30) (as := [.ref dr]) (st := [.ref n, .ref x]) kX11_99 dX11_graph_30 (c_X3_init_0 (d := d - 1) (a := n) (af := af) (au := au) (aw := aw) (ac := ac) (al := al) (dr := dr) (N := N) (q := q) (f1 := f1) (f2 := f2) (f3 := f3) (f4 := f4) (by omega) h_9 h_16 h_17 h_18 h_19 h_20 (by omega)) rfl (by omega) (Nat.le_of_ble_eq_true rfl) (by omega) (by omega) rfl (fun r9 hp_13 nn_14 hq_15 => ?_)
  obtain ⟨rfl, hq_15n, h_21, h_22, h_23, h_24, h_25, h_26, h_27, h_28, h_29, h_30, h_31, ho_32⟩ := hq_15
  subst nn_14
  change Rn _ _ _ 33 _ [.ref n, .ref x] _ _ _ _ _
  have h_36 : hp_13 x = some (.inr (10, [.ref th, .int ((nI i)), .int 0, .ref dr, .ref sk, .ref sh, .ref se, .ref pa, .ref fl, .ref sa])) := (ho_32 x _ h_12 (ne_an l_x 0))
  have h_37 : hp_13 th = some (.inl (cT, 120, .inr (.inr (.inr (.inr (f)))))) := (ho_32 th _ (hk_10 th _ (ho_7 th _ ((ho_3 th (ne_c gc6 gc0 (by intro h9; cases h9))).trans gc6))) (ne_an l_th 0))
  refine r_callV (pc := 33) (as := [.ref n]) (st := []) kX11_102 rfl dX11_graph_33 h_36 (c_X11_keep_X3 (d := d - 1) (th := th) (rf := 0) (dr := dr) (sk := sk) (sh := sh) (se := se) (pa := pa) (fl := fl) (sa := sa) (x := x) (i := i) (t := n) (f := f) (v0 := .int ((nI N))) (v1 := .int ((bI q))) (v2 := .int 0) (v3 := .ref ((n + 1))) (v4 := .ref ((n + 2))) (v5 := .ref ((n + 3))) (v6 := .ref ((n + 4))) (v7 := .int 0) (v8 := .ref ((n + 8))) (v9 := .ref ((n + 9))) (v10 := .ref ((n + 10))) (v11 := .ref ((n + 5))) (v12 := .ref ((n + 6))) (v13 := .ref ((n + 7))) (by omega) h_36 h_37 h_21 (by omega)) rfl (by omega) (Nat.le_of_ble_eq_true rfl) (by omega) (by omega) rfl (fun r9 hp_33 nn_34 hq_35 => ?_)
  obtain ⟨rfl, hq_35n, h_38, h_39, ho_40⟩ := hq_35
  subst nn_34
  change Rn _ _ _ 36 _ [.int ((nI i))] _ _ _ _ _
  exact r_iret (pc := 36) dX11_graph_36 rfl (⟨rfl, rfl, h_38, h_39, fun q e9 h9 n9_0 n9_1 => have l9 := bd q e9 h9; (ho_40 q e9 (ho_32 q e9 (hk_10 q e9 (ho_7 q e9 ((ho_3 q n9_0).trans h9) )) (ne_an l9 0)) n9_1 n9_0)⟩)
set_option maxHeartbeats 4000000 in
set_option maxRecDepth 100000 in
theorem c_X11_flat_no {D : va_G} {cI cJ cZ cT : ClassId} {lo b L : Nat} {xs : Nat → Int32} {hp : MH} {n d : Nat} {x th dr sk sh se pa fl sa : Nat} {cnt rf : Int32} {p1 p4 : Int32} {p2 p5 : Int64} (hd0 : 1 ≤ d) (gc0 : hp x = some (.inr (10, [.ref th, .int cnt, .int rf, .ref dr, .ref sk, .ref sh, .ref se, .ref pa, .ref fl, .ref sa]))) (hno : ¬ (¬ p1 < 1 ∧ ¬ 16 < p1 ∧ ¬ p4 < (-1) ∧ p4 < p1)) : Mt (gG D cI cJ cZ cT lo b L xs) mX11_flat d 0 0 [.ref x, .int p1, .long p2, .int p4, .long p5] hp n (fun r hp1 n1 => r = some (.int ((-3))) ∧ n1 = n ∧ hp1 x = some (.inr (10, [.ref th, .int cnt, .int ((-3)), .ref dr, .ref sk, .ref sh, .ref se, .ref pa, .ref fl, .ref sa])) ∧ ∀ (q : Nat) (e9 : va_E), hp q = some e9 → q ≠ x → hp1 q = some e9) := by
  refine Mt.of rfl (Nat.le_of_ble_eq_true rfl) ?_
  refine Rn.pick (lv' := [(0, .ref x), (1, .int p1), (2, .long p2), (4, .int p4), (5, .long p5)]) [0, 1, 2, 3, 4] rfl ?_
  refine r_aload_n (pc := 0) dX11_flat_0 (i := 0) rfl rfl ?_
  refine r_iconst (pc := 1) (v := 0) dX11_flat_1 (by decide) ?_
  refine w_put (pc := 2) (ty := .int) (fs' := [.ref th, .int cnt, .int 0, .ref dr, .ref sk, .ref sh, .ref se, .ref pa, .ref fl, .ref sa]) fX11_19 tyX11 tyX11_ok nmX11 (by decide +kernel) (Or.inl rfl) dX11_flat_2 gc0 (Nat.le_of_ble_eq_true rfl) (rfl) (rfl) rfl (fun hp_1 h_2 ho_3 => ?_)
  refine r_iload_n (pc := 5) dX11_flat_5 (i := 1) rfl rfl ?_
  refine r_iconst (pc := 6) (v := 1) dX11_flat_6 (by decide) ?_
  refine r_icmp_lt (pc := 7) (tgt := 28) dX11_flat_7 (by decide) (fun c7 => ?_) (fun c7 => ?_)
  · refine r_aload_n (pc := 28) dX11_flat_28 (i := 0) rfl rfl ?_
    refine r_bipush (pc := 29) (v := (-3)) dX11_flat_29 (by decide) ?_
    refine r_callV (pc := 31) (as := [.int ((-3))]) (st := []) kX11_82 rfl dX11_flat_31 h_2 (c_X11_refuse (d := d - 1) (th := th) (cnt := cnt) (rf := 0) (dr := dr) (sk := sk) (sh := sh) (se := se) (pa := pa) (fl := fl) (sa := sa) (x := x) (p1 := (-3)) (by omega) h_2 ) rfl (by omega) (Nat.le_of_ble_eq_true rfl) (by omega) (by omega) rfl (fun r9 hp_4 nn_5 hq_6 => ?_)
    obtain ⟨rfl, hq_6n, h_7, ho_8⟩ := hq_6
    subst nn_5
    change Rn _ _ _ 34 _ [.int ((-3))] _ _ _ _ _
    exact r_iret (pc := 34) dX11_flat_34 rfl (⟨rfl, rfl, h_7, fun q e9 h9 n9_0 => (ho_8 q e9 ((ho_3 q n9_0).trans h9) n9_0)⟩)
  · refine r_iload_n (pc := 10) dX11_flat_10 (i := 1) rfl rfl ?_
    refine r_bipush (pc := 11) (v := 16) dX11_flat_11 (by decide) ?_
    refine r_icmp_gt (pc := 13) (tgt := 28) dX11_flat_13 (by decide) (fun c13 => ?_) (fun c13 => ?_)
    · refine r_aload_n (pc := 28) dX11_flat_28 (i := 0) rfl rfl ?_
      refine r_bipush (pc := 29) (v := (-3)) dX11_flat_29 (by decide) ?_
      refine r_callV (pc := 31) (as := [.int ((-3))]) (st := []) kX11_82 rfl dX11_flat_31 h_2 (c_X11_refuse (d := d - 1) (th := th) (cnt := cnt) (rf := 0) (dr := dr) (sk := sk) (sh := sh) (se := se) (pa := pa) (fl := fl) (sa := sa) (x := x) (p1 := (-3)) (by omega) h_2 ) rfl (by omega) (Nat.le_of_ble_eq_true rfl) (by omega) (by omega) rfl (fun r9 hp_9 nn_10 hq_11 => ?_)
      obtain ⟨rfl, hq_11n, h_12, ho_13⟩ := hq_11
      subst nn_10
      change Rn _ _ _ 34 _ [.int ((-3))] _ _ _ _ _
      exact r_iret (pc := 34) dX11_flat_34 rfl (⟨rfl, rfl, h_12, fun q e9 h9 n9_0 => (ho_13 q e9 ((ho_3 q n9_0).trans h9) n9_0)⟩)
    · refine r_iload (pc := 16) dX11_flat_16 rfl ?_
      refine r_iconst (pc := 18) (v := (-1)) dX11_flat_18 (by decide) ?_
      refine r_icmp_lt (pc := 19) (tgt := 28) dX11_flat_19 (by decide) (fun c19 => ?_) (fun c19 => ?_)
      · refine r_aload_n (pc := 28) dX11_flat_28 (i := 0) rfl rfl ?_
        refine r_bipush (pc := 29) (v := (-3)) dX11_flat_29 (by decide) ?_
        refine r_callV (pc := 31) (as := [.int ((-3))]) (st := []) kX11_82 rfl dX11_flat_31 h_2 (c_X11_refuse (d := d - 1) (th := th) (cnt := cnt) (rf := 0) (dr := dr) (sk := sk) (sh := sh) (se := se) (pa := pa) (fl := fl) (sa := sa) (x := x) (p1 := (-3)) (by omega) h_2 ) rfl (by omega) (Nat.le_of_ble_eq_true rfl) (by omega) (by omega) rfl (fun r9 hp_14 nn_15 hq_16 => ?_)
        obtain ⟨rfl, hq_16n, h_17, ho_18⟩ := hq_16
        subst nn_15
        change Rn _ _ _ 34 _ [.int ((-3))] _ _ _ _ _
        exact r_iret (pc := 34) dX11_flat_34 rfl (⟨rfl, rfl, h_17, fun q e9 h9 n9_0 => (ho_18 q e9 ((ho_3 q n9_0).trans h9) n9_0)⟩)
      · refine r_iload (pc := 22) dX11_flat_22 rfl ?_
        refine r_iload_n (pc := 24) dX11_flat_24 (i := 1) rfl rfl ?_
        refine r_icmp_lt (pc := 25) (tgt := 35) dX11_flat_25 (by decide) (fun c25 => ?_) (fun c25 => ?_)
        · exact absurd ⟨c7, c13, c19, c25⟩ hno
        · refine r_aload_n (pc := 28) dX11_flat_28 (i := 0) rfl rfl ?_
          refine r_bipush (pc := 29) (v := (-3)) dX11_flat_29 (by decide) ?_
          refine r_callV (pc := 31) (as := [.int ((-3))]) (st := []) kX11_82 rfl dX11_flat_31 h_2 (c_X11_refuse (d := d - 1) (th := th) (cnt := cnt) (rf := 0) (dr := dr) (sk := sk) (sh := sh) (se := se) (pa := pa) (fl := fl) (sa := sa) (x := x) (p1 := (-3)) (by omega) h_2 ) rfl (by omega) (Nat.le_of_ble_eq_true rfl) (by omega) (by omega) rfl (fun r9 hp_19 nn_20 hq_21 => ?_)
          obtain ⟨rfl, hq_21n, h_22, ho_23⟩ := hq_21
          subst nn_20
          change Rn _ _ _ 34 _ [.int ((-3))] _ _ _ _ _
          exact r_iret (pc := 34) dX11_flat_34 rfl (⟨rfl, rfl, h_22, fun q e9 h9 n9_0 => (ho_23 q e9 ((ho_3 q n9_0).trans h9) n9_0)⟩)
set_option maxHeartbeats 4000000 in
set_option maxRecDepth 100000 in
theorem c_X11_flat_a {D : va_G} {cI cJ cZ cT : ClassId} {lo b L : Nat} {xs : Nat → Int32} {hp : MH} {n d : Nat} {x th dr sk sh se pa fl sa : Nat} {rf p4 : Int32} {p2 p5 : Int64} {i N : Nat} {f : Nat → Option Nat} (hd0 : 2 ≤ d) (gc0 : hp x = some (.inr (10, [.ref th, .int ((nI i)), .int rf, .ref dr, .ref sk, .ref sh, .ref se, .ref pa, .ref fl, .ref sa]))) (gc1 : hp th = some (.inl (cT, 120, .inr (.inr (.inr (.inr (f))))))) (hi : i < 120) (h1 : 1 ≤ N) (hN : N ≤ 16) (h4 : ¬ p4 < (-1)) (h5 : p4 < nI N) (h6 : p4 < 0) : Mt (gG D cI cJ cZ cT lo b L xs) mX11_flat d 2 (2 + N) [.ref x, .int ((nI N)), .long p2, .int p4, .long p5] hp n (fun r hp1 n1 => r = some (.int ((nI i))) ∧ n1 = n + 2 ∧ hp1 x = some (.inr (10, [.ref th, .int ((nI (i + 1))), .int 0, .ref dr, .ref sk, .ref sh, .ref se, .ref pa, .ref fl, .ref sa])) ∧ hp1 th = some (.inl (cT, 120, .inr (.inr (.inr (.inr (va_up f i (some n))))))) ∧ hp1 n = some (.inr (0, [.int ((nI N)), .ref ((n + 1))])) ∧ hp1 (n + 1) = some (.inl (cJ, N, .inr (.inl (fun j => if j < N then p2 else 0)))) ∧ ∀ (q : Nat) (e9 : va_E), hp q = some e9 → q ≠ x → q ≠ th → hp1 q = some e9) := by
  refine Mt.of rfl (Nat.le_of_ble_eq_true rfl) ?_
  refine Rn.pick (lv' := [(0, .ref x), (1, .int ((nI N))), (2, .long p2), (4, .int p4), (5, .long p5)]) [0, 1, 2, 3, 4] rfl ?_
  refine Rn.bd (fun bd => ?_)
  have l_x := bd _ _ gc0
  have l_th := bd _ _ gc1
  refine r_aload_n (pc := 0) dX11_flat_0 (i := 0) rfl rfl ?_
  refine r_iconst (pc := 1) (v := 0) dX11_flat_1 (by decide) ?_
  refine w_put (pc := 2) (ty := .int) (fs' := [.ref th, .int ((nI i)), .int 0, .ref dr, .ref sk, .ref sh, .ref se, .ref pa, .ref fl, .ref sa]) fX11_19 tyX11 tyX11_ok nmX11 (by decide +kernel) (Or.inl rfl) dX11_flat_2 gc0 (Nat.le_of_ble_eq_true rfl) (rfl) (rfl) rfl (fun hp_1 h_2 ho_3 => ?_)
  refine r_iload_n (pc := 5) dX11_flat_5 (i := 1) rfl rfl ?_
  refine r_iconst (pc := 6) (v := 1) dX11_flat_6 (by decide) ?_
  refine r_icmp_lt (pc := 7) (tgt := 28) dX11_flat_7 (by decide) (fun c9 => absurd c9 (nI_nlt (b := 1) (by omega) (by omega))) (fun _ => ?_)
  refine r_iload_n (pc := 10) dX11_flat_10 (i := 1) rfl rfl ?_
  refine r_bipush (pc := 11) (v := 16) dX11_flat_11 (by decide) ?_
  refine r_icmp_gt (pc := 13) (tgt := 28) dX11_flat_13 (by decide) (fun c9 => absurd c9 (nI_nlt (a := 16) (by omega) (by omega))) (fun _ => ?_)
  refine r_iload (pc := 16) dX11_flat_16 rfl ?_
  refine r_iconst (pc := 18) (v := (-1)) dX11_flat_18 (by decide) ?_
  refine r_icmp_lt (pc := 19) (tgt := 28) dX11_flat_19 (by decide) (fun c9 => absurd c9 (h4)) (fun _ => ?_)
  refine r_iload (pc := 22) dX11_flat_22 rfl ?_
  refine r_iload_n (pc := 24) dX11_flat_24 (i := 1) rfl rfl ?_
  refine r_icmp_lt (pc := 25) (tgt := 35) dX11_flat_25 (by decide) (fun _ => ?_) (fun c9 => absurd (h5) c9)
  refine r_aload_n (pc := 35) dX11_flat_35 (i := 0) rfl rfl ?_
  refine r_callV (pc := 36) (as := []) (st := []) kX11_93 rfl dX11_flat_36 h_2 (c_X11_isFull (d := d - 1) (th := th) (cnt := (nI i)) (rf := 0) (dr := dr) (sk := sk) (sh := sh) (se := se) (pa := pa) (fl := fl) (sa := sa) (x := x) (by omega) h_2 ) rfl (by omega) (Nat.le_of_ble_eq_true rfl) (by omega) (by omega) rfl (fun r9 hp_4 nn_5 hq_6 => ?_)
  obtain ⟨rfl, hq_6n, ho_7⟩ := hq_6
  subst nn_5
  change Rn _ _ _ 39 _ [.int ((bI (decide (¬ (nI i) < 120))))] _ _ _ _ _
  refine r_if_eq (pc := 39) (tgt := 49) dX11_flat_39 (by decide) (fun _ => ?_) (fun c9 => absurd (bI_f (decide_eq_false (fun h9 => h9 (nI_lt (b := 120) (by omega) (by omega))))) c9)
  refine w_new (pc := 49) (fs := [.int 0, .null]) nX11_151 tyX0 tyX0_ok (by decide +kernel) dX11_flat_49 (by omega) (by omega) (fun hp_8 h_9 hk_10 ho_11 => ?_)
  refine r_dup (pc := 52) dX11_flat_52 rfl ?_
  refine r_iload_n (pc := 53) dX11_flat_53 (i := 1) rfl rfl ?_
  refine r_callI (pc := 54) (as := [.int ((nI N))]) (st := [.ref n]) kX11_153 dX11_flat_54 (c_X0_init (d := d - 1) (a := n) (N := N) (by omega) h_9 (by omega)) rfl (by omega) (Nat.le_of_ble_eq_true rfl) (by omega) (by omega) rfl (fun r9 hp_12 nn_13 hq_14 => ?_)
  obtain ⟨rfl, hq_14n, h_15, h_16, ho_17⟩ := hq_14
  subst nn_13
  change Rn _ _ _ 57 _ [.ref n] _ _ _ _ _
  refine r_astore (pc := 57) (lv' := [(7, .ref n), (0, .ref x), (1, .int ((nI N))), (2, .long p2), (4, .int p4), (5, .long p5)]) dX11_flat_57 (by decide) rfl ?_
  refine r_aload (pc := 59) dX11_flat_59 rfl ?_
  refine r_get (pc := 61) (v := .ref ((n + 1))) fX11_160 dX11_flat_61 h_15 rfl ?_
  refine r_lload_n (pc := 64) dX11_flat_64 (i := 2) rfl rfl ?_
  refine r_callS (pc := 65) (as := [.ref ((n + 1)), .long p2]) (st := []) kX11_164 dX11_flat_65 (c_J7_fill_d0a16 (d := d - 1) (a := (n + 1)) (N := N) (f := fun _ => 0) (v := p2) (by omega) h_16 (by omega)) rfl (by omega) (Nat.le_of_ble_eq_true rfl) (by omega) (by omega) rfl (fun r9 hp_18 nn_19 hq_20 => ?_)
  obtain ⟨rfl, hq_20n, h_21, ho_22⟩ := hq_20
  subst nn_19
  change Rn _ _ _ 68 _ [] _ _ _ _ _
  refine r_iload (pc := 68) dX11_flat_68 rfl ?_
  refine r_if_lt (pc := 70) (tgt := 83) dX11_flat_70 (by decide) (fun _ => ?_) (fun c9 => absurd (h6) c9)
  refine r_aload_n (pc := 83) dX11_flat_83 (i := 0) rfl rfl ?_
  refine r_aload (pc := 84) dX11_flat_84 rfl ?_
  have h_26 : hp_18 x = some (.inr (10, [.ref th, .int ((nI i)), .int 0, .ref dr, .ref sk, .ref sh, .ref se, .ref pa, .ref fl, .ref sa])) := (ho_22 x _ (ho_17 x _ (hk_10 x _ (ho_7 x _ h_2)) (ne_an l_x 0)) (ne_an l_x 1))
  have h_27 : hp_18 th = some (.inl (cT, 120, .inr (.inr (.inr (.inr (f)))))) := (ho_22 th _ (ho_17 th _ (hk_10 th _ (ho_7 th _ ((ho_3 th (ne_c gc1 gc0 (by intro h9; cases h9))).trans gc1))) (ne_an l_th 0)) (ne_an l_th 1))
  have h_28 : hp_18 n = some (.inr (0, [.int ((nI N)), .ref ((n + 1))])) := (ho_22 n _ h_15 (ne_nn n (i := 0) (j := 1) rfl))
  refine r_callV (pc := 86) (as := [.ref n]) (st := []) kX11_102 rfl dX11_flat_86 h_26 (c_X11_keep_X0 (d := d - 1) (th := th) (rf := 0) (dr := dr) (sk := sk) (sh := sh) (se := se) (pa := pa) (fl := fl) (sa := sa) (x := x) (i := i) (t := n) (f := f) (k1 := (nI N)) (k2 := .ref ((n + 1))) (by omega) h_26 h_27 h_28 (by omega)) rfl (by omega) (Nat.le_of_ble_eq_true rfl) (by omega) (by omega) rfl (fun r9 hp_23 nn_24 hq_25 => ?_)
  obtain ⟨rfl, hq_25n, h_29, h_30, ho_31⟩ := hq_25
  subst nn_24
  change Rn _ _ _ 89 _ [.int ((nI i))] _ _ _ _ _
  have h_32 : hp_23 n = some (.inr (0, [.int ((nI N)), .ref ((n + 1))])) := (ho_31 n _ h_28 (Ne.symm (ne_an l_th 0)) (Ne.symm (ne_an l_x 0)))
  have h_33 : hp_23 (n + 1) = some (.inl (cJ, N, .inr (.inl (fun j => if j < N then p2 else (fun _ => 0) j)))) := (ho_31 (n + 1) _ h_21 (Ne.symm (ne_an l_th 1)) (Ne.symm (ne_an l_x 1)))
  exact r_iret (pc := 89) dX11_flat_89 rfl (⟨rfl, rfl, h_29, h_30, h_32, h_33, fun q e9 h9 n9_0 n9_1 => have l9 := bd q e9 h9; (ho_31 q e9 (ho_22 q e9 (ho_17 q e9 (hk_10 q e9 (ho_7 q e9 ((ho_3 q n9_0).trans h9) )) (ne_an l9 0)) (ne_an l9 1)) n9_1 n9_0)⟩)
set_option maxHeartbeats 4000000 in
set_option maxRecDepth 100000 in
theorem c_X11_flat_b {D : va_G} {cI cJ cZ cT : ClassId} {lo b L : Nat} {xs : Nat → Int32} {hp : MH} {n d : Nat} {x th dr sk sh se pa fl sa : Nat} {rf p4 : Int32} {p2 p5 : Int64} {i N : Nat} {f : Nat → Option Nat} (hd0 : 2 ≤ d) (gc0 : hp x = some (.inr (10, [.ref th, .int ((nI i)), .int rf, .ref dr, .ref sk, .ref sh, .ref se, .ref pa, .ref fl, .ref sa]))) (gc1 : hp th = some (.inl (cT, 120, .inr (.inr (.inr (.inr (f))))))) (hi : i < 120) (h1 : 1 ≤ N) (hN : N ≤ 16) (h4 : ¬ p4 < (-1)) (h5 : p4 < nI N) (h6 : ¬ p4 < 0) : Mt (gG D cI cJ cZ cT lo b L xs) mX11_flat d 2 (2 + N) [.ref x, .int ((nI N)), .long p2, .int p4, .long p5] hp n (fun r hp1 n1 => r = some (.int ((nI i))) ∧ n1 = n + 2 ∧ hp1 x = some (.inr (10, [.ref th, .int ((nI (i + 1))), .int 0, .ref dr, .ref sk, .ref sh, .ref se, .ref pa, .ref fl, .ref sa])) ∧ hp1 th = some (.inl (cT, 120, .inr (.inr (.inr (.inr (va_up f i (some n))))))) ∧ hp1 n = some (.inr (0, [.int ((nI N)), .ref ((n + 1))])) ∧ hp1 (n + 1) = some (.inl (cJ, N, .inr (.inl (vp_updL (fun j => if j < N then p2 else 0) p4.toNatClampNeg p5)))) ∧ ∀ (q : Nat) (e9 : va_E), hp q = some e9 → q ≠ x → q ≠ th → hp1 q = some e9) := by
  refine Mt.of rfl (Nat.le_of_ble_eq_true rfl) ?_
  refine Rn.pick (lv' := [(0, .ref x), (1, .int ((nI N))), (2, .long p2), (4, .int p4), (5, .long p5)]) [0, 1, 2, 3, 4] rfl ?_
  refine Rn.bd (fun bd => ?_)
  have l_x := bd _ _ gc0
  have l_th := bd _ _ gc1
  refine r_aload_n (pc := 0) dX11_flat_0 (i := 0) rfl rfl ?_
  refine r_iconst (pc := 1) (v := 0) dX11_flat_1 (by decide) ?_
  refine w_put (pc := 2) (ty := .int) (fs' := [.ref th, .int ((nI i)), .int 0, .ref dr, .ref sk, .ref sh, .ref se, .ref pa, .ref fl, .ref sa]) fX11_19 tyX11 tyX11_ok nmX11 (by decide +kernel) (Or.inl rfl) dX11_flat_2 gc0 (Nat.le_of_ble_eq_true rfl) (rfl) (rfl) rfl (fun hp_1 h_2 ho_3 => ?_)
  refine r_iload_n (pc := 5) dX11_flat_5 (i := 1) rfl rfl ?_
  refine r_iconst (pc := 6) (v := 1) dX11_flat_6 (by decide) ?_
  refine r_icmp_lt (pc := 7) (tgt := 28) dX11_flat_7 (by decide) (fun c9 => absurd c9 (nI_nlt (b := 1) (by omega) (by omega))) (fun _ => ?_)
  refine r_iload_n (pc := 10) dX11_flat_10 (i := 1) rfl rfl ?_
  refine r_bipush (pc := 11) (v := 16) dX11_flat_11 (by decide) ?_
  refine r_icmp_gt (pc := 13) (tgt := 28) dX11_flat_13 (by decide) (fun c9 => absurd c9 (nI_nlt (a := 16) (by omega) (by omega))) (fun _ => ?_)
  refine r_iload (pc := 16) dX11_flat_16 rfl ?_
  refine r_iconst (pc := 18) (v := (-1)) dX11_flat_18 (by decide) ?_
  refine r_icmp_lt (pc := 19) (tgt := 28) dX11_flat_19 (by decide) (fun c9 => absurd c9 (h4)) (fun _ => ?_)
  refine r_iload (pc := 22) dX11_flat_22 rfl ?_
  refine r_iload_n (pc := 24) dX11_flat_24 (i := 1) rfl rfl ?_
  refine r_icmp_lt (pc := 25) (tgt := 35) dX11_flat_25 (by decide) (fun _ => ?_) (fun c9 => absurd (h5) c9)
  refine r_aload_n (pc := 35) dX11_flat_35 (i := 0) rfl rfl ?_
  refine r_callV (pc := 36) (as := []) (st := []) kX11_93 rfl dX11_flat_36 h_2 (c_X11_isFull (d := d - 1) (th := th) (cnt := (nI i)) (rf := 0) (dr := dr) (sk := sk) (sh := sh) (se := se) (pa := pa) (fl := fl) (sa := sa) (x := x) (by omega) h_2 ) rfl (by omega) (Nat.le_of_ble_eq_true rfl) (by omega) (by omega) rfl (fun r9 hp_4 nn_5 hq_6 => ?_)
  obtain ⟨rfl, hq_6n, ho_7⟩ := hq_6
  subst nn_5
  change Rn _ _ _ 39 _ [.int ((bI (decide (¬ (nI i) < 120))))] _ _ _ _ _
  refine r_if_eq (pc := 39) (tgt := 49) dX11_flat_39 (by decide) (fun _ => ?_) (fun c9 => absurd (bI_f (decide_eq_false (fun h9 => h9 (nI_lt (b := 120) (by omega) (by omega))))) c9)
  refine w_new (pc := 49) (fs := [.int 0, .null]) nX11_151 tyX0 tyX0_ok (by decide +kernel) dX11_flat_49 (by omega) (by omega) (fun hp_8 h_9 hk_10 ho_11 => ?_)
  refine r_dup (pc := 52) dX11_flat_52 rfl ?_
  refine r_iload_n (pc := 53) dX11_flat_53 (i := 1) rfl rfl ?_
  refine r_callI (pc := 54) (as := [.int ((nI N))]) (st := [.ref n]) kX11_153 dX11_flat_54 (c_X0_init (d := d - 1) (a := n) (N := N) (by omega) h_9 (by omega)) rfl (by omega) (Nat.le_of_ble_eq_true rfl) (by omega) (by omega) rfl (fun r9 hp_12 nn_13 hq_14 => ?_)
  obtain ⟨rfl, hq_14n, h_15, h_16, ho_17⟩ := hq_14
  subst nn_13
  change Rn _ _ _ 57 _ [.ref n] _ _ _ _ _
  refine r_astore (pc := 57) (lv' := [(7, .ref n), (0, .ref x), (1, .int ((nI N))), (2, .long p2), (4, .int p4), (5, .long p5)]) dX11_flat_57 (by decide) rfl ?_
  refine r_aload (pc := 59) dX11_flat_59 rfl ?_
  refine r_get (pc := 61) (v := .ref ((n + 1))) fX11_160 dX11_flat_61 h_15 rfl ?_
  refine r_lload_n (pc := 64) dX11_flat_64 (i := 2) rfl rfl ?_
  refine r_callS (pc := 65) (as := [.ref ((n + 1)), .long p2]) (st := []) kX11_164 dX11_flat_65 (c_J7_fill_d0a16 (d := d - 1) (a := (n + 1)) (N := N) (f := fun _ => 0) (v := p2) (by omega) h_16 (by omega)) rfl (by omega) (Nat.le_of_ble_eq_true rfl) (by omega) (by omega) rfl (fun r9 hp_18 nn_19 hq_20 => ?_)
  obtain ⟨rfl, hq_20n, h_21, ho_22⟩ := hq_20
  subst nn_19
  change Rn _ _ _ 68 _ [] _ _ _ _ _
  refine r_iload (pc := 68) dX11_flat_68 rfl ?_
  refine r_if_lt (pc := 70) (tgt := 83) dX11_flat_70 (by decide) (fun c9 => absurd c9 (h6)) (fun _ => ?_)
  refine r_aload (pc := 73) dX11_flat_73 rfl ?_
  have h_23 : hp_18 n = some (.inr (0, [.int ((nI N)), .ref ((n + 1))])) := (ho_22 n _ h_15 (ne_nn n (i := 0) (j := 1) rfl))
  refine r_get (pc := 75) (v := .ref ((n + 1))) fX11_160 dX11_flat_75 h_23 rfl ?_
  refine r_iload (pc := 78) dX11_flat_78 rfl ?_
  refine r_lload (pc := 80) dX11_flat_80 rfl ?_
  refine w_last (pc := 82) (t0 := 1) (f' := vp_updL (fun j => if j < N then p2 else 0) p4.toNatClampNeg p5) dX11_flat_82 rfl h_21 (by obtain ⟨j, hj, e⟩ := nI_of h6; rw [e]; exact vp_in_nI ((nI_ltI (by omega) (by omega)).mp (e ▸ h5)) (by omega)) (rfl) (fun hp_24 h_25 ho_26 => ?_)
  refine r_aload_n (pc := 83) dX11_flat_83 (i := 0) rfl rfl ?_
  refine r_aload (pc := 84) dX11_flat_84 rfl ?_
  have h_30 : hp_24 x = some (.inr (10, [.ref th, .int ((nI i)), .int 0, .ref dr, .ref sk, .ref sh, .ref se, .ref pa, .ref fl, .ref sa])) := ((ho_26 x (ne_an l_x 1)).trans (ho_22 x _ (ho_17 x _ (hk_10 x _ (ho_7 x _ h_2)) (ne_an l_x 0)) (ne_an l_x 1)))
  have h_31 : hp_24 th = some (.inl (cT, 120, .inr (.inr (.inr (.inr (f)))))) := ((ho_26 th (ne_an l_th 1)).trans (ho_22 th _ (ho_17 th _ (hk_10 th _ (ho_7 th _ ((ho_3 th (ne_c gc1 gc0 (by intro h9; cases h9))).trans gc1))) (ne_an l_th 0)) (ne_an l_th 1)))
  have h_32 : hp_24 n = some (.inr (0, [.int ((nI N)), .ref ((n + 1))])) := ((ho_26 n (ne_nn n (i := 0) (j := 1) rfl)).trans h_23)
  refine r_callV (pc := 86) (as := [.ref n]) (st := []) kX11_102 rfl dX11_flat_86 h_30 (c_X11_keep_X0 (d := d - 1) (th := th) (rf := 0) (dr := dr) (sk := sk) (sh := sh) (se := se) (pa := pa) (fl := fl) (sa := sa) (x := x) (i := i) (t := n) (f := f) (k1 := (nI N)) (k2 := .ref ((n + 1))) (by omega) h_30 h_31 h_32 (by omega)) rfl (by omega) (Nat.le_of_ble_eq_true rfl) (by omega) (by omega) rfl (fun r9 hp_27 nn_28 hq_29 => ?_)
  obtain ⟨rfl, hq_29n, h_33, h_34, ho_35⟩ := hq_29
  subst nn_28
  change Rn _ _ _ 89 _ [.int ((nI i))] _ _ _ _ _
  have h_36 : hp_27 n = some (.inr (0, [.int ((nI N)), .ref ((n + 1))])) := (ho_35 n _ h_32 (Ne.symm (ne_an l_th 0)) (Ne.symm (ne_an l_x 0)))
  have h_37 : hp_27 (n + 1) = some (.inl (cJ, N, .inr (.inl (vp_updL (fun j => if j < N then p2 else 0) p4.toNatClampNeg p5)))) := (ho_35 (n + 1) _ h_25 (Ne.symm (ne_an l_th 1)) (Ne.symm (ne_an l_x 1)))
  exact r_iret (pc := 89) dX11_flat_89 rfl (⟨rfl, rfl, h_33, h_34, h_36, h_37, fun q e9 h9 n9_0 n9_1 => have l9 := bd q e9 h9; (ho_35 q e9 ((ho_26 q (ne_an l9 1)).trans (ho_22 q e9 (ho_17 q e9 (hk_10 q e9 (ho_7 q e9 ((ho_3 q n9_0).trans h9) )) (ne_an l9 0)) (ne_an l9 1))) n9_1 n9_0)⟩)
