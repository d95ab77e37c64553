set_option maxHeartbeats 4000000 in
set_option maxRecDepth 100000 in
theorem c_X9_init_X0 {D : va_G} {cI cJ cZ cT : ClassId} {lo b L : Nat} {xs : Nat → Int32} {hp : MH} {n d : Nat} {a : Nat} {x0 p1 : Int32} {v1 : Value} (hd0 : 0 ≤ d) (gc0 : hp a = some (.inr (0, [.int x0, v1]))) : Mt (gG D cI cJ cZ cT lo b L xs) mX9_init d 0 0 [.ref a, .int p1] hp n (fun r hp1 n1 => r = none ∧ n1 = n ∧ hp1 a = some (.inr (0, [.int p1, v1])) ∧ ∀ (q : Nat) (e9 : va_E), hp q = some e9 → q ≠ a → hp1 q = some e9) := by
  refine Mt.of rfl (Nat.le_of_ble_eq_true rfl) ?_
  refine Rn.pick (lv' := [(0, .ref a), (1, .int p1)]) [0, 1] rfl ?_
  refine r_aload_n (pc := 0) dX9_init_0 (i := 0) rfl rfl ?_
  refine r_objInit (pc := 1) kX9_1 dX9_init_1 (Nat.le_of_ble_eq_true rfl) ?_
  refine r_aload_n (pc := 4) dX9_init_4 (i := 0) rfl rfl ?_
  refine r_iload_n (pc := 5) dX9_init_5 (i := 1) rfl rfl ?_
  refine w_put (pc := 6) (ty := .int) (fs' := [.int p1, v1]) fX9_7_X0 tyX0 tyX0_ok nmX0 (by decide +kernel) (Or.inr ⟨rfl, rfl, rfl⟩) dX9_init_6 gc0 (Nat.le_of_ble_eq_true rfl) (rfl) (rfl) rfl (fun hp_1 h_2 ho_3 => ?_)
  exact r_vret (pc := 9) dX9_init_9 rfl (⟨rfl, rfl, h_2, fun q e9 h9 n9_0 => ((ho_3 q n9_0).trans h9)⟩)
set_option maxHeartbeats 4000000 in
set_option maxRecDepth 100000 in
theorem c_X0_init {D : va_G} {cI cJ cZ cT : ClassId} {lo b L : Nat} {xs : Nat → Int32} {hp : MH} {n d : Nat} {a N : Nat} (hd0 : 1 ≤ d) (gc0 : hp a = some (.inr (0, [.int 0, .null]))) (hN : N ≤ 16) : Mt (gG D cI cJ cZ cT lo b L xs) mX0_init d 1 N [.ref a, .int ((nI N))] hp n (fun r hp1 n1 => r = none ∧ n1 = n + 1 ∧ hp1 a = some (.inr (0, [.int ((nI N)), .ref n])) ∧ hp1 n = some (.inl (cJ, N, .inr (.inl (fun _ => 0)))) ∧ ∀ (q : Nat) (e9 : va_E), hp q = some e9 → q ≠ a → hp1 q = some e9) := by
  refine Mt.of rfl (Nat.le_of_ble_eq_true rfl) ?_
  refine Rn.pick (lv' := [(0, .ref a), (1, .int ((nI N)))]) [0, 1] rfl ?_
  refine Rn.bd (fun bd => ?_)
  have l_a := bd _ _ gc0
  refine r_aload_n (pc := 0) dX0_init_0 (i := 0) rfl rfl ?_
  refine r_iload_n (pc := 1) dX0_init_1 (i := 1) rfl rfl ?_
  refine r_callI (pc := 2) (as := [.int ((nI N))]) (st := []) kX0_3 dX0_init_2 (c_X9_init_X0 (d := d - 1) (a := a) (x0 := 0) (p1 := (nI N)) (v1 := .null) (by omega) gc0 ) rfl (by omega) (Nat.le_of_ble_eq_true rfl) (by omega) (by omega) rfl (fun r9 hp_1 nn_2 hq_3 => ?_)
  obtain ⟨rfl, hq_3n, h_4, ho_5⟩ := hq_3
  subst nn_2
  change Rn _ _ _ 5 _ [] _ _ _ _ _
  refine r_aload_n (pc := 5) dX0_init_5 (i := 0) rfl rfl ?_
  refine r_iload_n (pc := 6) dX0_init_6 (i := 1) rfl rfl ?_
  refine w_newl (pc := 7) (t0 := 1) (N := N) dX0_init_7 (tb_t (k := 79) (w := Cond.arrayClass .long) (by decide +kernel)) rfl (rfl) (by omega) (by omega) (by omega) (fun hp_6 h_7 hk_8 ho_9 => ?_)
  have h_10 : hp_6 a = some (.inr (0, [.int ((nI N)), .null])) := (hk_8 a _ h_4)
  refine w_put (pc := 9) (ty := .array .long) (fs' := [.int ((nI N)), .ref n]) fX0_9 tyX0 tyX0_ok nmX0 (by decide +kernel) (Or.inr ⟨rfl, rfl, rfl⟩) dX0_init_9 h_10 (Nat.le_of_ble_eq_true rfl) (rfl) (rfl) rfl (fun hp_11 h_12 ho_13 => ?_)
  have h_14 : hp_11 n = some (.inl (cJ, N, .inr (.inl (fun _ => 0)))) := ((ho_13 n (Ne.symm (ne_an l_a 0))).trans h_7)
  exact r_vret (pc := 12) dX0_init_12 rfl (⟨rfl, rfl, h_12, h_14, fun q e9 h9 n9_0 => ((ho_13 q n9_0).trans (hk_8 q e9 (ho_5 q e9 h9 n9_0)))⟩)
set_option maxHeartbeats 4000000 in
set_option maxRecDepth 100000 in
theorem c_X11_keep_X0 {D : va_G} {cI cJ cZ cT : ClassId} {lo b L : Nat} {xs : Nat → Int32} {hp : MH} {n d : Nat} {x th dr sk sh se pa fl sa : Nat} {rf : Int32} {i t : Nat} {f : Nat → Option Nat} {k1 : Int32} {k2 : Value} (hd0 : 1 ≤ d) (gc0 : hp x = some (.inr (10, [.ref th, .int ((nI i)), .int rf, .ref dr, .ref sk, .ref sh, .ref se, .ref pa, .ref fl, .ref sa]))) (gc1 : hp th = some (.inl (cT, 120, .inr (.inr (.inr (.inr (f))))))) (gc2 : hp t = some (.inr (0, [.int k1, k2]))) (hi : i < 120) : Mt (gG D cI cJ cZ cT lo b L xs) mX11_keep d 0 0 [.ref x, .ref t] hp n (fun r hp1 n1 => r = some (.int ((nI i))) ∧ n1 = n ∧ hp1 x = some (.inr (10, [.ref th, .int ((nI (i + 1))), .int rf, .ref dr, .ref sk, .ref sh, .ref se, .ref pa, .ref fl, .ref sa])) ∧ hp1 th = some (.inl (cT, 120, .inr (.inr (.inr (.inr (va_up f i (some t))))))) ∧ ∀ (q : Nat) (e9 : va_E), hp q = some e9 → q ≠ th → q ≠ x → hp1 q = some e9) := by
  refine Mt.of rfl (Nat.le_of_ble_eq_true rfl) ?_
  refine Rn.pick (lv' := [(0, .ref x), (1, .ref t)]) [0, 1] rfl ?_
  refine r_aload_n (pc := 0) dX11_keep_0 (i := 0) rfl rfl ?_
  refine r_get (pc := 1) (v := .int ((nI i))) fX11_15 dX11_keep_1 gc0 rfl ?_
  refine r_istore_n (pc := 4) (lv' := [(2, .int ((nI i))), (0, .ref x), (1, .ref t)]) dX11_keep_4 (i := 2) rfl (by decide) rfl ?_
  refine r_iload_n (pc := 5) dX11_keep_5 (i := 2) rfl rfl ?_
  refine r_if_lt (pc := 6) (tgt := 15) dX11_keep_6 (by decide) (fun c9 => absurd c9 (nI_pos (by omega))) (fun _ => ?_)
  refine r_iload_n (pc := 9) dX11_keep_9 (i := 2) rfl rfl ?_
  refine r_bipush (pc := 10) (v := 120) dX11_keep_10 (by decide) ?_
  refine r_icmp_lt (pc := 12) (tgt := 22) dX11_keep_12 (by decide) (fun _ => ?_) (fun c9 => absurd (nI_lt (b := 120) (by omega) (by omega)) c9)
  refine r_aload_n (pc := 22) dX11_keep_22 (i := 0) rfl rfl ?_
  refine r_get (pc := 23) (v := .ref th) fX11_11 dX11_keep_23 gc0 rfl ?_
  refine r_iload_n (pc := 26) dX11_keep_26 (i := 2) rfl rfl ?_
  refine r_aload_n (pc := 27) dX11_keep_27 (i := 1) rfl rfl ?_
  refine w_aast (pc := 28) (t0 := 3) (f' := va_up f i (some t)) (r := (RX0, TX0, 2)) dX11_keep_28 rfl rfl (show (RX0, "GraphEngine$Thing") ∈ cas by decide +kernel) gc1 gc2 (vp_in_nI (by omega) (by omega)) (by rw [nI_clamp (by omega)]) (fun hp_1 h_2 ho_3 => ?_)
  refine r_aload_n (pc := 29) dX11_keep_29 (i := 0) rfl rfl ?_
  refine r_iload_n (pc := 30) dX11_keep_30 (i := 2) rfl rfl ?_
  refine r_iconst (pc := 31) (v := 1) dX11_keep_31 (by decide) ?_
  refine r_iadd (pc := 32) (v := (nI (i + 1))) dX11_keep_32 (nI_1 i) ?_
  have h_4 : hp_1 x = some (.inr (10, [.ref th, .int ((nI i)), .int rf, .ref dr, .ref sk, .ref sh, .ref se, .ref pa, .ref fl, .ref sa])) := ((ho_3 x (ne_c gc0 gc1 (by intro h9; cases h9))).trans gc0)
  refine w_put (pc := 33) (ty := .int) (fs' := [.ref th, .int ((nI (i + 1))), .int rf, .ref dr, .ref sk, .ref sh, .ref se, .ref pa, .ref fl, .ref sa]) fX11_15 tyX11 tyX11_ok nmX11 (by decide +kernel) (Or.inl rfl) dX11_keep_33 h_4 (Nat.le_of_ble_eq_true rfl) (rfl) (rfl) rfl (fun hp_5 h_6 ho_7 => ?_)
  refine r_iload_n (pc := 36) dX11_keep_36 (i := 2) rfl rfl ?_
  have h_8 : hp_5 th = some (.inl (cT, 120, .inr (.inr (.inr (.inr (va_up f i (some t))))))) := ((ho_7 th (ne_c gc1 gc0 (by intro h9; cases h9))).trans h_2)
  exact r_iret (pc := 37) dX11_keep_37 rfl (⟨rfl, rfl, h_6, h_8, fun q e9 h9 n9_0 n9_1 => ((ho_7 q n9_1).trans ((ho_3 q n9_0).trans h9))⟩)
set_option maxHeartbeats 4000000 in
set_option maxRecDepth 100000 in
theorem c_X11_refused {D : va_G} {cI cJ cZ cT : ClassId} {lo b L : Nat} {xs : Nat → Int32} {hp : MH} {n d : Nat} {x th dr sk sh se pa fl sa : Nat} {cnt rf : Int32} (hd0 : 0 ≤ d) (gc0 : hp x = some (.inr (10, [.ref th, .int cnt, .int rf, .ref dr, .ref sk, .ref sh, .ref se, .ref pa, .ref fl, .ref sa]))) : Mt (gG D cI cJ cZ cT lo b L xs) mX11_refused d 0 0 [.ref x] hp n (fun r hp1 n1 => r = some (.int rf) ∧ n1 = n ∧ ∀ (q : Nat) (e9 : va_E), hp q = some e9 → hp1 q = some e9) := by
  refine Mt.of rfl (Nat.le_of_ble_eq_true rfl) ?_
  refine Rn.pick (lv' := [(0, .ref x)]) [0] rfl ?_
  refine r_aload_n (pc := 0) dX11_refused_0 (i := 0) rfl rfl ?_
  refine r_get (pc := 1) (v := .int rf) fX11_19 dX11_refused_1 gc0 rfl ?_
  exact r_iret (pc := 4) dX11_refused_4 rfl (⟨rfl, rfl, fun q e9 h9 => h9⟩)
set_option maxHeartbeats 4000000 in
set_option maxRecDepth 100000 in
theorem c_X11_handles {D : va_G} {cI cJ cZ cT : ClassId} {lo b L : Nat} {xs : Nat → Int32} {hp : MH} {n d : Nat} {x th dr sk sh se pa fl sa : Nat} {cnt rf : Int32} (hd0 : 0 ≤ d) (gc0 : hp x = some (.inr (10, [.ref th, .int cnt, .int rf, .ref dr, .ref sk, .ref sh, .ref se, .ref pa, .ref fl, .ref sa]))) : Mt (gG D cI cJ cZ cT lo b L xs) mX11_handles d 0 0 [.ref x] hp n (fun r hp1 n1 => r = some (.int cnt) ∧ n1 = n ∧ hp1 x = some (.inr (10, [.ref th, .int cnt, .int 0, .ref dr, .ref sk, .ref sh, .ref se, .ref pa, .ref fl, .ref sa])) ∧ ∀ (q : Nat) (e9 : va_E), hp q = some e9 → q ≠ x → hp1 q = some e9) := by
  refine Mt.of rfl (Nat.le_of_ble_eq_true rfl) ?_
  refine Rn.pick (lv' := [(0, .ref x)]) [0] rfl ?_
  refine r_aload_n (pc := 0) dX11_handles_0 (i := 0) rfl rfl ?_
  refine r_iconst (pc := 1) (v := 0) dX11_handles_1 (by decide) ?_
  refine w_put (pc := 2) (ty := .int) (fs' := [.ref th, .int cnt, .int 0, .ref dr, .ref sk, .ref sh, .ref se, .ref pa, .ref fl, .ref sa]) fX11_19 tyX11 tyX11_ok nmX11 (by decide +kernel) (Or.inl rfl) dX11_handles_2 gc0 (Nat.le_of_ble_eq_true rfl) (rfl) (rfl) rfl (fun hp_1 h_2 ho_3 => ?_)
  refine r_aload_n (pc := 5) dX11_handles_5 (i := 0) rfl rfl ?_
  refine r_get (pc := 6) (v := .int cnt) fX11_15 dX11_handles_6 h_2 rfl ?_
  exact r_iret (pc := 9) dX11_handles_9 rfl (⟨rfl, rfl, h_2, fun q e9 h9 n9_0 => ((ho_3 q n9_0).trans h9)⟩)
set_option maxHeartbeats 4000000 in
set_option maxRecDepth 100000 in
theorem c_X11_drop_n {D : va_G} {cI cJ cZ cT : ClassId} {lo b L : Nat} {xs : Nat → Int32} {hp : MH} {n d : Nat} {x th dr sk sh se pa fl sa : Nat} {cnt rf : Int32} (hd0 : 1 ≤ d) (gc0 : hp x = some (.inr (10, [.ref th, .int cnt, .int rf, .ref dr, .ref sk, .ref sh, .ref se, .ref pa, .ref fl, .ref sa]))) (hno : ¬ 0 < cnt) : Mt (gG D cI cJ cZ cT lo b L xs) mX11_drop d 0 0 [.ref x] hp n (fun r hp1 n1 => r = some (.int ((-1))) ∧ n1 = n ∧ hp1 x = some (.inr (10, [.ref th, .int cnt, .int ((-1)), .ref dr, .ref sk, .ref sh, .ref se, .ref pa, .ref fl, .ref sa])) ∧ ∀ (q : Nat) (e9 : va_E), hp q = some e9 → q ≠ x → hp1 q = some e9) := by
  refine Mt.of rfl (Nat.le_of_ble_eq_true rfl) ?_
  refine Rn.pick (lv' := [(0, .ref x)]) [0] rfl ?_
  refine r_aload_n (pc := 0) dX11_drop_0 (i := 0) rfl rfl ?_
  refine r_iconst (pc := 1) (v := 0) dX11_drop_1 (by decide) ?_
  refine w_put (pc := 2) (ty := .int) (fs' := [.ref th, .int cnt, .int 0, .ref dr, .ref sk, .ref sh, .ref se, .ref pa, .ref fl, .ref sa]) fX11_19 tyX11 tyX11_ok nmX11 (by decide +kernel) (Or.inl rfl) dX11_drop_2 gc0 (Nat.le_of_ble_eq_true rfl) (rfl) (rfl) rfl (fun hp_1 h_2 ho_3 => ?_)
  refine r_aload_n (pc := 5) dX11_drop_5 (i := 0) rfl rfl ?_
  refine r_get (pc := 6) (v := .int cnt) fX11_15 dX11_drop_6 h_2 rfl ?_
  refine r_if_gt (pc := 9) (tgt := 18) dX11_drop_9 (by decide) (fun c9 => absurd c9 (hno)) (fun _ => ?_)
  refine r_aload_n (pc := 12) dX11_drop_12 (i := 0) rfl rfl ?_
  refine r_iconst (pc := 13) (v := (-1)) dX11_drop_13 (by decide) ?_
  refine r_callV (pc := 14) (as := [.int ((-1))]) (st := []) kX11_82 rfl dX11_drop_14 h_2 (c_X11_refuse (d := d - 1) (th := th) (cnt := cnt) (rf := 0) (dr := dr) (sk := sk) (sh := sh) (se := se) (pa := pa) (fl := fl) (sa := sa) (x := x) (p1 := (-1)) (by omega) h_2 ) rfl (by omega) (Nat.le_of_ble_eq_true rfl) (by omega) (by omega) rfl (fun r9 hp_4 nn_5 hq_6 => ?_)
  obtain ⟨rfl, hq_6n, h_7, ho_8⟩ := hq_6
  subst nn_5
  change Rn _ _ _ 17 _ [.int ((-1))] _ _ _ _ _
  exact r_iret (pc := 17) dX11_drop_17 rfl (⟨rfl, rfl, h_7, fun q e9 h9 n9_0 => (ho_8 q e9 ((ho_3 q n9_0).trans h9) n9_0)⟩)
set_option maxHeartbeats 4000000 in
set_option maxRecDepth 100000 in
theorem c_X11_begin_no {D : va_G} {cI cJ cZ cT : ClassId} {lo b L : Nat} {xs : Nat → Int32} {hp : MH} {n d : Nat} {x th dr sk sh se pa fl sa : Nat} {cnt rf : Int32} {p1 : Int32} {q2 : Bool} (hd0 : 0 ≤ d) (gc0 : hp x = some (.inr (10, [.ref th, .int cnt, .int rf, .ref dr, .ref sk, .ref sh, .ref se, .ref pa, .ref fl, .ref sa]))) (hno : p1 < 1 ∨ 16 < p1) : Mt (gG D cI cJ cZ cT lo b L xs) mX11_begin d 0 0 [.ref x, .int p1, .int ((bI q2))] hp n (fun r hp1 n1 => r = some (.int 0) ∧ n1 = n ∧ hp1 x = some (.inr (10, [.ref th, .int cnt, .int ((-3)), .ref dr, .ref sk, .ref sh, .ref se, .ref pa, .ref fl, .ref sa])) ∧ ∀ (q : Nat) (e9 : va_E), hp q = some e9 → q ≠ x → hp1 q = some e9) := by
  refine Mt.of rfl (Nat.le_of_ble_eq_true rfl) ?_
  refine Rn.pick (lv' := [(0, .ref x), (1, .int p1), (2, .int ((bI q2)))]) [0, 1, 2] rfl ?_
  refine r_aload_n (pc := 0) dX11_begin_0 (i := 0) rfl rfl ?_
  refine r_iconst (pc := 1) (v := 0) dX11_begin_1 (by decide) ?_
  refine w_put (pc := 2) (ty := .int) (fs' := [.ref th, .int cnt, .int 0, .ref dr, .ref sk, .ref sh, .ref se, .ref pa, .ref fl, .ref sa]) fX11_19 tyX11 tyX11_ok nmX11 (by decide +kernel) (Or.inl rfl) dX11_begin_2 gc0 (Nat.le_of_ble_eq_true rfl) (rfl) (rfl) rfl (fun hp_1 h_2 ho_3 => ?_)
  refine r_iload_n (pc := 5) dX11_begin_5 (i := 1) rfl rfl ?_
  refine r_iconst (pc := 6) (v := 1) dX11_begin_6 (by decide) ?_
  refine r_icmp_lt (pc := 7) (tgt := 16) dX11_begin_7 (by decide) (fun c7 => ?_) (fun c7 => ?_)
  · refine r_aload_n (pc := 16) dX11_begin_16 (i := 0) rfl rfl ?_
    refine r_bipush (pc := 17) (v := (-3)) dX11_begin_17 (by decide) ?_
    refine w_put (pc := 19) (ty := .int) (fs' := [.ref th, .int cnt, .int ((-3)), .ref dr, .ref sk, .ref sh, .ref se, .ref pa, .ref fl, .ref sa]) fX11_19 tyX11 tyX11_ok nmX11 (by decide +kernel) (Or.inl rfl) dX11_begin_19 h_2 (Nat.le_of_ble_eq_true rfl) (rfl) (rfl) rfl (fun hp_4 h_5 ho_6 => ?_)
    refine r_iconst (pc := 22) (v := 0) dX11_begin_22 (by decide) ?_
    exact r_zret (pc := 23) dX11_begin_23 rfl (by decide) (⟨rfl, rfl, h_5, fun q e9 h9 n9_0 => ((ho_6 q n9_0).trans ((ho_3 q n9_0).trans h9))⟩)
  · refine r_iload_n (pc := 10) dX11_begin_10 (i := 1) rfl rfl ?_
    refine r_bipush (pc := 11) (v := 16) dX11_begin_11 (by decide) ?_
    refine r_icmp_le (pc := 13) (tgt := 24) dX11_begin_13 (by decide) (fun c13 => ?_) (fun c13 => ?_)
    · exact absurd hno (fun h9 => h9.elim c7 (fun h8 => absurd c13 (Int32.not_le.mpr h8)))
    · refine r_aload_n (pc := 16) dX11_begin_16 (i := 0) rfl rfl ?_
      refine r_bipush (pc := 17) (v := (-3)) dX11_begin_17 (by decide) ?_
      refine w_put (pc := 19) (ty := .int) (fs' := [.ref th, .int cnt, .int ((-3)), .ref dr, .ref sk, .ref sh, .ref se, .ref pa, .ref fl, .ref sa]) fX11_19 tyX11 tyX11_ok nmX11 (by decide +kernel) (Or.inl rfl) dX11_begin_19 h_2 (Nat.le_of_ble_eq_true rfl) (rfl) (rfl) rfl (fun hp_7 h_8 ho_9 => ?_)
      refine r_iconst (pc := 22) (v := 0) dX11_begin_22 (by decide) ?_
      exact r_zret (pc := 23) dX11_begin_23 rfl (by decide) (⟨rfl, rfl, h_8, fun q e9 h9 n9_0 => ((ho_9 q n9_0).trans ((ho_3 q n9_0).trans h9))⟩)
set_option maxHeartbeats 4000000 in
set_option maxRecDepth 100000 in
theorem c_X11_begin {D : va_G} {cI cJ cZ cT : ClassId} {lo b L : Nat} {xs : Nat → Int32} {hp : MH} {n d : Nat} {x th dr sk sh se pa fl sa : Nat} {cnt rf : Int32} {af au aw ac al : Nat} {x0 x1 x2 : Int32} {p1 : Int32} {q2 : Bool} (hd0 : 1 ≤ d) (gc0 : hp x = some (.inr (10, [.ref th, .int cnt, .int rf, .ref dr, .ref sk, .ref sh, .ref se, .ref pa, .ref fl, .ref sa]))) (gc1 : hp dr = some (.inr (1, [.int x0, .int x1, .int x2, .ref af, .ref au, .ref aw, .ref ac, .ref al]))) (h1 : ¬ p1 < 1) (h2 : p1 ≤ 16) : Mt (gG D cI cJ cZ cT lo b L xs) mX11_begin d 0 0 [.ref x, .int p1, .int ((bI q2))] hp n (fun r hp1 n1 => r = some (.int 1) ∧ n1 = n ∧ hp1 x = some (.inr (10, [.ref th, .int cnt, .int 0, .ref dr, .ref sk, .ref sh, .ref se, .ref pa, .ref fl, .ref sa])) ∧ hp1 dr = some (.inr (1, [.int p1, .int ((bI q2)), .int 0, .ref af, .ref au, .ref aw, .ref ac, .ref al])) ∧ ∀ (q : Nat) (e9 : va_E), hp q = some e9 → q ≠ x → q ≠ dr → hp1 q = some e9) := by
  refine Mt.of rfl (Nat.le_of_ble_eq_true rfl) ?_
  refine Rn.pick (lv' := [(0, .ref x), (1, .int p1), (2, .int ((bI q2)))]) [0, 1, 2] rfl ?_
  refine r_aload_n (pc := 0) dX11_begin_0 (i := 0) rfl rfl ?_
  refine r_iconst (pc := 1) (v := 0) dX11_begin_1 (by decide) ?_
  refine w_put (pc := 2) (ty := .int) (fs' := [.ref th, .int cnt, .int 0, .ref dr, .ref sk, .ref sh, .ref se, .ref pa, .ref fl, .ref sa]) fX11_19 tyX11 tyX11_ok nmX11 (by decide +kernel) (Or.inl rfl) dX11_begin_2 gc0 (Nat.le_of_ble_eq_true rfl) (rfl) (rfl) rfl (fun hp_1 h_2 ho_3 => ?_)
  refine r_iload_n (pc := 5) dX11_begin_5 (i := 1) rfl rfl ?_
  refine r_iconst (pc := 6) (v := 1) dX11_begin_6 (by decide) ?_
  refine r_icmp_lt (pc := 7) (tgt := 16) dX11_begin_7 (by decide) (fun c9 => absurd c9 (h1)) (fun _ => ?_)
  refine r_iload_n (pc := 10) dX11_begin_10 (i := 1) rfl rfl ?_
  refine r_bipush (pc := 11) (v := 16) dX11_begin_11 (by decide) ?_
  refine r_icmp_le (pc := 13) (tgt := 24) dX11_begin_13 (by decide) (fun _ => ?_) (fun c9 => absurd (h2) c9)
  refine r_aload_n (pc := 24) dX11_begin_24 (i := 0) rfl rfl ?_
  refine r_get (pc := 25) (v := .ref dr) fX11_25 dX11_begin_25 h_2 rfl ?_
  refine r_iload_n (pc := 28) dX11_begin_28 (i := 1) rfl rfl ?_
  refine r_iload_n (pc := 29) dX11_begin_29 (i := 2) rfl rfl ?_
  have h_7 : hp_1 dr = some (.inr (1, [.int x0, .int x1, .int x2, .ref af, .ref au, .ref aw, .ref ac, .ref al])) := ((ho_3 dr (ne_c gc1 gc0 (by intro h9; cases h9))).trans gc1)
  refine r_callV (pc := 30) (as := [.int p1, .int ((bI q2))]) (st := []) kX11_67 rfl dX11_begin_30 h_7 (c_X1_restart (d := d - 1) (a := dr) (x0 := x0) (x1 := x1) (x2 := x2) (af := af) (au := au) (aw := aw) (ac := ac) (al := al) (p1 := p1) (p2 := q2) (by omega) h_7 ) rfl (by omega) (Nat.le_of_ble_eq_true rfl) (by omega) (by omega) rfl (fun r9 hp_4 nn_5 hq_6 => ?_)
  obtain ⟨rfl, hq_6n, h_8, ho_9⟩ := hq_6
  subst nn_5
  change Rn _ _ _ 33 _ [] _ _ _ _ _
  refine r_iconst (pc := 33) (v := 1) dX11_begin_33 (by decide) ?_
  have h_10 : hp_4 x = some (.inr (10, [.ref th, .int cnt, .int 0, .ref dr, .ref sk, .ref sh, .ref se, .ref pa, .ref fl, .ref sa])) := (ho_9 x _ h_2 (ne_c gc0 gc1 (by intro h9; cases h9)))
  exact r_zret (pc := 34) dX11_begin_34 rfl (by decide) (⟨rfl, rfl, h_10, h_8, fun q e9 h9 n9_0 n9_1 => (ho_9 q e9 ((ho_3 q n9_0).trans h9) n9_1)⟩)
set_option maxHeartbeats 4000000 in
set_option maxRecDepth 100000 in
theorem c_X1_add {D : va_G} {cI cJ cZ cT : ClassId} {lo b L : Nat} {xs : Nat → Int32} {hp : MH} {n d : Nat} {a af au aw ac al k : Nat} {x0 x1 p1 p2 p3 p4 : Int32} {f1 f2 f3 f4 : Nat → Int32} (hd0 : 0 ≤ d) (gc0 : hp a = some (.inr (1, [.int x0, .int x1, .int ((nI k)), .ref af, .ref au, .ref aw, .ref ac, .ref al]))) (gc1 : hp af = some (.inl (cI, 60, .inl (f1)))) (gc2 : hp au = some (.inl (cI, 60, .inl (f2)))) (gc3 : hp aw = some (.inl (cI, 60, .inl (f3)))) (gc4 : hp ac = some (.inl (cI, 60, .inl (f4)))) (hk : k < 60) (n01 : af ≠ au) (n02 : af ≠ aw) (n03 : af ≠ ac) (n12 : au ≠ aw) (n13 : au ≠ ac) (n23 : aw ≠ ac) : Mt (gG D cI cJ cZ cT lo b L xs) mX1_add d 0 0 [.ref a, .int p1, .int p2, .int p3, .int p4] hp n (fun r hp1 n1 => r = some (.int 1) ∧ n1 = n ∧ hp1 a = some (.inr (1, [.int x0, .int x1, .int ((nI (k + 1))), .ref af, .ref au, .ref aw, .ref ac, .ref al])) ∧ hp1 af = some (.inl (cI, 60, .inl (upd f1 k p1))) ∧ hp1 au = some (.inl (cI, 60, .inl (upd f2 k p2))) ∧ hp1 aw = some (.inl (cI, 60, .inl (upd f3 k p3))) ∧ hp1 ac = some (.inl (cI, 60, .inl (upd f4 k p4))) ∧ ∀ (q : Nat) (e9 : va_E), hp q = some e9 → q ≠ af → q ≠ au → q ≠ aw → q ≠ ac → q ≠ a → hp1 q = some e9) := by
  refine Mt.of rfl (Nat.le_of_ble_eq_true rfl) ?_
  refine Rn.pick (lv' := [(0, .ref a), (1, .int p1), (2, .int p2), (3, .int p3), (4, .int p4)]) [0, 1, 2, 3, 4] rfl ?_
  refine r_aload_n (pc := 0) dX1_add_0 (i := 0) rfl rfl ?_
  refine r_get (pc := 1) (v := .int ((nI k))) fX1_19 dX1_add_1 gc0 rfl ?_
  refine r_istore (pc := 4) (lv' := [(5, .int ((nI k))), (0, .ref a), (1, .int p1), (2, .int p2), (3, .int p3), (4, .int p4)]) dX1_add_4 (by decide) rfl ?_
  refine r_iload (pc := 6) dX1_add_6 rfl ?_
  refine r_if_lt (pc := 8) (tgt := 18) dX1_add_8 (by decide) (fun c9 => absurd c9 (nI_pos (by omega))) (fun _ => ?_)
  refine r_iload (pc := 11) dX1_add_11 rfl ?_
  refine r_bipush (pc := 13) (v := 60) dX1_add_13 (by decide) ?_
  refine r_icmp_lt (pc := 15) (tgt := 20) dX1_add_15 (by decide) (fun _ => ?_) (fun c9 => absurd (nI_lt (b := 60) (by omega) (by omega)) c9)
  refine r_aload_n (pc := 20) dX1_add_20 (i := 0) rfl rfl ?_
  refine r_get (pc := 21) (v := .ref af) fX1_22 dX1_add_21 gc0 rfl ?_
  refine r_iload (pc := 24) dX1_add_24 rfl ?_
  refine r_iload_n (pc := 26) dX1_add_26 (i := 1) rfl rfl ?_
  refine w_iast (pc := 27) (t0 := 0) (f' := upd f1 k p1) dX1_add_27 rfl gc1 (vp_in_nI (by omega) (by omega)) (by rw [nI_clamp (by omega)]) (fun hp_1 h_2 ho_3 => ?_)
  refine r_aload_n (pc := 28) dX1_add_28 (i := 0) rfl rfl ?_
  have h_4 : hp_1 a = some (.inr (1, [.int x0, .int x1, .int ((nI k)), .ref af, .ref au, .ref aw, .ref ac, .ref al])) := ((ho_3 a (ne_c gc0 gc1 (by intro h9; cases h9))).trans gc0)
  refine r_get (pc := 29) (v := .ref au) fX1_26 dX1_add_29 h_4 rfl ?_
  refine r_iload (pc := 32) dX1_add_32 rfl ?_
  refine r_iload_n (pc := 34) dX1_add_34 (i := 2) rfl rfl ?_
  have h_5 : hp_1 au = some (.inl (cI, 60, .inl (f2))) := ((ho_3 au (Ne.symm n01)).trans gc2)
  refine w_iast (pc := 35) (t0 := 0) (f' := upd f2 k p2) dX1_add_35 rfl h_5 (vp_in_nI (by omega) (by omega)) (by rw [nI_clamp (by omega)]) (fun hp_6 h_7 ho_8 => ?_)
  refine r_aload_n (pc := 36) dX1_add_36 (i := 0) rfl rfl ?_
  have h_9 : hp_6 a = some (.inr (1, [.int x0, .int x1, .int ((nI k)), .ref af, .ref au, .ref aw, .ref ac, .ref al])) := ((ho_8 a (ne_c gc0 gc2 (by intro h9; cases h9))).trans h_4)
  refine r_get (pc := 37) (v := .ref aw) fX1_29 dX1_add_37 h_9 rfl ?_
  refine r_iload (pc := 40) dX1_add_40 rfl ?_
  refine r_iload_n (pc := 42) dX1_add_42 (i := 3) rfl rfl ?_
  have h_10 : hp_6 aw = some (.inl (cI, 60, .inl (f3))) := ((ho_8 aw (Ne.symm n12)).trans ((ho_3 aw (Ne.symm n02)).trans gc3))
  refine w_iast (pc := 43) (t0 := 0) (f' := upd f3 k p3) dX1_add_43 rfl h_10 (vp_in_nI (by omega) (by omega)) (by rw [nI_clamp (by omega)]) (fun hp_11 h_12 ho_13 => ?_)
  refine r_aload_n (pc := 44) dX1_add_44 (i := 0) rfl rfl ?_
  have h_14 : hp_11 a = some (.inr (1, [.int x0, .int x1, .int ((nI k)), .ref af, .ref au, .ref aw, .ref ac, .ref al])) := ((ho_13 a (ne_c gc0 gc3 (by intro h9; cases h9))).trans h_9)
  refine r_get (pc := 45) (v := .ref ac) fX1_32 dX1_add_45 h_14 rfl ?_
  refine r_iload (pc := 48) dX1_add_48 rfl ?_
  refine r_iload (pc := 50) dX1_add_50 rfl ?_
  have h_15 : hp_11 ac = some (.inl (cI, 60, .inl (f4))) := ((ho_13 ac (Ne.symm n23)).trans ((ho_8 ac (Ne.symm n13)).trans ((ho_3 ac (Ne.symm n03)).trans gc4)))
  refine w_iast (pc := 52) (t0 := 0) (f' := upd f4 k p4) dX1_add_52 rfl h_15 (vp_in_nI (by omega) (by omega)) (by rw [nI_clamp (by omega)]) (fun hp_16 h_17 ho_18 => ?_)
  refine r_aload_n (pc := 53) dX1_add_53 (i := 0) rfl rfl ?_
  refine r_iload (pc := 54) dX1_add_54 rfl ?_
  refine r_iconst (pc := 56) (v := 1) dX1_add_56 (by decide) ?_
  refine r_iadd (pc := 57) (v := (nI (k + 1))) dX1_add_57 (nI_1 k) ?_
  have h_19 : hp_16 a = some (.inr (1, [.int x0, .int x1, .int ((nI k)), .ref af, .ref au, .ref aw, .ref ac, .ref al])) := ((ho_18 a (ne_c gc0 gc4 (by intro h9; cases h9))).trans h_14)
  refine w_put (pc := 58) (ty := .int) (fs' := [.int x0, .int x1, .int ((nI (k + 1))), .ref af, .ref au, .ref aw, .ref ac, .ref al]) fX1_19 tyX1 tyX1_ok nmX1 (by decide +kernel) (Or.inl rfl) dX1_add_58 h_19 (Nat.le_of_ble_eq_true rfl) (rfl) (rfl) rfl (fun hp_20 h_21 ho_22 => ?_)
  refine r_iconst (pc := 61) (v := 1) dX1_add_61 (by decide) ?_
  have h_23 : hp_20 af = some (.inl (cI, 60, .inl (upd f1 k p1))) := ((ho_22 af (ne_c gc1 gc0 (by intro h9; cases h9))).trans ((ho_18 af n03).trans ((ho_13 af n02).trans ((ho_8 af n01).trans h_2))))
  have h_24 : hp_20 au = some (.inl (cI, 60, .inl (upd f2 k p2))) := ((ho_22 au (ne_c gc2 gc0 (by intro h9; cases h9))).trans ((ho_18 au n13).trans ((ho_13 au n12).trans h_7)))
  have h_25 : hp_20 aw = some (.inl (cI, 60, .inl (upd f3 k p3))) := ((ho_22 aw (ne_c gc3 gc0 (by intro h9; cases h9))).trans ((ho_18 aw n23).trans h_12))
  have h_26 : hp_20 ac = some (.inl (cI, 60, .inl (upd f4 k p4))) := ((ho_22 ac (ne_c gc4 gc0 (by intro h9; cases h9))).trans h_17)
  exact r_zret (pc := 62) dX1_add_62 rfl (by decide) (⟨rfl, rfl, h_21, h_23, h_24, h_25, h_26, fun q e9 h9 n9_0 n9_1 n9_2 n9_3 n9_4 => ((ho_22 q n9_4).trans ((ho_18 q n9_3).trans ((ho_13 q n9_2).trans ((ho_8 q n9_1).trans ((ho_3 q n9_0).trans h9)))))⟩)
set_option maxHeartbeats 4000000 in
set_option maxRecDepth 100000 in
theorem c_X1_add_no {D : va_G} {cI cJ cZ cT : ClassId} {lo b L : Nat} {xs : Nat → Int32} {hp : MH} {n d : Nat} {a af au aw ac al k : Nat} {x0 x1 p1 p2 p3 p4 : Int32} (hd0 : 0 ≤ d) (gc0 : hp a = some (.inr (1, [.int x0, .int x1, .int ((nI k)), .ref af, .ref au, .ref aw, .ref ac, .ref al]))) (hk : 60 ≤ k) (hk2 : k < 2 ^ 31) : Mt (gG D cI cJ cZ cT lo b L xs) mX1_add d 0 0 [.ref a, .int p1, .int p2, .int p3, .int p4] hp n (fun r hp1 n1 => r = some (.int 0) ∧ n1 = n ∧ ∀ (q : Nat) (e9 : va_E), hp q = some e9 → hp1 q = some e9) := by
  refine Mt.of rfl (Nat.le_of_ble_eq_true rfl) ?_
  refine Rn.pick (lv' := [(0, .ref a), (1, .int p1), (2, .int p2), (3, .int p3), (4, .int p4)]) [0, 1, 2, 3, 4] rfl ?_
  refine r_aload_n (pc := 0) dX1_add_0 (i := 0) rfl rfl ?_
  refine r_get (pc := 1) (v := .int ((nI k))) fX1_19 dX1_add_1 gc0 rfl ?_
  refine r_istore (pc := 4) (lv' := [(5, .int ((nI k))), (0, .ref a), (1, .int p1), (2, .int p2), (3, .int p3), (4, .int p4)]) dX1_add_4 (by decide) rfl ?_
  refine r_iload (pc := 6) dX1_add_6 rfl ?_
  refine r_if_lt (pc := 8) (tgt := 18) dX1_add_8 (by decide) (fun c9 => absurd c9 (nI_pos (by omega))) (fun _ => ?_)
  refine r_iload (pc := 11) dX1_add_11 rfl ?_
  refine r_bipush (pc := 13) (v := 60) dX1_add_13 (by decide) ?_
  refine r_icmp_lt (pc := 15) (tgt := 20) dX1_add_15 (by decide) (fun c9 => absurd c9 (nI_nlt (b := 60) (by omega) (by omega))) (fun _ => ?_)
  refine r_iconst (pc := 18) (v := 0) dX1_add_18 (by decide) ?_
  exact r_zret (pc := 19) dX1_add_19 rfl (by decide) (⟨rfl, rfl, fun q e9 h9 => h9⟩)
set_option maxHeartbeats 4000000 in
set_option maxRecDepth 100000 in
theorem c_X11_arc {D : va_G} {cI cJ cZ cT : ClassId} {lo b L : Nat} {xs : Nat → Int32} {hp : MH} {n d : Nat} {x th dr sk sh se pa fl sa : Nat} {cnt rf : Int32} {af au aw ac al k : Nat} {x0 x1 p1 p2 p3 p4 : Int32} {f1 f2 f3 f4 : Nat → Int32} (hd0 : 1 ≤ d) (gc0 : hp x = some (.inr (10, [.ref th, .int cnt, .int rf, .ref dr, .ref sk, .ref sh, .ref se, .ref pa, .ref fl, .ref sa]))) (gc1 : hp dr = some (.inr (1, [.int x0, .int x1, .int ((nI k)), .ref af, .ref au, .ref aw, .ref ac, .ref al]))) (gc2 : hp af = some (.inl (cI, 60, .inl (f1)))) (gc3 : hp au = some (.inl (cI, 60, .inl (f2)))) (gc4 : hp aw = some (.inl (cI, 60, .inl (f3)))) (gc5 : hp ac = some (.inl (cI, 60, .inl (f4)))) (h1 : ¬ p1 < 0 ∧ ¬ x0 ≤ p1) (h2 : ¬ p2 < 0 ∧ ¬ x0 ≤ p2) (h3 : ¬ p3 < (-1000) ∧ ¬ 1000 < p3) (h4 : ¬ p4 < (-1000) ∧ ¬ 1000 < p4) (hk : k < 60) (n01 : af ≠ au) (n02 : af ≠ aw) (n03 : af ≠ ac) (n12 : au ≠ aw) (n13 : au ≠ ac) (n23 : aw ≠ ac) : Mt (gG D cI cJ cZ cT lo b L xs) mX11_arc d 0 0 [.ref x, .int p1, .int p2, .int p3, .int p4] hp n (fun r hp1 n1 => r = some (.int ((nI k))) ∧ n1 = n ∧ hp1 x = some (.inr (10, [.ref th, .int cnt, .int 0, .ref dr, .ref sk, .ref sh, .ref se, .ref pa, .ref fl, .ref sa])) ∧ hp1 dr = some (.inr (1, [.int x0, .int x1, .int ((nI (k + 1))), .ref af, .ref au, .ref aw, .ref ac, .ref al])) ∧ hp1 af = some (.inl (cI, 60, .inl (upd f1 k p1))) ∧ hp1 au = some (.inl (cI, 60, .inl (upd f2 k p2))) ∧ hp1 aw = some (.inl (cI, 60, .inl (upd f3 k p3))) ∧ hp1 ac = some (.inl (cI, 60, .inl (upd f4 k p4))) ∧ ∀ (q : Nat) (e9 : va_E), hp q = some e9 → q ≠ x → q ≠ af → q ≠ au → q ≠ aw → q ≠ ac → q ≠ dr → hp1 q = some e9) := by
  refine Mt.of rfl (Nat.le_of_ble_eq_true rfl) ?_
  refine Rn.pick (lv' := [(0, .ref x), (1, .int p1), (2, .int p2), (3, .int p3), (4, .int p4)]) [0, 1, 2, 3, 4] rfl ?_
  refine r_aload_n (pc := 0) dX11_arc_0 (i := 0) rfl rfl ?_
  refine r_iconst (pc := 1) (v := 0) dX11_arc_1 (by decide) ?_
  refine w_put (pc := 2) (ty := .int) (fs' := [.ref th, .int cnt, .int 0, .ref dr, .ref sk, .ref sh, .ref se, .ref pa, .ref fl, .ref sa]) fX11_19 tyX11 tyX11_ok nmX11 (by decide +kernel) (Or.inl rfl) dX11_arc_2 gc0 (Nat.le_of_ble_eq_true rfl) (rfl) (rfl) rfl (fun hp_1 h_2 ho_3 => ?_)
  refine r_iload_n (pc := 5) dX11_arc_5 (i := 1) rfl rfl ?_
  refine r_aload_n (pc := 6) dX11_arc_6 (i := 0) rfl rfl ?_
  refine r_get (pc := 7) (v := .ref dr) fX11_25 dX11_arc_7 h_2 rfl ?_
  have h_4 : hp_1 dr = some (.inr (1, [.int x0, .int x1, .int ((nI k)), .ref af, .ref au, .ref aw, .ref ac, .ref al])) := ((ho_3 dr (ne_c gc1 gc0 (by intro h9; cases h9))).trans gc1)
  refine r_get (pc := 10) (v := .int x0) fX11_71 dX11_arc_10 h_4 rfl ?_
  refine r_callS (pc := 13) (as := [.int p1, .int x0]) (st := []) kX11_74 dX11_arc_13 (c_X11_isNode (d := d - 1) (v := p1) (m := x0) (by omega)  ) rfl (by omega) (Nat.le_of_ble_eq_true rfl) (by omega) (by omega) rfl (fun r9 hp_5 nn_6 hq_7 => ?_)
  obtain ⟨rfl, hq_7n, ho_8⟩ := hq_7
  subst nn_6
  change Rn _ _ _ 16 _ [.int ((bI (decide (¬ p1 < 0 ∧ ¬ x0 ≤ p1))))] _ _ _ _ _
  refine r_if_eq (pc := 16) (tgt := 48) dX11_arc_16 (by decide) (fun c9 => absurd c9 (by rw [bI_t (decide_eq_true h1)]; decide)) (fun _ => ?_)
  refine r_iload_n (pc := 19) dX11_arc_19 (i := 2) rfl rfl ?_
  refine r_aload_n (pc := 20) dX11_arc_20 (i := 0) rfl rfl ?_
  have h_9 : hp_5 x = some (.inr (10, [.ref th, .int cnt, .int 0, .ref dr, .ref sk, .ref sh, .ref se, .ref pa, .ref fl, .ref sa])) := (ho_8 x _ h_2)
  refine r_get (pc := 21) (v := .ref dr) fX11_25 dX11_arc_21 h_9 rfl ?_
  have h_10 : hp_5 dr = some (.inr (1, [.int x0, .int x1, .int ((nI k)), .ref af, .ref au, .ref aw, .ref ac, .ref al])) := (ho_8 dr _ h_4)
  refine r_get (pc := 24) (v := .int x0) fX11_71 dX11_arc_24 h_10 rfl ?_
  refine r_callS (pc := 27) (as := [.int p2, .int x0]) (st := []) kX11_74 dX11_arc_27 (c_X11_isNode (d := d - 1) (v := p2) (m := x0) (by omega)  ) rfl (by omega) (Nat.le_of_ble_eq_true rfl) (by omega) (by omega) rfl (fun r9 hp_11 nn_12 hq_13 => ?_)
  obtain ⟨rfl, hq_13n, ho_14⟩ := hq_13
  subst nn_12
  change Rn _ _ _ 30 _ [.int ((bI (decide (¬ p2 < 0 ∧ ¬ x0 ≤ p2))))] _ _ _ _ _
  refine r_if_eq (pc := 30) (tgt := 48) dX11_arc_30 (by decide) (fun c9 => absurd c9 (by rw [bI_t (decide_eq_true h2)]; decide)) (fun _ => ?_)
  refine r_iload_n (pc := 33) dX11_arc_33 (i := 3) rfl rfl ?_
  refine r_callS (pc := 34) (as := [.int p3]) (st := []) kX11_78 dX11_arc_34 (c_X11_isWeight (d := d - 1) (v := p3) (by omega)  ) rfl (by omega) (Nat.le_of_ble_eq_true rfl) (by omega) (by omega) rfl (fun r9 hp_15 nn_16 hq_17 => ?_)
  obtain ⟨rfl, hq_17n, ho_18⟩ := hq_17
  subst nn_16
  change Rn _ _ _ 37 _ [.int ((bI (decide (¬ p3 < (-1000) ∧ ¬ 1000 < p3))))] _ _ _ _ _
  refine r_if_eq (pc := 37) (tgt := 48) dX11_arc_37 (by decide) (fun c9 => absurd c9 (by rw [bI_t (decide_eq_true h3)]; decide)) (fun _ => ?_)
  refine r_iload (pc := 40) dX11_arc_40 rfl ?_
  refine r_callS (pc := 42) (as := [.int p4]) (st := []) kX11_78 dX11_arc_42 (c_X11_isWeight (d := d - 1) (v := p4) (by omega)  ) rfl (by omega) (Nat.le_of_ble_eq_true rfl) (by omega) (by omega) rfl (fun r9 hp_19 nn_20 hq_21 => ?_)
  obtain ⟨rfl, hq_21n, ho_22⟩ := hq_21
  subst nn_20
  change Rn _ _ _ 45 _ [.int ((bI (decide (¬ p4 < (-1000) ∧ ¬ 1000 < p4))))] _ _ _ _ _
  refine r_if_ne (pc := 45) (tgt := 55) dX11_arc_45 (by decide) (fun _ => ?_) (fun c9 => absurd (by rw [bI_t (decide_eq_true h4)]; decide) c9)
  refine r_aload_n (pc := 55) dX11_arc_55 (i := 0) rfl rfl ?_
  have h_23 : hp_19 x = some (.inr (10, [.ref th, .int cnt, .int 0, .ref dr, .ref sk, .ref sh, .ref se, .ref pa, .ref fl, .ref sa])) := (ho_22 x _ (ho_18 x _ (ho_14 x _ h_9)))
  refine r_get (pc := 56) (v := .ref dr) fX11_25 dX11_arc_56 h_23 rfl ?_
  have h_24 : hp_19 dr = some (.inr (1, [.int x0, .int x1, .int ((nI k)), .ref af, .ref au, .ref aw, .ref ac, .ref al])) := (ho_22 dr _ (ho_18 dr _ (ho_14 dr _ h_10)))
  refine r_get (pc := 59) (v := .int ((nI k))) fX11_86 dX11_arc_59 h_24 rfl ?_
  refine r_istore (pc := 62) (lv' := [(5, .int ((nI k))), (0, .ref x), (1, .int p1), (2, .int p2), (3, .int p3), (4, .int p4)]) dX11_arc_62 (by decide) rfl ?_
  refine r_aload_n (pc := 64) dX11_arc_64 (i := 0) rfl rfl ?_
  refine r_get (pc := 65) (v := .ref dr) fX11_25 dX11_arc_65 h_23 rfl ?_
  refine r_iload_n (pc := 68) dX11_arc_68 (i := 1) rfl rfl ?_
  refine r_iload_n (pc := 69) dX11_arc_69 (i := 2) rfl rfl ?_
  refine r_iload_n (pc := 70) dX11_arc_70 (i := 3) rfl rfl ?_
  refine r_iload (pc := 71) dX11_arc_71 rfl ?_
  have h_28 : hp_19 af = some (.inl (cI, 60, .inl (f1))) := (ho_22 af _ (ho_18 af _ (ho_14 af _ (ho_8 af _ ((ho_3 af (ne_c gc2 gc0 (by intro h9; cases h9))).trans gc2)))))
  have h_29 : hp_19 au = some (.inl (cI, 60, .inl (f2))) := (ho_22 au _ (ho_18 au _ (ho_14 au _ (ho_8 au _ ((ho_3 au (ne_c gc3 gc0 (by intro h9; cases h9))).trans gc3)))))
  have h_30 : hp_19 aw = some (.inl (cI, 60, .inl (f3))) := (ho_22 aw _ (ho_18 aw _ (ho_14 aw _ (ho_8 aw _ ((ho_3 aw (ne_c gc4 gc0 (by intro h9; cases h9))).trans gc4)))))
  have h_31 : hp_19 ac = some (.inl (cI, 60, .inl (f4))) := (ho_22 ac _ (ho_18 ac _ (ho_14 ac _ (ho_8 ac _ ((ho_3 ac (ne_c gc5 gc0 (by intro h9; cases h9))).trans gc5)))))
  refine r_callV (pc := 73) (as := [.int p1, .int p2, .int p3, .int p4]) (st := []) kX11_89 rfl dX11_arc_73 h_24 (c_X1_add (d := d - 1) (a := dr) (x0 := x0) (x1 := x1) (af := af) (au := au) (aw := aw) (ac := ac) (al := al) (k := k) (p1 := p1) (f1 := f1) (p2 := p2) (f2 := f2) (p3 := p3) (f3 := f3) (p4 := p4) (f4 := f4) (by omega) h_24 h_28 h_29 h_30 h_31 (by omega) (n01) (n02) (n03) (n12) (n13) (n23)) rfl (by omega) (Nat.le_of_ble_eq_true rfl) (by omega) (by omega) rfl (fun r9 hp_25 nn_26 hq_27 => ?_)
  obtain ⟨rfl, hq_27n, h_32, h_33, h_34, h_35, h_36, ho_37⟩ := hq_27
  subst nn_26
  change Rn _ _ _ 76 _ [.int 1] _ _ _ _ _
  refine r_if_eq (pc := 76) (tgt := 84) dX11_arc_76 (by decide) (fun c9 => absurd c9 (by decide)) (fun _ => ?_)
  refine r_iload (pc := 79) dX11_arc_79 rfl ?_
  refine r_goto (pc := 81) (tgt := 90) dX11_arc_81 (by decide) ?_
  have h_38 : hp_25 x = some (.inr (10, [.ref th, .int cnt, .int 0, .ref dr, .ref sk, .ref sh, .ref se, .ref pa, .ref fl, .ref sa])) := (ho_37 x _ h_23 (ne_c gc0 gc2 (by intro h9; cases h9)) (ne_c gc0 gc3 (by intro h9; cases h9)) (ne_c gc0 gc4 (by intro h9; cases h9)) (ne_c gc0 gc5 (by intro h9; cases h9)) (ne_c gc0 gc1 (by intro h9; cases h9)))
  exact r_iret (pc := 90) dX11_arc_90 rfl (⟨rfl, rfl, h_38, h_32, h_33, h_34, h_35, h_36, fun q e9 h9 n9_0 n9_1 n9_2 n9_3 n9_4 n9_5 => (ho_37 q e9 (ho_22 q e9 (ho_18 q e9 (ho_14 q e9 (ho_8 q e9 ((ho_3 q n9_0).trans h9) ) ) ) ) n9_1 n9_2 n9_3 n9_4 n9_5)⟩)
set_option maxHeartbeats 4000000 in
set_option maxRecDepth 100000 in
theorem c_X11_arc_full {D : va_G} {cI cJ cZ cT : ClassId} {lo b L : Nat} {xs : Nat → Int32} {hp : MH} {n d : Nat} {x th dr sk sh se pa fl sa : Nat} {cnt rf : Int32} {af au aw ac al k : Nat} {x0 x1 p1 p2 p3 p4 : Int32} (hd0 : 1 ≤ d) (gc0 : hp x = some (.inr (10, [.ref th, .int cnt, .int rf, .ref dr, .ref sk, .ref sh, .ref se, .ref pa, .ref fl, .ref sa]))) (gc1 : hp dr = some (.inr (1, [.int x0, .int x1, .int ((nI k)), .ref af, .ref au, .ref aw, .ref ac, .ref al]))) (h1 : ¬ p1 < 0 ∧ ¬ x0 ≤ p1) (h2 : ¬ p2 < 0 ∧ ¬ x0 ≤ p2) (h3 : ¬ p3 < (-1000) ∧ ¬ 1000 < p3) (h4 : ¬ p4 < (-1000) ∧ ¬ 1000 < p4) (hk : 60 ≤ k) (hk2 : k < 2 ^ 31) : Mt (gG D cI cJ cZ cT lo b L xs) mX11_arc d 0 0 [.ref x, .int p1, .int p2, .int p3, .int p4] hp n (fun r hp1 n1 => r = some (.int ((-4))) ∧ n1 = n ∧ hp1 x = some (.inr (10, [.ref th, .int cnt, .int ((-4)), .ref dr, .ref sk, .ref sh, .ref se, .ref pa, .ref fl, .ref sa])) ∧ ∀ (q : Nat) (e9 : va_E), hp q = some e9 → q ≠ x → hp1 q = some e9) := by
  refine Mt.of rfl (Nat.le_of_ble_eq_true rfl) ?_
  refine Rn.pick (lv' := [(0, .ref x), (1, .int p1), (2, .int p2), (3, .int p3), (4, .int p4)]) [0, 1, 2, 3, 4] rfl ?_
  refine r_aload_n (pc := 0) dX11_arc_0 (i := 0) rfl rfl ?_
  refine r_iconst (pc := 1) (v := 0) dX11_arc_1 (by decide) ?_
  refine w_put (pc := 2) (ty := .int) (fs' := [.ref th, .int cnt, .int 0, .ref dr, .ref sk, .ref sh, .ref se, .ref pa, .ref fl, .ref sa]) fX11_19 tyX11 tyX11_ok nmX11 (by decide +kernel) (Or.inl rfl) dX11_arc_2 gc0 (Nat.le_of_ble_eq_true rfl) (rfl) (rfl) rfl (fun hp_1 h_2 ho_3 => ?_)
  refine r_iload_n (pc := 5) dX11_arc_5 (i := 1) rfl rfl ?_
  refine r_aload_n (pc := 6) dX11_arc_6 (i := 0) rfl rfl ?_
  refine r_get (pc := 7) (v := .ref dr) fX11_25 dX11_arc_7 h_2 rfl ?_
  have h_4 : hp_1 dr = some (.inr (1, [.int x0, .int x1, .int ((nI k)), .ref af, .ref au, .ref aw, .ref ac, .ref al])) := ((ho_3 dr (ne_c gc1 gc0 (by intro h9; cases h9))).trans gc1)
  refine r_get (pc := 10) (v := .int x0) fX11_71 dX11_arc_10 h_4 rfl ?_
  refine r_callS (pc := 13) (as := [.int p1, .int x0]) (st := []) kX11_74 dX11_arc_13 (c_X11_isNode (d := d - 1) (v := p1) (m := x0) (by omega)  ) rfl (by omega) (Nat.le_of_ble_eq_true rfl) (by omega) (by omega) rfl (fun r9 hp_5 nn_6 hq_7 => ?_)
  obtain ⟨rfl, hq_7n, ho_8⟩ := hq_7
  subst nn_6
  change Rn _ _ _ 16 _ [.int ((bI (decide (¬ p1 < 0 ∧ ¬ x0 ≤ p1))))] _ _ _ _ _
  refine r_if_eq (pc := 16) (tgt := 48) dX11_arc_16 (by decide) (fun c9 => absurd c9 (by rw [bI_t (decide_eq_true h1)]; decide)) (fun _ => ?_)
  refine r_iload_n (pc := 19) dX11_arc_19 (i := 2) rfl rfl ?_
  refine r_aload_n (pc := 20) dX11_arc_20 (i := 0) rfl rfl ?_
  have h_9 : hp_5 x = some (.inr (10, [.ref th, .int cnt, .int 0, .ref dr, .ref sk, .ref sh, .ref se, .ref pa, .ref fl, .ref sa])) := (ho_8 x _ h_2)
  refine r_get (pc := 21) (v := .ref dr) fX11_25 dX11_arc_21 h_9 rfl ?_
  have h_10 : hp_5 dr = some (.inr (1, [.int x0, .int x1, .int ((nI k)), .ref af, .ref au, .ref aw, .ref ac, .ref al])) := (ho_8 dr _ h_4)
  refine r_get (pc := 24) (v := .int x0) fX11_71 dX11_arc_24 h_10 rfl ?_
  refine r_callS (pc := 27) (as := [.int p2, .int x0]) (st := []) kX11_74 dX11_arc_27 (c_X11_isNode (d := d - 1) (v := p2) (m := x0) (by omega)  ) rfl (by omega) (Nat.le_of_ble_eq_true rfl) (by omega) (by omega) rfl (fun r9 hp_11 nn_12 hq_13 => ?_)
  obtain ⟨rfl, hq_13n, ho_14⟩ := hq_13
  subst nn_12
  change Rn _ _ _ 30 _ [.int ((bI (decide (¬ p2 < 0 ∧ ¬ x0 ≤ p2))))] _ _ _ _ _
  refine r_if_eq (pc := 30) (tgt := 48) dX11_arc_30 (by decide) (fun c9 => absurd c9 (by rw [bI_t (decide_eq_true h2)]; decide)) (fun _ => ?_)
  refine r_iload_n (pc := 33) dX11_arc_33 (i := 3) rfl rfl ?_
  refine r_callS (pc := 34) (as := [.int p3]) (st := []) kX11_78 dX11_arc_34 (c_X11_isWeight (d := d - 1) (v := p3) (by omega)  ) rfl (by omega) (Nat.le_of_ble_eq_true rfl) (by omega) (by omega) rfl (fun r9 hp_15 nn_16 hq_17 => ?_)
  obtain ⟨rfl, hq_17n, ho_18⟩ := hq_17
  subst nn_16
  change Rn _ _ _ 37 _ [.int ((bI (decide (¬ p3 < (-1000) ∧ ¬ 1000 < p3))))] _ _ _ _ _
  refine r_if_eq (pc := 37) (tgt := 48) dX11_arc_37 (by decide) (fun c9 => absurd c9 (by rw [bI_t (decide_eq_true h3)]; decide)) (fun _ => ?_)
  refine r_iload (pc := 40) dX11_arc_40 rfl ?_
  refine r_callS (pc := 42) (as := [.int p4]) (st := []) kX11_78 dX11_arc_42 (c_X11_isWeight (d := d - 1) (v := p4) (by omega)  ) rfl (by omega) (Nat.le_of_ble_eq_true rfl) (by omega) (by omega) rfl (fun r9 hp_19 nn_20 hq_21 => ?_)
  obtain ⟨rfl, hq_21n, ho_22⟩ := hq_21
  subst nn_20
  change Rn _ _ _ 45 _ [.int ((bI (decide (¬ p4 < (-1000) ∧ ¬ 1000 < p4))))] _ _ _ _ _
  refine r_if_ne (pc := 45) (tgt := 55) dX11_arc_45 (by decide) (fun _ => ?_) (fun c9 => absurd (by rw [bI_t (decide_eq_true h4)]; decide) c9)
  refine r_aload_n (pc := 55) dX11_arc_55 (i := 0) rfl rfl ?_
  have h_23 : hp_19 x = some (.inr (10, [.ref th, .int cnt, .int 0, .ref dr, .ref sk, .ref sh, .ref se, .ref pa, .ref fl, .ref sa])) := (ho_22 x _ (ho_18 x _ (ho_14 x _ h_9)))
  refine r_get (pc := 56) (v := .ref dr) fX11_25 dX11_arc_56 h_23 rfl ?_
  have h_24 : hp_19 dr = some (.inr (1, [.int x0, .int x1, .int ((nI k)), .ref af, .ref au, .ref aw, .ref ac, .ref al])) := (ho_22 dr _ (ho_18 dr _ (ho_14 dr _ h_10)))
  refine r_get (pc := 59) (v := .int ((nI k))) fX11_86 dX11_arc_59 h_24 rfl ?_
  refine r_istore (pc := 62) (lv' := [(5, .int ((nI k))), (0, .ref x), (1, .int p1), (2, .int p2), (3, .int p3), (4, .int p4)]) dX11_arc_62 (by decide) rfl ?_
  refine r_aload_n (pc := 64) dX11_arc_64 (i := 0) rfl rfl ?_
  refine r_get (pc := 65) (v := .ref dr) fX11_25 dX11_arc_65 h_23 rfl ?_
  refine r_iload_n (pc := 68) dX11_arc_68 (i := 1) rfl rfl ?_
  refine r_iload_n (pc := 69) dX11_arc_69 (i := 2) rfl rfl ?_
  refine r_iload_n (pc := 70) dX11_arc_70 (i := 3) rfl rfl ?_
  refine r_iload (pc := 71) dX11_arc_71 rfl ?_
  refine r_callV (pc := 73) (as := [.int p1, .int p2, .int p3, .int p4]) (st := []) kX11_89 rfl dX11_arc_73 h_24 (c_X1_add_no (d := d - 1) (a := dr) (x0 := x0) (x1 := x1) (af := af) (au := au) (aw := aw) (ac := ac) (al := al) (k := k) (p1 := p1) (p2 := p2) (p3 := p3) (p4 := p4) (by omega) h_24 (by omega) (by omega)) rfl (by omega) (Nat.le_of_ble_eq_true rfl) (by omega) (by omega) rfl (fun r9 hp_25 nn_26 hq_27 => ?_)
  obtain ⟨rfl, hq_27n, ho_28⟩ := hq_27
  subst nn_26
  change Rn _ _ _ 76 _ [.int 0] _ _ _ _ _
  refine r_if_eq (pc := 76) (tgt := 84) dX11_arc_76 (by decide) (fun _ => ?_) (fun c9 => absurd (rfl) c9)
  refine r_aload_n (pc := 84) dX11_arc_84 (i := 0) rfl rfl ?_
  refine r_bipush (pc := 85) (v := (-4)) dX11_arc_85 (by decide) ?_
  have h_32 : hp_25 x = some (.inr (10, [.ref th, .int cnt, .int 0, .ref dr, .ref sk, .ref sh, .ref se, .ref pa, .ref fl, .ref sa])) := (ho_28 x _ h_23)
  refine r_callV (pc := 87) (as := [.int ((-4))]) (st := []) kX11_82 rfl dX11_arc_87 h_32 (c_X11_refuse (d := d - 1) (th := th) (cnt := cnt) (rf := 0) (dr := dr) (sk := sk) (sh := sh) (se := se) (pa := pa) (fl := fl) (sa := sa) (x := x) (p1 := (-4)) (by omega) h_32 ) rfl (by omega) (Nat.le_of_ble_eq_true rfl) (by omega) (by omega) rfl (fun r9 hp_29 nn_30 hq_31 => ?_)
  obtain ⟨rfl, hq_31n, h_33, ho_34⟩ := hq_31
  subst nn_30
  change Rn _ _ _ 90 _ [.int ((-4))] _ _ _ _ _
  exact r_iret (pc := 90) dX11_arc_90 rfl (⟨rfl, rfl, h_33, fun q e9 h9 n9_0 => (ho_34 q e9 (ho_28 q e9 (ho_22 q e9 (ho_18 q e9 (ho_14 q e9 (ho_8 q e9 ((ho_3 q n9_0).trans h9) ) ) ) ) ) n9_0)⟩)
set_option maxHeartbeats 4000000 in
set_option maxRecDepth 100000 in
theorem c_X11_arc_no {D : va_G} {cI cJ cZ cT : ClassId} {lo b L : Nat} {xs : Nat → Int32} {hp : MH} {n d : Nat} {x th dr sk sh se pa fl sa : Nat} {cnt rf : Int32} {af au aw ac al k : Nat} {x0 x1 p1 p2 p3 p4 : Int32} (hd0 : 1 ≤ d) (gc0 : hp x = some (.inr (10, [.ref th, .int cnt, .int rf, .ref dr, .ref sk, .ref sh, .ref se, .ref pa, .ref fl, .ref sa]))) (gc1 : hp dr = some (.inr (1, [.int x0, .int x1, .int ((nI k)), .ref af, .ref au, .ref aw, .ref ac, .ref al]))) (hno : ¬ ((¬ p1 < 0 ∧ ¬ x0 ≤ p1) ∧ (¬ p2 < 0 ∧ ¬ x0 ≤ p2) ∧ (¬ p3 < (-1000) ∧ ¬ 1000 < p3) ∧ (¬ p4 < (-1000) ∧ ¬ 1000 < p4))) : Mt (gG D cI cJ cZ cT lo b L xs) mX11_arc d 0 0 [.ref x, .int p1, .int p2, .int p3, .int p4] hp n (fun r hp1 n1 => r = some (.int ((-3))) ∧ n1 = n ∧ hp1 x = some (.inr (10, [.ref th, .int cnt, .int ((-3)), .ref dr, .ref sk, .ref sh, .ref se, .ref pa, .ref fl, .ref sa])) ∧ ∀ (q : Nat) (e9 : va_E), hp q = some e9 → q ≠ x → hp1 q = some e9) := by
  refine Mt.of rfl (Nat.le_of_ble_eq_true rfl) ?_
  refine Rn.pick (lv' := [(0, .ref x), (1, .int p1), (2, .int p2), (3, .int p3), (4, .int p4)]) [0, 1, 2, 3, 4] rfl ?_
  refine r_aload_n (pc := 0) dX11_arc_0 (i := 0) rfl rfl ?_
  refine r_iconst (pc := 1) (v := 0) dX11_arc_1 (by decide) ?_
  refine w_put (pc := 2) (ty := .int) (fs' := [.ref th, .int cnt, .int 0, .ref dr, .ref sk, .ref sh, .ref se, .ref pa, .ref fl, .ref sa]) fX11_19 tyX11 tyX11_ok nmX11 (by decide +kernel) (Or.inl rfl) dX11_arc_2 gc0 (Nat.le_of_ble_eq_true rfl) (rfl) (rfl) rfl (fun hp_1 h_2 ho_3 => ?_)
  refine r_iload_n (pc := 5) dX11_arc_5 (i := 1) rfl rfl ?_
  refine r_aload_n (pc := 6) dX11_arc_6 (i := 0) rfl rfl ?_
  refine r_get (pc := 7) (v := .ref dr) fX11_25 dX11_arc_7 h_2 rfl ?_
  have h_4 : hp_1 dr = some (.inr (1, [.int x0, .int x1, .int ((nI k)), .ref af, .ref au, .ref aw, .ref ac, .ref al])) := ((ho_3 dr (ne_c gc1 gc0 (by intro h9; cases h9))).trans gc1)
  refine r_get (pc := 10) (v := .int x0) fX11_71 dX11_arc_10 h_4 rfl ?_
  refine r_callS (pc := 13) (as := [.int p1, .int x0]) (st := []) kX11_74 dX11_arc_13 (c_X11_isNode (d := d - 1) (v := p1) (m := x0) (by omega)  ) rfl (by omega) (Nat.le_of_ble_eq_true rfl) (by omega) (by omega) rfl (fun r9 hp_5 nn_6 hq_7 => ?_)
  obtain ⟨rfl, hq_7n, ho_8⟩ := hq_7
  subst nn_6
  change Rn _ _ _ 16 _ [.int ((bI (decide (¬ p1 < 0 ∧ ¬ x0 ≤ p1))))] _ _ _ _ _
  refine r_if_eq (pc := 16) (tgt := 48) dX11_arc_16 (by decide) (fun c16 => ?_) (fun c16 => ?_)
  · refine r_aload_n (pc := 48) dX11_arc_48 (i := 0) rfl rfl ?_
    refine r_bipush (pc := 49) (v := (-3)) dX11_arc_49 (by decide) ?_
    have h_12 : hp_5 x = some (.inr (10, [.ref th, .int cnt, .int 0, .ref dr, .ref sk, .ref sh, .ref se, .ref pa, .ref fl, .ref sa])) := (ho_8 x _ h_2)
    refine r_callV (pc := 51) (as := [.int ((-3))]) (st := []) kX11_82 rfl dX11_arc_51 h_12 (c_X11_refuse (d := d - 1) (th := th) (cnt := cnt) (rf := 0) (dr := dr) (sk := sk) (sh := sh) (se := se) (pa := pa) (fl := fl) (sa := sa) (x := x) (p1 := (-3)) (by omega) h_12 ) rfl (by omega) (Nat.le_of_ble_eq_true rfl) (by omega) (by omega) rfl (fun r9 hp_9 nn_10 hq_11 => ?_)
    obtain ⟨rfl, hq_11n, h_13, ho_14⟩ := hq_11
    subst nn_10
    change Rn _ _ _ 54 _ [.int ((-3))] _ _ _ _ _
    exact r_iret (pc := 54) dX11_arc_54 rfl (⟨rfl, rfl, h_13, fun q e9 h9 n9_0 => (ho_14 q e9 (ho_8 q e9 ((ho_3 q n9_0).trans h9) ) n9_0)⟩)
  · refine r_iload_n (pc := 19) dX11_arc_19 (i := 2) rfl rfl ?_
    refine r_aload_n (pc := 20) dX11_arc_20 (i := 0) rfl rfl ?_
    have h_15 : hp_5 x = some (.inr (10, [.ref th, .int cnt, .int 0, .ref dr, .ref sk, .ref sh, .ref se, .ref pa, .ref fl, .ref sa])) := (ho_8 x _ h_2)
    refine r_get (pc := 21) (v := .ref dr) fX11_25 dX11_arc_21 h_15 rfl ?_
    have h_16 : hp_5 dr = some (.inr (1, [.int x0, .int x1, .int ((nI k)), .ref af, .ref au, .ref aw, .ref ac, .ref al])) := (ho_8 dr _ h_4)
    refine r_get (pc := 24) (v := .int x0) fX11_71 dX11_arc_24 h_16 rfl ?_
    refine r_callS (pc := 27) (as := [.int p2, .int x0]) (st := []) kX11_74 dX11_arc_27 (c_X11_isNode (d := d - 1) (v := p2) (m := x0) (by omega)  ) rfl (by omega) (Nat.le_of_ble_eq_true rfl) (by omega) (by omega) rfl (fun r9 hp_17 nn_18 hq_19 => ?_)
    obtain ⟨rfl, hq_19n, ho_20⟩ := hq_19
    subst nn_18
    change Rn _ _ _ 30 _ [.int ((bI (decide (¬ p2 < 0 ∧ ¬ x0 ≤ p2))))] _ _ _ _ _
    refine r_if_eq (pc := 30) (tgt := 48) dX11_arc_30 (by decide) (fun c30 => ?_) (fun c30 => ?_)
    · refine r_aload_n (pc := 48) dX11_arc_48 (i := 0) rfl rfl ?_
      refine r_bipush (pc := 49) (v := (-3)) dX11_arc_49 (by decide) ?_
      have h_24 : hp_17 x = some (.inr (10, [.ref th, .int cnt, .int 0, .ref dr, .ref sk, .ref sh, .ref se, .ref pa, .ref fl, .ref sa])) := (ho_20 x _ h_15)
      refine r_callV (pc := 51) (as := [.int ((-3))]) (st := []) kX11_82 rfl dX11_arc_51 h_24 (c_X11_refuse (d := d - 1) (th := th) (cnt := cnt) (rf := 0) (dr := dr) (sk := sk) (sh := sh) (se := se) (pa := pa) (fl := fl) (sa := sa) (x := x) (p1 := (-3)) (by omega) h_24 ) rfl (by omega) (Nat.le_of_ble_eq_true rfl) (by omega) (by omega) rfl (fun r9 hp_21 nn_22 hq_23 => ?_)
      obtain ⟨rfl, hq_23n, h_25, ho_26⟩ := hq_23
      subst nn_22
      change Rn _ _ _ 54 _ [.int ((-3))] _ _ _ _ _
      exact r_iret (pc := 54) dX11_arc_54 rfl (⟨rfl, rfl, h_25, fun q e9 h9 n9_0 => (ho_26 q e9 (ho_20 q e9 (ho_8 q e9 ((ho_3 q n9_0).trans h9) ) ) n9_0)⟩)
    · refine r_iload_n (pc := 33) dX11_arc_33 (i := 3) rfl rfl ?_
      refine r_callS (pc := 34) (as := [.int p3]) (st := []) kX11_78 dX11_arc_34 (c_X11_isWeight (d := d - 1) (v := p3) (by omega)  ) rfl (by omega) (Nat.le_of_ble_eq_true rfl) (by omega) (by omega) rfl (fun r9 hp_27 nn_28 hq_29 => ?_)
      obtain ⟨rfl, hq_29n, ho_30⟩ := hq_29
      subst nn_28
      change Rn _ _ _ 37 _ [.int ((bI (decide (¬ p3 < (-1000) ∧ ¬ 1000 < p3))))] _ _ _ _ _
      refine r_if_eq (pc := 37) (tgt := 48) dX11_arc_37 (by decide) (fun c37 => ?_) (fun c37 => ?_)
      · refine r_aload_n (pc := 48) dX11_arc_48 (i := 0) rfl rfl ?_
        refine r_bipush (pc := 49) (v := (-3)) dX11_arc_49 (by decide) ?_
        have h_34 : hp_27 x = some (.inr (10, [.ref th, .int cnt, .int 0, .ref dr, .ref sk, .ref sh, .ref se, .ref pa, .ref fl, .ref sa])) := (ho_30 x _ (ho_20 x _ h_15))
        refine r_callV (pc := 51) (as := [.int ((-3))]) (st := []) kX11_82 rfl dX11_arc_51 h_34 (c_X11_refuse (d := d - 1) (th := th) (cnt := cnt) (rf := 0) (dr := dr) (sk := sk) (sh := sh) (se := se) (pa := pa) (fl := fl) (sa := sa) (x := x) (p1 := (-3)) (by omega) h_34 ) rfl (by omega) (Nat.le_of_ble_eq_true rfl) (by omega) (by omega) rfl (fun r9 hp_31 nn_32 hq_33 => ?_)
        obtain ⟨rfl, hq_33n, h_35, ho_36⟩ := hq_33
        subst nn_32
        change Rn _ _ _ 54 _ [.int ((-3))] _ _ _ _ _
        exact r_iret (pc := 54) dX11_arc_54 rfl (⟨rfl, rfl, h_35, fun q e9 h9 n9_0 => (ho_36 q e9 (ho_30 q e9 (ho_20 q e9 (ho_8 q e9 ((ho_3 q n9_0).trans h9) ) ) ) n9_0)⟩)
      · refine r_iload (pc := 40) dX11_arc_40 rfl ?_
        refine r_callS (pc := 42) (as := [.int p4]) (st := []) kX11_78 dX11_arc_42 (c_X11_isWeight (d := d - 1) (v := p4) (by omega)  ) rfl (by omega) (Nat.le_of_ble_eq_true rfl) (by omega) (by omega) rfl (fun r9 hp_37 nn_38 hq_39 => ?_)
        obtain ⟨rfl, hq_39n, ho_40⟩ := hq_39
        subst nn_38
        change Rn _ _ _ 45 _ [.int ((bI (decide (¬ p4 < (-1000) ∧ ¬ 1000 < p4))))] _ _ _ _ _
        refine r_if_ne (pc := 45) (tgt := 55) dX11_arc_45 (by decide) (fun c45 => ?_) (fun c45 => ?_)
        · exact absurd ⟨of_decide_eq_true (bI_1 c16), of_decide_eq_true (bI_1 c30), of_decide_eq_true (bI_1 c37), of_decide_eq_true (bI_1 c45)⟩ hno
        · refine r_aload_n (pc := 48) dX11_arc_48 (i := 0) rfl rfl ?_
          refine r_bipush (pc := 49) (v := (-3)) dX11_arc_49 (by decide) ?_
          have h_44 : hp_37 x = some (.inr (10, [.ref th, .int cnt, .int 0, .ref dr, .ref sk, .ref sh, .ref se, .ref pa, .ref fl, .ref sa])) := (ho_40 x _ (ho_30 x _ (ho_20 x _ h_15)))
          refine r_callV (pc := 51) (as := [.int ((-3))]) (st := []) kX11_82 rfl dX11_arc_51 h_44 (c_X11_refuse (d := d - 1) (th := th) (cnt := cnt) (rf := 0) (dr := dr) (sk := sk) (sh := sh) (se := se) (pa := pa) (fl := fl) (sa := sa) (x := x) (p1 := (-3)) (by omega) h_44 ) rfl (by omega) (Nat.le_of_ble_eq_true rfl) (by omega) (by omega) rfl (fun r9 hp_41 nn_42 hq_43 => ?_)
          obtain ⟨rfl, hq_43n, h_45, ho_46⟩ := hq_43
          subst nn_42
          change Rn _ _ _ 54 _ [.int ((-3))] _ _ _ _ _
          exact r_iret (pc := 54) dX11_arc_54 rfl (⟨rfl, rfl, h_45, fun q e9 h9 n9_0 => (ho_46 q e9 (ho_40 q e9 (ho_30 q e9 (ho_20 q e9 (ho_8 q e9 ((ho_3 q n9_0).trans h9) ) ) ) ) n9_0)⟩)
