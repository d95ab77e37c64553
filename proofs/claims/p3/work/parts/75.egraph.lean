set_option maxHeartbeats 4000000 in
set_option maxRecDepth 100000 in
theorem c_X11_graph {D : va_G} {cI cJ cZ cT : ClassId} {lo b L : Nat} {xs : Nat → Int32} {hp : MH} {n d : Nat} {x th dr sk sh se pa fl sa : Nat} {rf : Int32} {af au aw ac al N m i : Nat} {q : Bool} {f1 f2 f3 f4 : Nat → Int32} {f : Nat → Option Nat} (hd0 : 3 ≤ d) (gc0 : hp x = some (.inr (10, [.ref th, .int ((nI i)), .int rf, .ref dr, .ref sk, .ref sh, .ref se, .ref pa, .ref fl, .ref sa]))) (gc1 : hp dr = some (.inr (1, [.int ((nI N)), .int ((bI q)), .int ((nI m)), .ref af, .ref au, .ref aw, .ref ac, .ref al]))) (gc2 : hp af = some (.inl (cI, 60, .inl (f1)))) (gc3 : hp au = some (.inl (cI, 60, .inl (f2)))) (gc4 : hp aw = some (.inl (cI, 60, .inl (f3)))) (gc5 : hp ac = some (.inl (cI, 60, .inl (f4)))) (gc6 : hp th = some (.inl (cT, 120, .inr (.inr (.inr (.inr (f))))))) (hi : i < 120) (h1 : 1 ≤ N) (hN : N ≤ 16) (hm : m ≤ 60) (hv : ∀ i, i < m → (∃ u, u < N ∧ f1 i = nI u) ∧ ∃ u, u < N ∧ f2 i = nI u) : Mt (gG D cI cJ cZ cT lo b L xs) mX11_graph d 11 (14 + (m + m + m + m + N + N + N + (m + gc q f1 f2 m) + (m + gc q f1 f2 m) + (m + gc q f1 f2 m))) [.ref x] hp n (fun r hp1 n1 => r = some (.int ((nI i))) ∧ n1 = n + 11 ∧ hp1 x = some (.inr (10, [.ref th, .int ((nI (i + 1))), .int 0, .ref dr, .ref sk, .ref sh, .ref se, .ref pa, .ref fl, .ref sa])) ∧ hp1 th = some (.inl (cT, 120, .inr (.inr (.inr (.inr (va_up f i (some n))))))) ∧ hp1 n = some (.inr (3, [.int ((nI N)), .int ((bI q)), .int ((nI m)), .ref ((n + 1)), .ref ((n + 2)), .ref ((n + 3)), .ref ((n + 4)), .int ((nI (m + gc q f1 f2 m))), .ref ((n + 8)), .ref ((n + 9)), .ref ((n + 10)), .ref ((n + 5)), .ref ((n + 6)), .ref ((n + 7))])) ∧ hp1 (n + 1) = some (.inl (cI, m, .inl (f1))) ∧ hp1 (n + 2) = some (.inl (cI, m, .inl (f2))) ∧ hp1 (n + 3) = some (.inl (cI, m, .inl (f3))) ∧ hp1 (n + 4) = some (.inl (cI, m, .inl (f4))) ∧ hp1 (n + 5) = some (.inl (cI, N, .inl (nbF (ndF (goF q f1 f2 f1 f2 m)) (ndF (goF q f1 f2 f2 f1 m)) (m + gc q f1 f2 m)))) ∧ hp1 (n + 6) = some (.inl (cI, N, .inl (nbF (ndF (goF q f1 f2 f2 f1 m)) (ndF (goF q f1 f2 f1 f2 m)) (m + gc q f1 f2 m)))) ∧ hp1 (n + 7) = some (.inl (cI, N, .inl (joF (ndF (goF q f1 f2 f1 f2 m)) (ndF (goF q f1 f2 f2 f1 m)) (m + gc q f1 f2 m)))) ∧ hp1 (n + 8) = some (.inl (cI, (m + gc q f1 f2 m), .inl (goF q f1 f2 f1 f2 m))) ∧ hp1 (n + 9) = some (.inl (cI, (m + gc q f1 f2 m), .inl (goF q f1 f2 f2 f1 m))) ∧ hp1 (n + 10) = some (.inl (cI, (m + gc q f1 f2 m), .inl (goF q f1 f2 nI nI m))) ∧ ∀ (q : Nat) (e9 : va_E), hp q = some e9 → q ≠ x → q ≠ th → hp1 q = some e9) := by
  refine Mt.of rfl (Nat.le_of_ble_eq_true rfl) ?_
  refine Rn.pick (lv' := [(0, .ref x)]) [0] rfl ?_
  refine Rn.bd (fun bd => ?_)
  have l_x := bd _ _ gc0
  have l_dr := bd _ _ gc1
  have l_af := bd _ _ gc2
  have l_au := bd _ _ gc3
  have l_aw := bd _ _ gc4
  have l_ac := bd _ _ gc5
  have l_th := bd _ _ gc6
  refine r_aload_n (pc := 0) dX11_graph_0 (i := 0) rfl rfl ?_
  refine r_iconst (pc := 1) (v := 0) dX11_graph_1 (by decide) ?_
  refine w_put (pc := 2) (ty := .int) (fs' := [.ref th, .int ((nI i)), .int 0, .ref dr, .ref sk, .ref sh, .ref se, .ref pa, .ref fl, .ref sa]) fX11_19 tyX11 tyX11_ok nmX11 (by decide +kernel) (Or.inl rfl) dX11_graph_2 gc0 (Nat.le_of_ble_eq_true rfl) (rfl) (rfl) rfl (fun hp_1 h_2 ho_3 => ?_)
  refine r_aload_n (pc := 5) dX11_graph_5 (i := 0) rfl rfl ?_
  refine r_callV (pc := 6) (as := []) (st := []) kX11_93 rfl dX11_graph_6 h_2 (c_X11_isFull (d := d - 1) (th := th) (cnt := (nI i)) (rf := 0) (dr := dr) (sk := sk) (sh := sh) (se := se) (pa := pa) (fl := fl) (sa := sa) (x := x) (by omega) h_2 ) rfl (by omega) (Nat.le_of_ble_eq_true rfl) (by omega) (by omega) rfl (fun r9 hp_4 nn_5 hq_6 => ?_)
  obtain ⟨rfl, hq_6n, ho_7⟩ := hq_6
  subst nn_5
  change Rn _ _ _ 9 _ [.int ((bI (decide (¬ (nI i) < 120))))] _ _ _ _ _
  refine r_if_eq (pc := 9) (tgt := 21) dX11_graph_9 (by decide) (fun _ => ?_) (fun c9 => absurd (bI_f (decide_eq_false (fun h9 => h9 (nI_lt (b := 120) (by omega) (by omega))))) c9)
  refine r_aload_n (pc := 21) dX11_graph_21 (i := 0) rfl rfl ?_
  refine w_new (pc := 22) (fs := [.int 0, .int 0, .int 0, .null, .null, .null, .null, .int 0, .null, .null, .null, .null, .null, .null]) nX11_97 tyX3 tyX3_ok (by decide +kernel) dX11_graph_22 (by omega) (by omega) (fun hp_8 h_9 hk_10 ho_11 => ?_)
  refine r_dup (pc := 25) dX11_graph_25 rfl ?_
  refine r_aload_n (pc := 26) dX11_graph_26 (i := 0) rfl rfl ?_
  have h_12 : hp_8 x = some (.inr (10, [.ref th, .int ((nI i)), .int 0, .ref dr, .ref sk, .ref sh, .ref se, .ref pa, .ref fl, .ref sa])) := (hk_10 x _ (ho_7 x _ h_2))
  refine r_get (pc := 27) (v := .ref dr) fX11_25 dX11_graph_27 h_12 rfl ?_
  have h_16 : hp_8 dr = some (.inr (1, [.int ((nI N)), .int ((bI q)), .int ((nI m)), .ref af, .ref au, .ref aw, .ref ac, .ref al])) := (hk_10 dr _ (ho_7 dr _ ((ho_3 dr (ne_c gc1 gc0 (by intro h9; cases h9))).trans gc1)))
  have h_17 : hp_8 af = some (.inl (cI, 60, .inl (f1))) := (hk_10 af _ (ho_7 af _ ((ho_3 af (ne_c gc2 gc0 (by intro h9; cases h9))).trans gc2)))
  have h_18 : hp_8 au = some (.inl (cI, 60, .inl (f2))) := (hk_10 au _ (ho_7 au _ ((ho_3 au (ne_c gc3 gc0 (by intro h9; cases h9))).trans gc3)))
  have h_19 : hp_8 aw = some (.inl (cI, 60, .inl (f3))) := (hk_10 aw _ (ho_7 aw _ ((ho_3 aw (ne_c gc4 gc0 (by intro h9; cases h9))).trans gc4)))
  have h_20 : hp_8 ac = some (.inl (cI, 60, .inl (f4))) := (hk_10 ac _ (ho_7 ac _ ((ho_3 ac (ne_c gc5 gc0 (by intro h9; cases h9))).trans gc5)))
  refine r_callI (pc := 30) (as := [.ref dr]) (st := [.ref n, .ref x]) kX11_99 dX11_graph_30 (c_X3_init (d := d - 1) (a := n) (af := af) (au := au) (aw := aw) (ac := ac) (al := al) (dr := dr) (N := N) (q := q) (m := m) (f1 := f1) (f2 := f2) (f3 := f3) (f4 := f4) (by omega) h_9 h_16 h_17 h_18 h_19 h_20 (h1) (hN) (hm) (hv)) rfl (by omega) (Nat.le_of_ble_eq_true rfl) (by omega) (by omega) rfl (fun r9 hp_13 nn_14 hq_15 => ?_)
  obtain ⟨rfl, hq_15n, h_21, h_22, h_23, h_24, h_25, h_26, h_27, h_28, h_29, h_30, h_31, ho_32⟩ := hq_15
  subst nn_14
  change Rn _ _ _ 33 _ [.ref n, .ref x] _ _ _ _ _
  have h_36 : hp_13 x = some (.inr (10, [.ref th, .int ((nI i)), .int 0, .ref dr, .ref sk, .ref sh, .ref se, .ref pa, .ref fl, .ref sa])) := (ho_32 x _ h_12 (ne_an l_x 0))
  have h_37 : hp_13 th = some (.inl (cT, 120, .inr (.inr (.inr (.inr (f)))))) := (ho_32 th _ (hk_10 th _ (ho_7 th _ ((ho_3 th (ne_c gc6 gc0 (by intro h9; cases h9))).trans gc6))) (ne_an l_th 0))
  refine r_callV (pc := 33) (as := [.ref n]) (st := []) kX11_102 rfl dX11_graph_33 h_36 (c_X11_keep_X3 (d := d - 1) (th := th) (rf := 0) (dr := dr) (sk := sk) (sh := sh) (se := se) (pa := pa) (fl := fl) (sa := sa) (x := x) (i := i) (t := n) (f := f) (v0 := .int ((nI N))) (v1 := .int ((bI q))) (v2 := .int ((nI m))) (v3 := .ref ((n + 1))) (v4 := .ref ((n + 2))) (v5 := .ref ((n + 3))) (v6 := .ref ((n + 4))) (v7 := .int ((nI (m + gc q f1 f2 m)))) (v8 := .ref ((n + 8))) (v9 := .ref ((n + 9))) (v10 := .ref ((n + 10))) (v11 := .ref ((n + 5))) (v12 := .ref ((n + 6))) (v13 := .ref ((n + 7))) (by omega) h_36 h_37 h_21 (by omega)) rfl (by omega) (Nat.le_of_ble_eq_true rfl) (by omega) (by omega) rfl (fun r9 hp_33 nn_34 hq_35 => ?_)
  obtain ⟨rfl, hq_35n, h_38, h_39, ho_40⟩ := hq_35
  subst nn_34
  change Rn _ _ _ 36 _ [.int ((nI i))] _ _ _ _ _
  have h_41 : hp_33 n = some (.inr (3, [.int ((nI N)), .int ((bI q)), .int ((nI m)), .ref ((n + 1)), .ref ((n + 2)), .ref ((n + 3)), .ref ((n + 4)), .int ((nI (m + gc q f1 f2 m))), .ref ((n + 8)), .ref ((n + 9)), .ref ((n + 10)), .ref ((n + 5)), .ref ((n + 6)), .ref ((n + 7))])) := (ho_40 n _ h_21 (Ne.symm (ne_an l_th 0)) (Ne.symm (ne_an l_x 0)))
  have h_42 : hp_33 (n + 1) = some (.inl (cI, m, .inl (f1))) := (ho_40 (n + 1) _ h_22 (Ne.symm (ne_an l_th 1)) (Ne.symm (ne_an l_x 1)))
  have h_43 : hp_33 (n + 2) = some (.inl (cI, m, .inl (f2))) := (ho_40 (n + 2) _ h_23 (Ne.symm (ne_an l_th 2)) (Ne.symm (ne_an l_x 2)))
  have h_44 : hp_33 (n + 3) = some (.inl (cI, m, .inl (f3))) := (ho_40 (n + 3) _ h_24 (Ne.symm (ne_an l_th 3)) (Ne.symm (ne_an l_x 3)))
  have h_45 : hp_33 (n + 4) = some (.inl (cI, m, .inl (f4))) := (ho_40 (n + 4) _ h_25 (Ne.symm (ne_an l_th 4)) (Ne.symm (ne_an l_x 4)))
  have h_46 : hp_33 (n + 5) = some (.inl (cI, N, .inl (nbF (ndF (goF q f1 f2 f1 f2 m)) (ndF (goF q f1 f2 f2 f1 m)) (m + gc q f1 f2 m)))) := (ho_40 (n + 5) _ h_26 (Ne.symm (ne_an l_th 5)) (Ne.symm (ne_an l_x 5)))
  have h_47 : hp_33 (n + 6) = some (.inl (cI, N, .inl (nbF (ndF (goF q f1 f2 f2 f1 m)) (ndF (goF q f1 f2 f1 f2 m)) (m + gc q f1 f2 m)))) := (ho_40 (n + 6) _ h_27 (Ne.symm (ne_an l_th 6)) (Ne.symm (ne_an l_x 6)))
  have h_48 : hp_33 (n + 7) = some (.inl (cI, N, .inl (joF (ndF (goF q f1 f2 f1 f2 m)) (ndF (goF q f1 f2 f2 f1 m)) (m + gc q f1 f2 m)))) := (ho_40 (n + 7) _ h_28 (Ne.symm (ne_an l_th 7)) (Ne.symm (ne_an l_x 7)))
  have h_49 : hp_33 (n + 8) = some (.inl (cI, (m + gc q f1 f2 m), .inl (goF q f1 f2 f1 f2 m))) := (ho_40 (n + 8) _ h_29 (Ne.symm (ne_an l_th 8)) (Ne.symm (ne_an l_x 8)))
  have h_50 : hp_33 (n + 9) = some (.inl (cI, (m + gc q f1 f2 m), .inl (goF q f1 f2 f2 f1 m))) := (ho_40 (n + 9) _ h_30 (Ne.symm (ne_an l_th 9)) (Ne.symm (ne_an l_x 9)))
  have h_51 : hp_33 (n + 10) = some (.inl (cI, (m + gc q f1 f2 m), .inl (goF q f1 f2 nI nI m))) := (ho_40 (n + 10) _ h_31 (Ne.symm (ne_an l_th 10)) (Ne.symm (ne_an l_x 10)))
  exact r_iret (pc := 36) dX11_graph_36 rfl (⟨rfl, rfl, h_38, h_39, h_41, h_42, h_43, h_44, h_45, h_46, h_47, h_48, h_49, h_50, h_51, fun q e9 h9 n9_0 n9_1 => have l9 := bd q e9 h9; (ho_40 q e9 (ho_32 q e9 (hk_10 q e9 (ho_7 q e9 ((ho_3 q n9_0).trans h9) )) (ne_an l9 0)) n9_1 n9_0)⟩)
set_option maxHeartbeats 4000000 in
set_option maxRecDepth 100000 in
theorem c_X11_graph_full {D : va_G} {cI cJ cZ cT : ClassId} {lo b L : Nat} {xs : Nat → Int32} {hp : MH} {n d : Nat} {x th dr sk sh se pa fl sa : Nat} {cnt rf : Int32} (hd0 : 1 ≤ d) (gc0 : hp x = some (.inr (10, [.ref th, .int cnt, .int rf, .ref dr, .ref sk, .ref sh, .ref se, .ref pa, .ref fl, .ref sa]))) (hi : ¬ cnt < 120) : Mt (gG D cI cJ cZ cT lo b L xs) mX11_graph d 0 0 [.ref x] hp n (fun r hp1 n1 => r = some (.int ((-4))) ∧ n1 = n ∧ hp1 x = some (.inr (10, [.ref th, .int cnt, .int ((-4)), .ref dr, .ref sk, .ref sh, .ref se, .ref pa, .ref fl, .ref sa])) ∧ ∀ (q : Nat) (e9 : va_E), hp q = some e9 → q ≠ x → hp1 q = some e9) := by
  refine Mt.of rfl (Nat.le_of_ble_eq_true rfl) ?_
  refine Rn.pick (lv' := [(0, .ref x)]) [0] rfl ?_
  refine r_aload_n (pc := 0) dX11_graph_0 (i := 0) rfl rfl ?_
  refine r_iconst (pc := 1) (v := 0) dX11_graph_1 (by decide) ?_
  refine w_put (pc := 2) (ty := .int) (fs' := [.ref th, .int cnt, .int 0, .ref dr, .ref sk, .ref sh, .ref se, .ref pa, .ref fl, .ref sa]) fX11_19 tyX11 tyX11_ok nmX11 (by decide +kernel) (Or.inl rfl) dX11_graph_2 gc0 (Nat.le_of_ble_eq_true rfl) (rfl) (rfl) rfl (fun hp_1 h_2 ho_3 => ?_)
  refine r_aload_n (pc := 5) dX11_graph_5 (i := 0) rfl rfl ?_
  refine r_callV (pc := 6) (as := []) (st := []) kX11_93 rfl dX11_graph_6 h_2 (c_X11_isFull (d := d - 1) (th := th) (cnt := cnt) (rf := 0) (dr := dr) (sk := sk) (sh := sh) (se := se) (pa := pa) (fl := fl) (sa := sa) (x := x) (by omega) h_2 ) rfl (by omega) (Nat.le_of_ble_eq_true rfl) (by omega) (by omega) rfl (fun r9 hp_4 nn_5 hq_6 => ?_)
  obtain ⟨rfl, hq_6n, ho_7⟩ := hq_6
  subst nn_5
  change Rn _ _ _ 9 _ [.int ((bI (decide (¬ cnt < 120))))] _ _ _ _ _
  refine r_if_eq (pc := 9) (tgt := 21) dX11_graph_9 (by decide) (fun c9 => absurd c9 (by rw [bI_t (decide_eq_true hi)]; decide)) (fun _ => ?_)
  refine r_aload_n (pc := 12) dX11_graph_12 (i := 0) rfl rfl ?_
  refine r_bipush (pc := 13) (v := (-4)) dX11_graph_13 (by decide) ?_
  have h_11 : hp_4 x = some (.inr (10, [.ref th, .int cnt, .int 0, .ref dr, .ref sk, .ref sh, .ref se, .ref pa, .ref fl, .ref sa])) := (ho_7 x _ h_2)
  refine r_callV (pc := 15) (as := [.int ((-4))]) (st := []) kX11_82 rfl dX11_graph_15 h_11 (c_X11_refuse (d := d - 1) (th := th) (cnt := cnt) (rf := 0) (dr := dr) (sk := sk) (sh := sh) (se := se) (pa := pa) (fl := fl) (sa := sa) (x := x) (p1 := (-4)) (by omega) h_11 ) rfl (by omega) (Nat.le_of_ble_eq_true rfl) (by omega) (by omega) rfl (fun r9 hp_8 nn_9 hq_10 => ?_)
  obtain ⟨rfl, hq_10n, h_12, ho_13⟩ := hq_10
  subst nn_9
  change Rn _ _ _ 18 _ [.int ((-4))] _ _ _ _ _
  refine r_goto (pc := 18) (tgt := 36) dX11_graph_18 (by decide) ?_
  exact r_iret (pc := 36) dX11_graph_36 rfl (⟨rfl, rfl, h_12, fun q e9 h9 n9_0 => (ho_13 q e9 (ho_7 q e9 ((ho_3 q n9_0).trans h9) ) n9_0)⟩)
