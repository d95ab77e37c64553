set_option maxHeartbeats 4000000 in
set_option maxRecDepth 100000 in
theorem c_X11_view_n {D : va_G} {cI cJ cZ cT : ClassId} {lo b L : Nat} {xs : Nat → Int32} {hp : MH} {n d : Nat} {x th dr sk sh se pa fl sa : Nat} {cnt rf : Int32} {p1 : Int32} {p2 : Int32} {p3 : Int32} (hd0 : 3 ≤ d) (gc0 : hp x = some (.inr (10, [.ref th, .int cnt, .int rf, .ref dr, .ref sk, .ref sh, .ref se, .ref pa, .ref fl, .ref sa]))) (hno : p1 < 0 ∨ cnt ≤ p1) : Mt (gG D cI cJ cZ cT lo b L xs) mX11_view d 0 0 [.ref x, .int p1, .int p2, .int p3] hp n (fun r hp1 n1 => r = some (.int ((-1))) ∧ n1 = n ∧ hp1 x = some (.inr (10, [.ref th, .int cnt, .int ((-1)), .ref dr, .ref sk, .ref sh, .ref se, .ref pa, .ref fl, .ref sa])) ∧ ∀ (q : Nat) (e9 : va_E), hp q = some e9 → q ≠ x → hp1 q = some e9) := by
  refine Mt.of rfl (Nat.le_of_ble_eq_true rfl) ?_
  refine Rn.pick (lv' := [(0, .ref x), (1, .int p1), (2, .int p2), (3, .int p3)]) [0, 1, 2, 3] rfl ?_
  refine r_aload_n (pc := 0) dX11_view_0 (i := 0) rfl rfl ?_
  refine r_iconst (pc := 1) (v := 0) dX11_view_1 (by decide) ?_
  refine w_put (pc := 2) (ty := .int) (fs' := [.ref th, .int cnt, .int 0, .ref dr, .ref sk, .ref sh, .ref se, .ref pa, .ref fl, .ref sa]) fX11_19 tyX11 tyX11_ok nmX11 (by decide +kernel) (Or.inl rfl) dX11_view_2 gc0 (Nat.le_of_ble_eq_true rfl) (rfl) (rfl) rfl (fun hp_1 h_2 ho_3 => ?_)
  refine r_aload_n (pc := 5) dX11_view_5 (i := 0) rfl rfl ?_
  refine r_iload_n (pc := 6) dX11_view_6 (i := 1) rfl rfl ?_
  refine r_callV (pc := 7) (as := [.int p1]) (st := []) kX11_106 rfl dX11_view_7 h_2 (c_X11_graphAt_n (d := d - 1) (th := th) (cnt := cnt) (rf := 0) (dr := dr) (sk := sk) (sh := sh) (se := se) (pa := pa) (fl := fl) (sa := sa) (x := x) (p1 := p1) (by omega) h_2 (hno)) rfl (by omega) (Nat.le_of_ble_eq_true rfl) (by omega) (by omega) rfl (fun r9 hp_4 nn_5 hq_6 => ?_)
  obtain ⟨rfl, hq_6n, ho_7⟩ := hq_6
  subst nn_5
  change Rn _ _ _ 10 _ [.null] _ _ _ _ _
  refine r_astoreN (pc := 10) (lv' := [(4, .null), (0, .ref x), (1, .int p1), (2, .int p2), (3, .int p3)]) dX11_view_10 (by decide) rfl ?_
  refine r_aloadN (pc := 12) dX11_view_12 rfl ?_
  refine r_ifnonnullN (pc := 14) dX11_view_14 ?_
  refine r_aload_n (pc := 17) dX11_view_17 (i := 0) rfl rfl ?_
  refine r_aload_n (pc := 18) dX11_view_18 (i := 0) rfl rfl ?_
  refine r_iload_n (pc := 19) dX11_view_19 (i := 1) rfl rfl ?_
  have h_11 : hp_4 x = some (.inr (10, [.ref th, .int cnt, .int 0, .ref dr, .ref sk, .ref sh, .ref se, .ref pa, .ref fl, .ref sa])) := (ho_7 x _ h_2)
  refine r_callV (pc := 20) (as := [.int p1]) (st := [.ref x]) kX11_110 rfl dX11_view_20 h_11 (c_X11_whyNot_n (d := d - 1) (th := th) (cnt := cnt) (rf := 0) (dr := dr) (sk := sk) (sh := sh) (se := se) (pa := pa) (fl := fl) (sa := sa) (x := x) (p1 := p1) (by omega) h_11 (hno)) rfl (by omega) (Nat.le_of_ble_eq_true rfl) (by omega) (by omega) rfl (fun r9 hp_8 nn_9 hq_10 => ?_)
  obtain ⟨rfl, hq_10n, ho_12⟩ := hq_10
  subst nn_9
  change Rn _ _ _ 23 _ [.int ((-1)), .ref x] _ _ _ _ _
  have h_16 : hp_8 x = some (.inr (10, [.ref th, .int cnt, .int 0, .ref dr, .ref sk, .ref sh, .ref se, .ref pa, .ref fl, .ref sa])) := (ho_12 x _ h_11)
  refine r_callV (pc := 23) (as := [.int ((-1))]) (st := []) kX11_82 rfl dX11_view_23 h_16 (c_X11_refuse (d := d - 1) (th := th) (cnt := cnt) (rf := 0) (dr := dr) (sk := sk) (sh := sh) (se := se) (pa := pa) (fl := fl) (sa := sa) (x := x) (p1 := (-1)) (by omega) h_16 ) rfl (by omega) (Nat.le_of_ble_eq_true rfl) (by omega) (by omega) rfl (fun r9 hp_13 nn_14 hq_15 => ?_)
  obtain ⟨rfl, hq_15n, h_17, ho_18⟩ := hq_15
  subst nn_14
  change Rn _ _ _ 26 _ [.int ((-1))] _ _ _ _ _
  exact r_iret (pc := 26) dX11_view_26 rfl (⟨rfl, rfl, h_17, fun q e9 h9 n9_0 => (ho_18 q e9 (ho_12 q e9 (ho_7 q e9 ((ho_3 q n9_0).trans h9) ) ) n9_0)⟩)
set_option maxHeartbeats 4000000 in
set_option maxRecDepth 100000 in
theorem c_X11_append_n {D : va_G} {cI cJ cZ cT : ClassId} {lo b L : Nat} {xs : Nat → Int32} {hp : MH} {n d : Nat} {x th dr sk sh se pa fl sa : Nat} {cnt rf : Int32} {p1 : Int32} {p2 : Int32} (hd0 : 3 ≤ d) (gc0 : hp x = some (.inr (10, [.ref th, .int cnt, .int rf, .ref dr, .ref sk, .ref sh, .ref se, .ref pa, .ref fl, .ref sa]))) (hno : p1 < 0 ∨ cnt ≤ p1) (hno2 : p2 < 0 ∨ cnt ≤ p2) : Mt (gG D cI cJ cZ cT lo b L xs) mX11_append d 0 0 [.ref x, .int p1, .int p2] hp n (fun r hp1 n1 => r = some (.int ((-1))) ∧ n1 = n ∧ hp1 x = some (.inr (10, [.ref th, .int cnt, .int ((-1)), .ref dr, .ref sk, .ref sh, .ref se, .ref pa, .ref fl, .ref sa])) ∧ ∀ (q : Nat) (e9 : va_E), hp q = some e9 → q ≠ x → hp1 q = some e9) := by
  refine Mt.of rfl (Nat.le_of_ble_eq_true rfl) ?_
  refine Rn.pick (lv' := [(0, .ref x), (1, .int p1), (2, .int p2)]) [0, 1, 2] rfl ?_
  refine r_aload_n (pc := 0) dX11_append_0 (i := 0) rfl rfl ?_
  refine r_iload_n (pc := 1) dX11_append_1 (i := 1) rfl rfl ?_
  refine r_callV (pc := 2) (as := [.int p1]) (st := []) kX11_106 rfl dX11_append_2 gc0 (c_X11_graphAt_n (d := d - 1) (th := th) (cnt := cnt) (rf := rf) (dr := dr) (sk := sk) (sh := sh) (se := se) (pa := pa) (fl := fl) (sa := sa) (x := x) (p1 := p1) (by omega) gc0 (hno)) rfl (by omega) (Nat.le_of_ble_eq_true rfl) (by omega) (by omega) rfl (fun r9 hp_1 nn_2 hq_3 => ?_)
  obtain ⟨rfl, hq_3n, ho_4⟩ := hq_3
  subst nn_2
  change Rn _ _ _ 5 _ [.null] _ _ _ _ _
  refine r_astore_nN (pc := 5) (lv' := [(3, .null), (0, .ref x), (1, .int p1), (2, .int p2)]) dX11_append_5 (i := 3) rfl (by decide) rfl ?_
  refine r_aload_n (pc := 6) dX11_append_6 (i := 0) rfl rfl ?_
  refine r_iload_n (pc := 7) dX11_append_7 (i := 2) rfl rfl ?_
  have h_8 : hp_1 x = some (.inr (10, [.ref th, .int cnt, .int rf, .ref dr, .ref sk, .ref sh, .ref se, .ref pa, .ref fl, .ref sa])) := (ho_4 x _ gc0)
  refine r_callV (pc := 8) (as := [.int p2]) (st := []) kX11_106 rfl dX11_append_8 h_8 (c_X11_graphAt_n (d := d - 1) (th := th) (cnt := cnt) (rf := rf) (dr := dr) (sk := sk) (sh := sh) (se := se) (pa := pa) (fl := fl) (sa := sa) (x := x) (p1 := p2) (by omega) h_8 (hno2)) rfl (by omega) (Nat.le_of_ble_eq_true rfl) (by omega) (by omega) rfl (fun r9 hp_5 nn_6 hq_7 => ?_)
  obtain ⟨rfl, hq_7n, ho_9⟩ := hq_7
  subst nn_6
  change Rn _ _ _ 11 _ [.null] _ _ _ _ _
  refine r_astoreN (pc := 11) (lv' := [(4, .null), (3, .null), (0, .ref x), (1, .int p1), (2, .int p2)]) dX11_append_11 (by decide) rfl ?_
  refine r_aload_nN (pc := 13) dX11_append_13 (i := 3) rfl rfl ?_
  refine r_ifnullN (pc := 14) (tgt := 22) dX11_append_14 (by decide) ?_
  refine r_aload_n (pc := 22) dX11_append_22 (i := 0) rfl rfl ?_
  refine r_aload_n (pc := 23) dX11_append_23 (i := 0) rfl rfl ?_
  refine r_iload_n (pc := 24) dX11_append_24 (i := 1) rfl rfl ?_
  refine r_iload_n (pc := 25) dX11_append_25 (i := 2) rfl rfl ?_
  have h_13 : hp_5 x = some (.inr (10, [.ref th, .int cnt, .int rf, .ref dr, .ref sk, .ref sh, .ref se, .ref pa, .ref fl, .ref sa])) := (ho_9 x _ h_8)
  refine r_callV (pc := 26) (as := [.int p1, .int p2]) (st := [.ref x]) kX11_127 rfl dX11_append_26 h_13 (c_X11_whyNotBoth_n (d := d - 1) (th := th) (cnt := cnt) (rf := rf) (dr := dr) (sk := sk) (sh := sh) (se := se) (pa := pa) (fl := fl) (sa := sa) (x := x) (p1 := p1) (p2 := p2) (by omega) h_13 (hno)) rfl (by omega) (Nat.le_of_ble_eq_true rfl) (by omega) (by omega) rfl (fun r9 hp_10 nn_11 hq_12 => ?_)
  obtain ⟨rfl, hq_12n, ho_14⟩ := hq_12
  subst nn_11
  change Rn _ _ _ 29 _ [.int ((-1)), .ref x] _ _ _ _ _
  have h_18 : hp_10 x = some (.inr (10, [.ref th, .int cnt, .int rf, .ref dr, .ref sk, .ref sh, .ref se, .ref pa, .ref fl, .ref sa])) := (ho_14 x _ h_13)
  refine r_callV (pc := 29) (as := [.int ((-1))]) (st := []) kX11_82 rfl dX11_append_29 h_18 (c_X11_refuse (d := d - 1) (th := th) (cnt := cnt) (rf := rf) (dr := dr) (sk := sk) (sh := sh) (se := se) (pa := pa) (fl := fl) (sa := sa) (x := x) (p1 := (-1)) (by omega) h_18 ) rfl (by omega) (Nat.le_of_ble_eq_true rfl) (by omega) (by omega) rfl (fun r9 hp_15 nn_16 hq_17 => ?_)
  obtain ⟨rfl, hq_17n, h_19, ho_20⟩ := hq_17
  subst nn_16
  change Rn _ _ _ 32 _ [.int ((-1))] _ _ _ _ _
  exact r_iret (pc := 32) dX11_append_32 rfl (⟨rfl, rfl, h_19, fun q e9 h9 n9_0 => (ho_20 q e9 (ho_14 q e9 (ho_9 q e9 (ho_4 q e9 h9 ) ) ) n9_0)⟩)
set_option maxHeartbeats 4000000 in
set_option maxRecDepth 100000 in
theorem c_X11_melt_n {D : va_G} {cI cJ cZ cT : ClassId} {lo b L : Nat} {xs : Nat → Int32} {hp : MH} {n d : Nat} {x th dr sk sh se pa fl sa : Nat} {cnt rf : Int32} {p1 : Int32} {p2 : Int32} (hd0 : 3 ≤ d) (gc0 : hp x = some (.inr (10, [.ref th, .int cnt, .int rf, .ref dr, .ref sk, .ref sh, .ref se, .ref pa, .ref fl, .ref sa]))) (hno : p1 < 0 ∨ cnt ≤ p1) (hno2 : p2 < 0 ∨ cnt ≤ p2) : Mt (gG D cI cJ cZ cT lo b L xs) mX11_melt d 0 0 [.ref x, .int p1, .int p2] hp n (fun r hp1 n1 => r = some (.int ((-1))) ∧ n1 = n ∧ hp1 x = some (.inr (10, [.ref th, .int cnt, .int ((-1)), .ref dr, .ref sk, .ref sh, .ref se, .ref pa, .ref fl, .ref sa])) ∧ ∀ (q : Nat) (e9 : va_E), hp q = some e9 → q ≠ x → hp1 q = some e9) := by
  refine Mt.of rfl (Nat.le_of_ble_eq_true rfl) ?_
  refine Rn.pick (lv' := [(0, .ref x), (1, .int p1), (2, .int p2)]) [0, 1, 2] rfl ?_
  refine r_aload_n (pc := 0) dX11_melt_0 (i := 0) rfl rfl ?_
  refine r_iload_n (pc := 1) dX11_melt_1 (i := 1) rfl rfl ?_
  refine r_callV (pc := 2) (as := [.int p1]) (st := []) kX11_106 rfl dX11_melt_2 gc0 (c_X11_graphAt_n (d := d - 1) (th := th) (cnt := cnt) (rf := rf) (dr := dr) (sk := sk) (sh := sh) (se := se) (pa := pa) (fl := fl) (sa := sa) (x := x) (p1 := p1) (by omega) gc0 (hno)) rfl (by omega) (Nat.le_of_ble_eq_true rfl) (by omega) (by omega) rfl (fun r9 hp_1 nn_2 hq_3 => ?_)
  obtain ⟨rfl, hq_3n, ho_4⟩ := hq_3
  subst nn_2
  change Rn _ _ _ 5 _ [.null] _ _ _ _ _
  refine r_astore_nN (pc := 5) (lv' := [(3, .null), (0, .ref x), (1, .int p1), (2, .int p2)]) dX11_melt_5 (i := 3) rfl (by decide) rfl ?_
  refine r_aload_n (pc := 6) dX11_melt_6 (i := 0) rfl rfl ?_
  refine r_iload_n (pc := 7) dX11_melt_7 (i := 2) rfl rfl ?_
  have h_8 : hp_1 x = some (.inr (10, [.ref th, .int cnt, .int rf, .ref dr, .ref sk, .ref sh, .ref se, .ref pa, .ref fl, .ref sa])) := (ho_4 x _ gc0)
  refine r_callV (pc := 8) (as := [.int p2]) (st := []) kX11_140 rfl dX11_melt_8 h_8 (c_X11_partsAt_n (d := d - 1) (th := th) (cnt := cnt) (rf := rf) (dr := dr) (sk := sk) (sh := sh) (se := se) (pa := pa) (fl := fl) (sa := sa) (x := x) (p1 := p2) (by omega) h_8 (hno2)) rfl (by omega) (Nat.le_of_ble_eq_true rfl) (by omega) (by omega) rfl (fun r9 hp_5 nn_6 hq_7 => ?_)
  obtain ⟨rfl, hq_7n, ho_9⟩ := hq_7
  subst nn_6
  change Rn _ _ _ 11 _ [.null] _ _ _ _ _
  refine r_astoreN (pc := 11) (lv' := [(4, .null), (3, .null), (0, .ref x), (1, .int p1), (2, .int p2)]) dX11_melt_11 (by decide) rfl ?_
  refine r_aload_nN (pc := 13) dX11_melt_13 (i := 3) rfl rfl ?_
  refine r_ifnullN (pc := 14) (tgt := 22) dX11_melt_14 (by decide) ?_
  refine r_aload_n (pc := 22) dX11_melt_22 (i := 0) rfl rfl ?_
  refine r_aload_n (pc := 23) dX11_melt_23 (i := 0) rfl rfl ?_
  refine r_iload_n (pc := 24) dX11_melt_24 (i := 1) rfl rfl ?_
  refine r_iload_n (pc := 25) dX11_melt_25 (i := 2) rfl rfl ?_
  have h_13 : hp_5 x = some (.inr (10, [.ref th, .int cnt, .int rf, .ref dr, .ref sk, .ref sh, .ref se, .ref pa, .ref fl, .ref sa])) := (ho_9 x _ h_8)
  refine r_callV (pc := 26) (as := [.int p1, .int p2]) (st := [.ref x]) kX11_127 rfl dX11_melt_26 h_13 (c_X11_whyNotBoth_n (d := d - 1) (th := th) (cnt := cnt) (rf := rf) (dr := dr) (sk := sk) (sh := sh) (se := se) (pa := pa) (fl := fl) (sa := sa) (x := x) (p1 := p1) (p2 := p2) (by omega) h_13 (hno)) rfl (by omega) (Nat.le_of_ble_eq_true rfl) (by omega) (by omega) rfl (fun r9 hp_10 nn_11 hq_12 => ?_)
  obtain ⟨rfl, hq_12n, ho_14⟩ := hq_12
  subst nn_11
  change Rn _ _ _ 29 _ [.int ((-1)), .ref x] _ _ _ _ _
  have h_18 : hp_10 x = some (.inr (10, [.ref th, .int cnt, .int rf, .ref dr, .ref sk, .ref sh, .ref se, .ref pa, .ref fl, .ref sa])) := (ho_14 x _ h_13)
  refine r_callV (pc := 29) (as := [.int ((-1))]) (st := []) kX11_82 rfl dX11_melt_29 h_18 (c_X11_refuse (d := d - 1) (th := th) (cnt := cnt) (rf := rf) (dr := dr) (sk := sk) (sh := sh) (se := se) (pa := pa) (fl := fl) (sa := sa) (x := x) (p1 := (-1)) (by omega) h_18 ) rfl (by omega) (Nat.le_of_ble_eq_true rfl) (by omega) (by omega) rfl (fun r9 hp_15 nn_16 hq_17 => ?_)
  obtain ⟨rfl, hq_17n, h_19, ho_20⟩ := hq_17
  subst nn_16
  change Rn _ _ _ 32 _ [.int ((-1))] _ _ _ _ _
  exact r_iret (pc := 32) dX11_melt_32 rfl (⟨rfl, rfl, h_19, fun q e9 h9 n9_0 => (ho_20 q e9 (ho_14 q e9 (ho_9 q e9 (ho_4 q e9 h9 ) ) ) n9_0)⟩)
set_option maxHeartbeats 4000000 in
set_option maxRecDepth 100000 in
theorem c_X11_join_n {D : va_G} {cI cJ cZ cT : ClassId} {lo b L : Nat} {xs : Nat → Int32} {hp : MH} {n d : Nat} {x th dr sk sh se pa fl sa : Nat} {cnt rf : Int32} {p1 : Int32} {p2 : Int32} {q3 : Bool} (hd0 : 4 ≤ d) (gc0 : hp x = some (.inr (10, [.ref th, .int cnt, .int rf, .ref dr, .ref sk, .ref sh, .ref se, .ref pa, .ref fl, .ref sa]))) (hno : p1 < 0 ∨ cnt ≤ p1) (hno2 : p2 < 0 ∨ cnt ≤ p2) : Mt (gG D cI cJ cZ cT lo b L xs) mX11_join d 0 0 [.ref x, .int p1, .int p2, .int ((bI q3))] hp n (fun r hp1 n1 => r = some (.int ((-1))) ∧ n1 = n ∧ hp1 x = some (.inr (10, [.ref th, .int cnt, .int ((-1)), .ref dr, .ref sk, .ref sh, .ref se, .ref pa, .ref fl, .ref sa])) ∧ ∀ (q : Nat) (e9 : va_E), hp q = some e9 → q ≠ x → hp1 q = some e9) := by
  refine Mt.of rfl (Nat.le_of_ble_eq_true rfl) ?_
  refine Rn.pick (lv' := [(0, .ref x), (1, .int p1), (2, .int p2), (3, .int ((bI q3)))]) [0, 1, 2, 3] rfl ?_
  refine r_aload_n (pc := 0) dX11_join_0 (i := 0) rfl rfl ?_
  refine r_iconst (pc := 1) (v := 0) dX11_join_1 (by decide) ?_
  refine w_put (pc := 2) (ty := .int) (fs' := [.ref th, .int cnt, .int 0, .ref dr, .ref sk, .ref sh, .ref se, .ref pa, .ref fl, .ref sa]) fX11_19 tyX11 tyX11_ok nmX11 (by decide +kernel) (Or.inl rfl) dX11_join_2 gc0 (Nat.le_of_ble_eq_true rfl) (rfl) (rfl) rfl (fun hp_1 h_2 ho_3 => ?_)
  refine r_iload_n (pc := 5) dX11_join_5 (i := 3) rfl rfl ?_
  refine r_if_eq (pc := 6) (tgt := 18) dX11_join_6 (by decide) (fun c6 => ?_) (fun c6 => ?_)
  · refine r_aload_n (pc := 18) dX11_join_18 (i := 0) rfl rfl ?_
    refine r_iload_n (pc := 19) dX11_join_19 (i := 1) rfl rfl ?_
    refine r_iload_n (pc := 20) dX11_join_20 (i := 2) rfl rfl ?_
    refine r_callV (pc := 21) (as := [.int p1, .int p2]) (st := []) kX11_124 rfl dX11_join_21 h_2 (c_X11_append_n (d := d - 1) (th := th) (cnt := cnt) (rf := 0) (dr := dr) (sk := sk) (sh := sh) (se := se) (pa := pa) (fl := fl) (sa := sa) (x := x) (p1 := p1) (p2 := p2) (by omega) h_2 (hno) (hno2)) rfl (by omega) (Nat.le_of_ble_eq_true rfl) (by omega) (by omega) rfl (fun r9 hp_4 nn_5 hq_6 => ?_)
    obtain ⟨rfl, hq_6n, h_7, ho_8⟩ := hq_6
    subst nn_5
    change Rn _ _ _ 24 _ [.int ((-1))] _ _ _ _ _
    exact r_iret (pc := 24) dX11_join_24 rfl (⟨rfl, rfl, h_7, fun q e9 h9 n9_0 => (ho_8 q e9 ((ho_3 q n9_0).trans h9) n9_0)⟩)
  · refine r_aload_n (pc := 9) dX11_join_9 (i := 0) rfl rfl ?_
    refine r_iload_n (pc := 10) dX11_join_10 (i := 1) rfl rfl ?_
    refine r_iload_n (pc := 11) dX11_join_11 (i := 2) rfl rfl ?_
    refine r_callV (pc := 12) (as := [.int p1, .int p2]) (st := []) kX11_120 rfl dX11_join_12 h_2 (c_X11_melt_n (d := d - 1) (th := th) (cnt := cnt) (rf := 0) (dr := dr) (sk := sk) (sh := sh) (se := se) (pa := pa) (fl := fl) (sa := sa) (x := x) (p1 := p1) (p2 := p2) (by omega) h_2 (hno) (hno2)) rfl (by omega) (Nat.le_of_ble_eq_true rfl) (by omega) (by omega) rfl (fun r9 hp_9 nn_10 hq_11 => ?_)
    obtain ⟨rfl, hq_11n, h_12, ho_13⟩ := hq_11
    subst nn_10
    change Rn _ _ _ 15 _ [.int ((-1))] _ _ _ _ _
    refine r_goto (pc := 15) (tgt := 24) dX11_join_15 (by decide) ?_
    exact r_iret (pc := 24) dX11_join_24 rfl (⟨rfl, rfl, h_12, fun q e9 h9 n9_0 => (ho_13 q e9 ((ho_3 q n9_0).trans h9) n9_0)⟩)
set_option maxHeartbeats 4000000 in
set_option maxRecDepth 100000 in
theorem c_X11_column_n {D : va_G} {cI cJ cZ cT : ClassId} {lo b L : Nat} {xs : Nat → Int32} {hp : MH} {n d : Nat} {x th dr sk sh se pa fl sa : Nat} {cnt rf : Int32} {p1 : Int32} {p2 : Int32} {p3 : Int32} (hd0 : 3 ≤ d) (gc0 : hp x = some (.inr (10, [.ref th, .int cnt, .int rf, .ref dr, .ref sk, .ref sh, .ref se, .ref pa, .ref fl, .ref sa]))) (hno : p1 < 0 ∨ cnt ≤ p1) : Mt (gG D cI cJ cZ cT lo b L xs) mX11_column d 0 0 [.ref x, .int p1, .int p2, .int p3] hp n (fun r hp1 n1 => r = some (.int ((-1))) ∧ n1 = n ∧ hp1 x = some (.inr (10, [.ref th, .int cnt, .int ((-1)), .ref dr, .ref sk, .ref sh, .ref se, .ref pa, .ref fl, .ref sa])) ∧ ∀ (q : Nat) (e9 : va_E), hp q = some e9 → q ≠ x → hp1 q = some e9) := by
  refine Mt.of rfl (Nat.le_of_ble_eq_true rfl) ?_
  refine Rn.pick (lv' := [(0, .ref x), (1, .int p1), (2, .int p2), (3, .int p3)]) [0, 1, 2, 3] rfl ?_
  refine r_aload_n (pc := 0) dX11_column_0 (i := 0) rfl rfl ?_
  refine r_iconst (pc := 1) (v := 0) dX11_column_1 (by decide) ?_
  refine w_put (pc := 2) (ty := .int) (fs' := [.ref th, .int cnt, .int 0, .ref dr, .ref sk, .ref sh, .ref se, .ref pa, .ref fl, .ref sa]) fX11_19 tyX11 tyX11_ok nmX11 (by decide +kernel) (Or.inl rfl) dX11_column_2 gc0 (Nat.le_of_ble_eq_true rfl) (rfl) (rfl) rfl (fun hp_1 h_2 ho_3 => ?_)
  refine r_aload_n (pc := 5) dX11_column_5 (i := 0) rfl rfl ?_
  refine r_iload_n (pc := 6) dX11_column_6 (i := 1) rfl rfl ?_
  refine r_callV (pc := 7) (as := [.int p1]) (st := []) kX11_106 rfl dX11_column_7 h_2 (c_X11_graphAt_n (d := d - 1) (th := th) (cnt := cnt) (rf := 0) (dr := dr) (sk := sk) (sh := sh) (se := se) (pa := pa) (fl := fl) (sa := sa) (x := x) (p1 := p1) (by omega) h_2 (hno)) rfl (by omega) (Nat.le_of_ble_eq_true rfl) (by omega) (by omega) rfl (fun r9 hp_4 nn_5 hq_6 => ?_)
  obtain ⟨rfl, hq_6n, ho_7⟩ := hq_6
  subst nn_5
  change Rn _ _ _ 10 _ [.null] _ _ _ _ _
  refine r_astoreN (pc := 10) (lv' := [(4, .null), (0, .ref x), (1, .int p1), (2, .int p2), (3, .int p3)]) dX11_column_10 (by decide) rfl ?_
  refine r_aloadN (pc := 12) dX11_column_12 rfl ?_
  refine r_ifnonnullN (pc := 14) dX11_column_14 ?_
  refine r_aload_n (pc := 17) dX11_column_17 (i := 0) rfl rfl ?_
  refine r_aload_n (pc := 18) dX11_column_18 (i := 0) rfl rfl ?_
  refine r_iload_n (pc := 19) dX11_column_19 (i := 1) rfl rfl ?_
  have h_11 : hp_4 x = some (.inr (10, [.ref th, .int cnt, .int 0, .ref dr, .ref sk, .ref sh, .ref se, .ref pa, .ref fl, .ref sa])) := (ho_7 x _ h_2)
  refine r_callV (pc := 20) (as := [.int p1]) (st := [.ref x]) kX11_110 rfl dX11_column_20 h_11 (c_X11_whyNot_n (d := d - 1) (th := th) (cnt := cnt) (rf := 0) (dr := dr) (sk := sk) (sh := sh) (se := se) (pa := pa) (fl := fl) (sa := sa) (x := x) (p1 := p1) (by omega) h_11 (hno)) rfl (by omega) (Nat.le_of_ble_eq_true rfl) (by omega) (by omega) rfl (fun r9 hp_8 nn_9 hq_10 => ?_)
  obtain ⟨rfl, hq_10n, ho_12⟩ := hq_10
  subst nn_9
  change Rn _ _ _ 23 _ [.int ((-1)), .ref x] _ _ _ _ _
  have h_16 : hp_8 x = some (.inr (10, [.ref th, .int cnt, .int 0, .ref dr, .ref sk, .ref sh, .ref se, .ref pa, .ref fl, .ref sa])) := (ho_12 x _ h_11)
  refine r_callV (pc := 23) (as := [.int ((-1))]) (st := []) kX11_82 rfl dX11_column_23 h_16 (c_X11_refuse (d := d - 1) (th := th) (cnt := cnt) (rf := 0) (dr := dr) (sk := sk) (sh := sh) (se := se) (pa := pa) (fl := fl) (sa := sa) (x := x) (p1 := (-1)) (by omega) h_16 ) rfl (by omega) (Nat.le_of_ble_eq_true rfl) (by omega) (by omega) rfl (fun r9 hp_13 nn_14 hq_15 => ?_)
  obtain ⟨rfl, hq_15n, h_17, ho_18⟩ := hq_15
  subst nn_14
  change Rn _ _ _ 26 _ [.int ((-1))] _ _ _ _ _
  exact r_iret (pc := 26) dX11_column_26 rfl (⟨rfl, rfl, h_17, fun q e9 h9 n9_0 => (ho_18 q e9 (ho_12 q e9 (ho_7 q e9 ((ho_3 q n9_0).trans h9) ) ) n9_0)⟩)
set_option maxHeartbeats 4000000 in
set_option maxRecDepth 100000 in
theorem c_X11_mix_n {D : va_G} {cI cJ cZ cT : ClassId} {lo b L : Nat} {xs : Nat → Int32} {hp : MH} {n d : Nat} {x th dr sk sh se pa fl sa : Nat} {cnt rf : Int32} {p1 : Int32} {p2 : Int32} {p3 : Int32} (hd0 : 3 ≤ d) (gc0 : hp x = some (.inr (10, [.ref th, .int cnt, .int rf, .ref dr, .ref sk, .ref sh, .ref se, .ref pa, .ref fl, .ref sa]))) (hno : p1 < 0 ∨ cnt ≤ p1) (hno2 : p2 < 0 ∨ cnt ≤ p2) : Mt (gG D cI cJ cZ cT lo b L xs) mX11_mix d 0 0 [.ref x, .int p1, .int p2, .int p3] hp n (fun r hp1 n1 => r = some (.int ((-1))) ∧ n1 = n ∧ hp1 x = some (.inr (10, [.ref th, .int cnt, .int ((-1)), .ref dr, .ref sk, .ref sh, .ref se, .ref pa, .ref fl, .ref sa])) ∧ ∀ (q : Nat) (e9 : va_E), hp q = some e9 → q ≠ x → hp1 q = some e9) := by
  refine Mt.of rfl (Nat.le_of_ble_eq_true rfl) ?_
  refine Rn.pick (lv' := [(0, .ref x), (1, .int p1), (2, .int p2), (3, .int p3)]) [0, 1, 2, 3] rfl ?_
  refine r_aload_n (pc := 0) dX11_mix_0 (i := 0) rfl rfl ?_
  refine r_iconst (pc := 1) (v := 0) dX11_mix_1 (by decide) ?_
  refine w_put (pc := 2) (ty := .int) (fs' := [.ref th, .int cnt, .int 0, .ref dr, .ref sk, .ref sh, .ref se, .ref pa, .ref fl, .ref sa]) fX11_19 tyX11 tyX11_ok nmX11 (by decide +kernel) (Or.inl rfl) dX11_mix_2 gc0 (Nat.le_of_ble_eq_true rfl) (rfl) (rfl) rfl (fun hp_1 h_2 ho_3 => ?_)
  refine r_aload_n (pc := 5) dX11_mix_5 (i := 0) rfl rfl ?_
  refine r_iload_n (pc := 6) dX11_mix_6 (i := 1) rfl rfl ?_
  refine r_callV (pc := 7) (as := [.int p1]) (st := []) kX11_170 rfl dX11_mix_7 h_2 (c_X11_columnAt_n (d := d - 1) (th := th) (cnt := cnt) (rf := 0) (dr := dr) (sk := sk) (sh := sh) (se := se) (pa := pa) (fl := fl) (sa := sa) (x := x) (p1 := p1) (by omega) h_2 (hno)) rfl (by omega) (Nat.le_of_ble_eq_true rfl) (by omega) (by omega) rfl (fun r9 hp_4 nn_5 hq_6 => ?_)
  obtain ⟨rfl, hq_6n, ho_7⟩ := hq_6
  subst nn_5
  change Rn _ _ _ 10 _ [.null] _ _ _ _ _
  refine r_astoreN (pc := 10) (lv' := [(4, .null), (0, .ref x), (1, .int p1), (2, .int p2), (3, .int p3)]) dX11_mix_10 (by decide) rfl ?_
  refine r_aload_n (pc := 12) dX11_mix_12 (i := 0) rfl rfl ?_
  refine r_iload_n (pc := 13) dX11_mix_13 (i := 2) rfl rfl ?_
  have h_11 : hp_4 x = some (.inr (10, [.ref th, .int cnt, .int 0, .ref dr, .ref sk, .ref sh, .ref se, .ref pa, .ref fl, .ref sa])) := (ho_7 x _ h_2)
  refine r_callV (pc := 14) (as := [.int p2]) (st := []) kX11_170 rfl dX11_mix_14 h_11 (c_X11_columnAt_n (d := d - 1) (th := th) (cnt := cnt) (rf := 0) (dr := dr) (sk := sk) (sh := sh) (se := se) (pa := pa) (fl := fl) (sa := sa) (x := x) (p1 := p2) (by omega) h_11 (hno2)) rfl (by omega) (Nat.le_of_ble_eq_true rfl) (by omega) (by omega) rfl (fun r9 hp_8 nn_9 hq_10 => ?_)
  obtain ⟨rfl, hq_10n, ho_12⟩ := hq_10
  subst nn_9
  change Rn _ _ _ 17 _ [.null] _ _ _ _ _
  refine r_astoreN (pc := 17) (lv' := [(5, .null), (4, .null), (0, .ref x), (1, .int p1), (2, .int p2), (3, .int p3)]) dX11_mix_17 (by decide) rfl ?_
  refine r_aloadN (pc := 19) dX11_mix_19 rfl ?_
  refine r_ifnullN (pc := 21) (tgt := 29) dX11_mix_21 (by decide) ?_
  refine r_aload_n (pc := 29) dX11_mix_29 (i := 0) rfl rfl ?_
  refine r_aload_n (pc := 30) dX11_mix_30 (i := 0) rfl rfl ?_
  refine r_iload_n (pc := 31) dX11_mix_31 (i := 1) rfl rfl ?_
  refine r_iload_n (pc := 32) dX11_mix_32 (i := 2) rfl rfl ?_
  have h_16 : hp_8 x = some (.inr (10, [.ref th, .int cnt, .int 0, .ref dr, .ref sk, .ref sh, .ref se, .ref pa, .ref fl, .ref sa])) := (ho_12 x _ h_11)
  refine r_callV (pc := 33) (as := [.int p1, .int p2]) (st := [.ref x]) kX11_127 rfl dX11_mix_33 h_16 (c_X11_whyNotBoth_n (d := d - 1) (th := th) (cnt := cnt) (rf := 0) (dr := dr) (sk := sk) (sh := sh) (se := se) (pa := pa) (fl := fl) (sa := sa) (x := x) (p1 := p1) (p2 := p2) (by omega) h_16 (hno)) rfl (by omega) (Nat.le_of_ble_eq_true rfl) (by omega) (by omega) rfl (fun r9 hp_13 nn_14 hq_15 => ?_)
  obtain ⟨rfl, hq_15n, ho_17⟩ := hq_15
  subst nn_14
  change Rn _ _ _ 36 _ [.int ((-1)), .ref x] _ _ _ _ _
  have h_21 : hp_13 x = some (.inr (10, [.ref th, .int cnt, .int 0, .ref dr, .ref sk, .ref sh, .ref se, .ref pa, .ref fl, .ref sa])) := (ho_17 x _ h_16)
  refine r_callV (pc := 36) (as := [.int ((-1))]) (st := []) kX11_82 rfl dX11_mix_36 h_21 (c_X11_refuse (d := d - 1) (th := th) (cnt := cnt) (rf := 0) (dr := dr) (sk := sk) (sh := sh) (se := se) (pa := pa) (fl := fl) (sa := sa) (x := x) (p1 := (-1)) (by omega) h_21 ) rfl (by omega) (Nat.le_of_ble_eq_true rfl) (by omega) (by omega) rfl (fun r9 hp_18 nn_19 hq_20 => ?_)
  obtain ⟨rfl, hq_20n, h_22, ho_23⟩ := hq_20
  subst nn_19
  change Rn _ _ _ 39 _ [.int ((-1))] _ _ _ _ _
  exact r_iret (pc := 39) dX11_mix_39 rfl (⟨rfl, rfl, h_22, fun q e9 h9 n9_0 => (ho_23 q e9 (ho_17 q e9 (ho_12 q e9 (ho_7 q e9 ((ho_3 q n9_0).trans h9) ) ) ) n9_0)⟩)
set_option maxHeartbeats 4000000 in
set_option maxRecDepth 100000 in
theorem c_X11_run_n {D : va_G} {cI cJ cZ cT : ClassId} {lo b L : Nat} {xs : Nat → Int32} {hp : MH} {n d : Nat} {x th dr sk sh se pa fl sa : Nat} {cnt rf : Int32} {p1 : Int32} {p2 : Int32} {p3 : Int32} {p4 : Int32} {q5 : Bool} {p6 : Int32} (hd0 : 3 ≤ d) (gc0 : hp x = some (.inr (10, [.ref th, .int cnt, .int rf, .ref dr, .ref sk, .ref sh, .ref se, .ref pa, .ref fl, .ref sa]))) (hno : p1 < 0 ∨ cnt ≤ p1) (hno2 : p2 < 0 ∨ cnt ≤ p2) : Mt (gG D cI cJ cZ cT lo b L xs) mX11_run d 0 0 [.ref x, .int p1, .int p2, .int p3, .int p4, .int ((bI q5)), .int p6] hp n (fun r hp1 n1 => r = some (.int ((-1))) ∧ n1 = n ∧ hp1 x = some (.inr (10, [.ref th, .int cnt, .int ((-1)), .ref dr, .ref sk, .ref sh, .ref se, .ref pa, .ref fl, .ref sa])) ∧ ∀ (q : Nat) (e9 : va_E), hp q = some e9 → q ≠ x → hp1 q = some e9) := by
  refine Mt.of rfl (Nat.le_of_ble_eq_true rfl) ?_
  refine Rn.pick (lv' := [(0, .ref x), (1, .int p1), (2, .int p2), (3, .int p3), (4, .int p4), (5, .int ((bI q5))), (6, .int p6)]) [0, 1, 2, 3, 4, 5, 6] rfl ?_
  refine r_aload_n (pc := 0) dX11_run_0 (i := 0) rfl rfl ?_
  refine r_iconst (pc := 1) (v := 0) dX11_run_1 (by decide) ?_
  refine w_put (pc := 2) (ty := .int) (fs' := [.ref th, .int cnt, .int 0, .ref dr, .ref sk, .ref sh, .ref se, .ref pa, .ref fl, .ref sa]) fX11_19 tyX11 tyX11_ok nmX11 (by decide +kernel) (Or.inl rfl) dX11_run_2 gc0 (Nat.le_of_ble_eq_true rfl) (rfl) (rfl) rfl (fun hp_1 h_2 ho_3 => ?_)
  refine r_aload_n (pc := 5) dX11_run_5 (i := 0) rfl rfl ?_
  refine r_iload_n (pc := 6) dX11_run_6 (i := 1) rfl rfl ?_
  refine r_callV (pc := 7) (as := [.int p1]) (st := []) kX11_106 rfl dX11_run_7 h_2 (c_X11_graphAt_n (d := d - 1) (th := th) (cnt := cnt) (rf := 0) (dr := dr) (sk := sk) (sh := sh) (se := se) (pa := pa) (fl := fl) (sa := sa) (x := x) (p1 := p1) (by omega) h_2 (hno)) rfl (by omega) (Nat.le_of_ble_eq_true rfl) (by omega) (by omega) rfl (fun r9 hp_4 nn_5 hq_6 => ?_)
  obtain ⟨rfl, hq_6n, ho_7⟩ := hq_6
  subst nn_5
  change Rn _ _ _ 10 _ [.null] _ _ _ _ _
  refine r_astoreN (pc := 10) (lv' := [(7, .null), (0, .ref x), (1, .int p1), (2, .int p2), (3, .int p3), (4, .int p4), (5, .int ((bI q5))), (6, .int p6)]) dX11_run_10 (by decide) rfl ?_
  refine r_aload_n (pc := 12) dX11_run_12 (i := 0) rfl rfl ?_
  refine r_iload_n (pc := 13) dX11_run_13 (i := 2) rfl rfl ?_
  have h_11 : hp_4 x = some (.inr (10, [.ref th, .int cnt, .int 0, .ref dr, .ref sk, .ref sh, .ref se, .ref pa, .ref fl, .ref sa])) := (ho_7 x _ h_2)
  refine r_callV (pc := 14) (as := [.int p2]) (st := []) kX11_170 rfl dX11_run_14 h_11 (c_X11_columnAt_n (d := d - 1) (th := th) (cnt := cnt) (rf := 0) (dr := dr) (sk := sk) (sh := sh) (se := se) (pa := pa) (fl := fl) (sa := sa) (x := x) (p1 := p2) (by omega) h_11 (hno2)) rfl (by omega) (Nat.le_of_ble_eq_true rfl) (by omega) (by omega) rfl (fun r9 hp_8 nn_9 hq_10 => ?_)
  obtain ⟨rfl, hq_10n, ho_12⟩ := hq_10
  subst nn_9
  change Rn _ _ _ 17 _ [.null] _ _ _ _ _
  refine r_astoreN (pc := 17) (lv' := [(8, .null), (7, .null), (0, .ref x), (1, .int p1), (2, .int p2), (3, .int p3), (4, .int p4), (5, .int ((bI q5))), (6, .int p6)]) dX11_run_17 (by decide) rfl ?_
  refine r_aloadN (pc := 19) dX11_run_19 rfl ?_
  refine r_ifnullN (pc := 21) (tgt := 29) dX11_run_21 (by decide) ?_
  refine r_aload_n (pc := 29) dX11_run_29 (i := 0) rfl rfl ?_
  refine r_aload_n (pc := 30) dX11_run_30 (i := 0) rfl rfl ?_
  refine r_iload_n (pc := 31) dX11_run_31 (i := 1) rfl rfl ?_
  refine r_iload_n (pc := 32) dX11_run_32 (i := 2) rfl rfl ?_
  have h_16 : hp_8 x = some (.inr (10, [.ref th, .int cnt, .int 0, .ref dr, .ref sk, .ref sh, .ref se, .ref pa, .ref fl, .ref sa])) := (ho_12 x _ h_11)
  refine r_callV (pc := 33) (as := [.int p1, .int p2]) (st := [.ref x]) kX11_127 rfl dX11_run_33 h_16 (c_X11_whyNotBoth_n (d := d - 1) (th := th) (cnt := cnt) (rf := 0) (dr := dr) (sk := sk) (sh := sh) (se := se) (pa := pa) (fl := fl) (sa := sa) (x := x) (p1 := p1) (p2 := p2) (by omega) h_16 (hno)) rfl (by omega) (Nat.le_of_ble_eq_true rfl) (by omega) (by omega) rfl (fun r9 hp_13 nn_14 hq_15 => ?_)
  obtain ⟨rfl, hq_15n, ho_17⟩ := hq_15
  subst nn_14
  change Rn _ _ _ 36 _ [.int ((-1)), .ref x] _ _ _ _ _
  have h_21 : hp_13 x = some (.inr (10, [.ref th, .int cnt, .int 0, .ref dr, .ref sk, .ref sh, .ref se, .ref pa, .ref fl, .ref sa])) := (ho_17 x _ h_16)
  refine r_callV (pc := 36) (as := [.int ((-1))]) (st := []) kX11_82 rfl dX11_run_36 h_21 (c_X11_refuse (d := d - 1) (th := th) (cnt := cnt) (rf := 0) (dr := dr) (sk := sk) (sh := sh) (se := se) (pa := pa) (fl := fl) (sa := sa) (x := x) (p1 := (-1)) (by omega) h_21 ) rfl (by omega) (Nat.le_of_ble_eq_true rfl) (by omega) (by omega) rfl (fun r9 hp_18 nn_19 hq_20 => ?_)
  obtain ⟨rfl, hq_20n, h_22, ho_23⟩ := hq_20
  subst nn_19
  change Rn _ _ _ 39 _ [.int ((-1))] _ _ _ _ _
  exact r_iret (pc := 39) dX11_run_39 rfl (⟨rfl, rfl, h_22, fun q e9 h9 n9_0 => (ho_23 q e9 (ho_17 q e9 (ho_12 q e9 (ho_7 q e9 ((ho_3 q n9_0).trans h9) ) ) ) n9_0)⟩)
set_option maxHeartbeats 4000000 in
set_option maxRecDepth 100000 in
theorem c_X11_ways_n {D : va_G} {cI cJ cZ cT : ClassId} {lo b L : Nat} {xs : Nat → Int32} {hp : MH} {n d : Nat} {x th dr sk sh se pa fl sa : Nat} {cnt rf : Int32} {p1 : Int32} {p2 : Int32} {p3 : Int32} (hd0 : 3 ≤ d) (gc0 : hp x = some (.inr (10, [.ref th, .int cnt, .int rf, .ref dr, .ref sk, .ref sh, .ref se, .ref pa, .ref fl, .ref sa]))) (hno : p1 < 0 ∨ cnt ≤ p1) : Mt (gG D cI cJ cZ cT lo b L xs) mX11_ways d 0 0 [.ref x, .int p1, .int p2, .int p3] hp n (fun r hp1 n1 => r = some (.int ((-1))) ∧ n1 = n ∧ hp1 x = some (.inr (10, [.ref th, .int cnt, .int ((-1)), .ref dr, .ref sk, .ref sh, .ref se, .ref pa, .ref fl, .ref sa])) ∧ ∀ (q : Nat) (e9 : va_E), hp q = some e9 → q ≠ x → hp1 q = some e9) := by
  refine Mt.of rfl (Nat.le_of_ble_eq_true rfl) ?_
  refine Rn.pick (lv' := [(0, .ref x), (1, .int p1), (2, .int p2), (3, .int p3)]) [0, 1, 2, 3] rfl ?_
  refine r_aload_n (pc := 0) dX11_ways_0 (i := 0) rfl rfl ?_
  refine r_iconst (pc := 1) (v := 0) dX11_ways_1 (by decide) ?_
  refine w_put (pc := 2) (ty := .int) (fs' := [.ref th, .int cnt, .int 0, .ref dr, .ref sk, .ref sh, .ref se, .ref pa, .ref fl, .ref sa]) fX11_19 tyX11 tyX11_ok nmX11 (by decide +kernel) (Or.inl rfl) dX11_ways_2 gc0 (Nat.le_of_ble_eq_true rfl) (rfl) (rfl) rfl (fun hp_1 h_2 ho_3 => ?_)
  refine r_aload_n (pc := 5) dX11_ways_5 (i := 0) rfl rfl ?_
  refine r_iload_n (pc := 6) dX11_ways_6 (i := 1) rfl rfl ?_
  refine r_callV (pc := 7) (as := [.int p1]) (st := []) kX11_106 rfl dX11_ways_7 h_2 (c_X11_graphAt_n (d := d - 1) (th := th) (cnt := cnt) (rf := 0) (dr := dr) (sk := sk) (sh := sh) (se := se) (pa := pa) (fl := fl) (sa := sa) (x := x) (p1 := p1) (by omega) h_2 (hno)) rfl (by omega) (Nat.le_of_ble_eq_true rfl) (by omega) (by omega) rfl (fun r9 hp_4 nn_5 hq_6 => ?_)
  obtain ⟨rfl, hq_6n, ho_7⟩ := hq_6
  subst nn_5
  change Rn _ _ _ 10 _ [.null] _ _ _ _ _
  refine r_astoreN (pc := 10) (lv' := [(4, .null), (0, .ref x), (1, .int p1), (2, .int p2), (3, .int p3)]) dX11_ways_10 (by decide) rfl ?_
  refine r_aloadN (pc := 12) dX11_ways_12 rfl ?_
  refine r_ifnonnullN (pc := 14) dX11_ways_14 ?_
  refine r_aload_n (pc := 17) dX11_ways_17 (i := 0) rfl rfl ?_
  refine r_aload_n (pc := 18) dX11_ways_18 (i := 0) rfl rfl ?_
  refine r_iload_n (pc := 19) dX11_ways_19 (i := 1) rfl rfl ?_
  have h_11 : hp_4 x = some (.inr (10, [.ref th, .int cnt, .int 0, .ref dr, .ref sk, .ref sh, .ref se, .ref pa, .ref fl, .ref sa])) := (ho_7 x _ h_2)
  refine r_callV (pc := 20) (as := [.int p1]) (st := [.ref x]) kX11_110 rfl dX11_ways_20 h_11 (c_X11_whyNot_n (d := d - 1) (th := th) (cnt := cnt) (rf := 0) (dr := dr) (sk := sk) (sh := sh) (se := se) (pa := pa) (fl := fl) (sa := sa) (x := x) (p1 := p1) (by omega) h_11 (hno)) rfl (by omega) (Nat.le_of_ble_eq_true rfl) (by omega) (by omega) rfl (fun r9 hp_8 nn_9 hq_10 => ?_)
  obtain ⟨rfl, hq_10n, ho_12⟩ := hq_10
  subst nn_9
  change Rn _ _ _ 23 _ [.int ((-1)), .ref x] _ _ _ _ _
  have h_16 : hp_8 x = some (.inr (10, [.ref th, .int cnt, .int 0, .ref dr, .ref sk, .ref sh, .ref se, .ref pa, .ref fl, .ref sa])) := (ho_12 x _ h_11)
  refine r_callV (pc := 23) (as := [.int ((-1))]) (st := []) kX11_82 rfl dX11_ways_23 h_16 (c_X11_refuse (d := d - 1) (th := th) (cnt := cnt) (rf := 0) (dr := dr) (sk := sk) (sh := sh) (se := se) (pa := pa) (fl := fl) (sa := sa) (x := x) (p1 := (-1)) (by omega) h_16 ) rfl (by omega) (Nat.le_of_ble_eq_true rfl) (by omega) (by omega) rfl (fun r9 hp_13 nn_14 hq_15 => ?_)
  obtain ⟨rfl, hq_15n, h_17, ho_18⟩ := hq_15
  subst nn_14
  change Rn _ _ _ 26 _ [.int ((-1))] _ _ _ _ _
  exact r_iret (pc := 26) dX11_ways_26 rfl (⟨rfl, rfl, h_17, fun q e9 h9 n9_0 => (ho_18 q e9 (ho_12 q e9 (ho_7 q e9 ((ho_3 q n9_0).trans h9) ) ) n9_0)⟩)
set_option maxHeartbeats 4000000 in
set_option maxRecDepth 100000 in
theorem c_X11_partsByColumn_n {D : va_G} {cI cJ cZ cT : ClassId} {lo b L : Nat} {xs : Nat → Int32} {hp : MH} {n d : Nat} {x th dr sk sh se pa fl sa : Nat} {cnt rf : Int32} {p1 : Int32} {p2 : Int32} (hd0 : 3 ≤ d) (gc0 : hp x = some (.inr (10, [.ref th, .int cnt, .int rf, .ref dr, .ref sk, .ref sh, .ref se, .ref pa, .ref fl, .ref sa]))) (hno : p1 < 0 ∨ cnt ≤ p1) (hno2 : p2 < 0 ∨ cnt ≤ p2) : Mt (gG D cI cJ cZ cT lo b L xs) mX11_partsByColumn d 0 0 [.ref x, .int p1, .int p2] hp n (fun r hp1 n1 => r = some (.int ((-1))) ∧ n1 = n ∧ hp1 x = some (.inr (10, [.ref th, .int cnt, .int ((-1)), .ref dr, .ref sk, .ref sh, .ref se, .ref pa, .ref fl, .ref sa])) ∧ ∀ (q : Nat) (e9 : va_E), hp q = some e9 → q ≠ x → hp1 q = some e9) := by
  refine Mt.of rfl (Nat.le_of_ble_eq_true rfl) ?_
  refine Rn.pick (lv' := [(0, .ref x), (1, .int p1), (2, .int p2)]) [0, 1, 2] rfl ?_
  refine r_aload_n (pc := 0) dX11_partsByColumn_0 (i := 0) rfl rfl ?_
  refine r_iload_n (pc := 1) dX11_partsByColumn_1 (i := 1) rfl rfl ?_
  refine r_callV (pc := 2) (as := [.int p1]) (st := []) kX11_106 rfl dX11_partsByColumn_2 gc0 (c_X11_graphAt_n (d := d - 1) (th := th) (cnt := cnt) (rf := rf) (dr := dr) (sk := sk) (sh := sh) (se := se) (pa := pa) (fl := fl) (sa := sa) (x := x) (p1 := p1) (by omega) gc0 (hno)) rfl (by omega) (Nat.le_of_ble_eq_true rfl) (by omega) (by omega) rfl (fun r9 hp_1 nn_2 hq_3 => ?_)
  obtain ⟨rfl, hq_3n, ho_4⟩ := hq_3
  subst nn_2
  change Rn _ _ _ 5 _ [.null] _ _ _ _ _
  refine r_astore_nN (pc := 5) (lv' := [(3, .null), (0, .ref x), (1, .int p1), (2, .int p2)]) dX11_partsByColumn_5 (i := 3) rfl (by decide) rfl ?_
  refine r_aload_n (pc := 6) dX11_partsByColumn_6 (i := 0) rfl rfl ?_
  refine r_iload_n (pc := 7) dX11_partsByColumn_7 (i := 2) rfl rfl ?_
  have h_8 : hp_1 x = some (.inr (10, [.ref th, .int cnt, .int rf, .ref dr, .ref sk, .ref sh, .ref se, .ref pa, .ref fl, .ref sa])) := (ho_4 x _ gc0)
  refine r_callV (pc := 8) (as := [.int p2]) (st := []) kX11_170 rfl dX11_partsByColumn_8 h_8 (c_X11_columnAt_n (d := d - 1) (th := th) (cnt := cnt) (rf := rf) (dr := dr) (sk := sk) (sh := sh) (se := se) (pa := pa) (fl := fl) (sa := sa) (x := x) (p1 := p2) (by omega) h_8 (hno2)) rfl (by omega) (Nat.le_of_ble_eq_true rfl) (by omega) (by omega) rfl (fun r9 hp_5 nn_6 hq_7 => ?_)
  obtain ⟨rfl, hq_7n, ho_9⟩ := hq_7
  subst nn_6
  change Rn _ _ _ 11 _ [.null] _ _ _ _ _
  refine r_astoreN (pc := 11) (lv' := [(4, .null), (3, .null), (0, .ref x), (1, .int p1), (2, .int p2)]) dX11_partsByColumn_11 (by decide) rfl ?_
  refine r_aload_nN (pc := 13) dX11_partsByColumn_13 (i := 3) rfl rfl ?_
  refine r_ifnullN (pc := 14) (tgt := 22) dX11_partsByColumn_14 (by decide) ?_
  refine r_aload_n (pc := 22) dX11_partsByColumn_22 (i := 0) rfl rfl ?_
  refine r_aload_n (pc := 23) dX11_partsByColumn_23 (i := 0) rfl rfl ?_
  refine r_iload_n (pc := 24) dX11_partsByColumn_24 (i := 1) rfl rfl ?_
  refine r_iload_n (pc := 25) dX11_partsByColumn_25 (i := 2) rfl rfl ?_
  have h_13 : hp_5 x = some (.inr (10, [.ref th, .int cnt, .int rf, .ref dr, .ref sk, .ref sh, .ref se, .ref pa, .ref fl, .ref sa])) := (ho_9 x _ h_8)
  refine r_callV (pc := 26) (as := [.int p1, .int p2]) (st := [.ref x]) kX11_127 rfl dX11_partsByColumn_26 h_13 (c_X11_whyNotBoth_n (d := d - 1) (th := th) (cnt := cnt) (rf := rf) (dr := dr) (sk := sk) (sh := sh) (se := se) (pa := pa) (fl := fl) (sa := sa) (x := x) (p1 := p1) (p2 := p2) (by omega) h_13 (hno)) rfl (by omega) (Nat.le_of_ble_eq_true rfl) (by omega) (by omega) rfl (fun r9 hp_10 nn_11 hq_12 => ?_)
  obtain ⟨rfl, hq_12n, ho_14⟩ := hq_12
  subst nn_11
  change Rn _ _ _ 29 _ [.int ((-1)), .ref x] _ _ _ _ _
  have h_18 : hp_10 x = some (.inr (10, [.ref th, .int cnt, .int rf, .ref dr, .ref sk, .ref sh, .ref se, .ref pa, .ref fl, .ref sa])) := (ho_14 x _ h_13)
  refine r_callV (pc := 29) (as := [.int ((-1))]) (st := []) kX11_82 rfl dX11_partsByColumn_29 h_18 (c_X11_refuse (d := d - 1) (th := th) (cnt := cnt) (rf := rf) (dr := dr) (sk := sk) (sh := sh) (se := se) (pa := pa) (fl := fl) (sa := sa) (x := x) (p1 := (-1)) (by omega) h_18 ) rfl (by omega) (Nat.le_of_ble_eq_true rfl) (by omega) (by omega) rfl (fun r9 hp_15 nn_16 hq_17 => ?_)
  obtain ⟨rfl, hq_17n, h_19, ho_20⟩ := hq_17
  subst nn_16
  change Rn _ _ _ 32 _ [.int ((-1))] _ _ _ _ _
  exact r_iret (pc := 32) dX11_partsByColumn_32 rfl (⟨rfl, rfl, h_19, fun q e9 h9 n9_0 => (ho_20 q e9 (ho_14 q e9 (ho_9 q e9 (ho_4 q e9 h9 ) ) ) n9_0)⟩)
set_option maxHeartbeats 4000000 in
set_option maxRecDepth 100000 in
theorem c_X11_parts_n {D : va_G} {cI cJ cZ cT : ClassId} {lo b L : Nat} {xs : Nat → Int32} {hp : MH} {n d : Nat} {x th dr sk sh se pa fl sa : Nat} {cnt rf : Int32} {p1 : Int32} {p2 : Int32} {p3 : Int32} (hd0 : 4 ≤ d) (gc0 : hp x = some (.inr (10, [.ref th, .int cnt, .int rf, .ref dr, .ref sk, .ref sh, .ref se, .ref pa, .ref fl, .ref sa]))) (hno : p1 < 0 ∨ cnt ≤ p1) (hno2 : p3 < 0 ∨ cnt ≤ p3) : Mt (gG D cI cJ cZ cT lo b L xs) mX11_parts d 0 0 [.ref x, .int p1, .int p2, .int p3] hp n (fun r hp1 n1 => r = some (.int ((-1))) ∧ n1 = n ∧ hp1 x = some (.inr (10, [.ref th, .int cnt, .int ((-1)), .ref dr, .ref sk, .ref sh, .ref se, .ref pa, .ref fl, .ref sa])) ∧ ∀ (q : Nat) (e9 : va_E), hp q = some e9 → q ≠ x → hp1 q = some e9) := by
  refine Mt.of rfl (Nat.le_of_ble_eq_true rfl) ?_
  refine Rn.pick (lv' := [(0, .ref x), (1, .int p1), (2, .int p2), (3, .int p3)]) [0, 1, 2, 3] rfl ?_
  refine r_aload_n (pc := 0) dX11_parts_0 (i := 0) rfl rfl ?_
  refine r_iconst (pc := 1) (v := 0) dX11_parts_1 (by decide) ?_
  refine w_put (pc := 2) (ty := .int) (fs' := [.ref th, .int cnt, .int 0, .ref dr, .ref sk, .ref sh, .ref se, .ref pa, .ref fl, .ref sa]) fX11_19 tyX11 tyX11_ok nmX11 (by decide +kernel) (Or.inl rfl) dX11_parts_2 gc0 (Nat.le_of_ble_eq_true rfl) (rfl) (rfl) rfl (fun hp_1 h_2 ho_3 => ?_)
  refine r_iload_n (pc := 5) dX11_parts_5 (i := 2) rfl rfl ?_
  refine r_iconst (pc := 6) (v := 4) dX11_parts_6 (by decide) ?_
  refine r_icmp_ne (pc := 7) (tgt := 17) dX11_parts_7 (by decide) (fun c7 => ?_) (fun c7 => ?_)
  · refine r_aload_n (pc := 17) dX11_parts_17 (i := 0) rfl rfl ?_
    refine r_iload_n (pc := 18) dX11_parts_18 (i := 1) rfl rfl ?_
    refine r_callV (pc := 19) (as := [.int p1]) (st := []) kX11_106 rfl dX11_parts_19 h_2 (c_X11_graphAt_n (d := d - 1) (th := th) (cnt := cnt) (rf := 0) (dr := dr) (sk := sk) (sh := sh) (se := se) (pa := pa) (fl := fl) (sa := sa) (x := x) (p1 := p1) (by omega) h_2 (hno)) rfl (by omega) (Nat.le_of_ble_eq_true rfl) (by omega) (by omega) rfl (fun r9 hp_4 nn_5 hq_6 => ?_)
    obtain ⟨rfl, hq_6n, ho_7⟩ := hq_6
    subst nn_5
    change Rn _ _ _ 22 _ [.null] _ _ _ _ _
    refine r_astoreN (pc := 22) (lv' := [(4, .null), (0, .ref x), (1, .int p1), (2, .int p2), (3, .int p3)]) dX11_parts_22 (by decide) rfl ?_
    refine r_aloadN (pc := 24) dX11_parts_24 rfl ?_
    refine r_ifnonnullN (pc := 26) dX11_parts_26 ?_
    refine r_aload_n (pc := 29) dX11_parts_29 (i := 0) rfl rfl ?_
    refine r_aload_n (pc := 30) dX11_parts_30 (i := 0) rfl rfl ?_
    refine r_iload_n (pc := 31) dX11_parts_31 (i := 1) rfl rfl ?_
    have h_11 : hp_4 x = some (.inr (10, [.ref th, .int cnt, .int 0, .ref dr, .ref sk, .ref sh, .ref se, .ref pa, .ref fl, .ref sa])) := (ho_7 x _ h_2)
    refine r_callV (pc := 32) (as := [.int p1]) (st := [.ref x]) kX11_110 rfl dX11_parts_32 h_11 (c_X11_whyNot_n (d := d - 1) (th := th) (cnt := cnt) (rf := 0) (dr := dr) (sk := sk) (sh := sh) (se := se) (pa := pa) (fl := fl) (sa := sa) (x := x) (p1 := p1) (by omega) h_11 (hno)) rfl (by omega) (Nat.le_of_ble_eq_true rfl) (by omega) (by omega) rfl (fun r9 hp_8 nn_9 hq_10 => ?_)
    obtain ⟨rfl, hq_10n, ho_12⟩ := hq_10
    subst nn_9
    change Rn _ _ _ 35 _ [.int ((-1)), .ref x] _ _ _ _ _
    have h_16 : hp_8 x = some (.inr (10, [.ref th, .int cnt, .int 0, .ref dr, .ref sk, .ref sh, .ref se, .ref pa, .ref fl, .ref sa])) := (ho_12 x _ h_11)
    refine r_callV (pc := 35) (as := [.int ((-1))]) (st := []) kX11_82 rfl dX11_parts_35 h_16 (c_X11_refuse (d := d - 1) (th := th) (cnt := cnt) (rf := 0) (dr := dr) (sk := sk) (sh := sh) (se := se) (pa := pa) (fl := fl) (sa := sa) (x := x) (p1 := (-1)) (by omega) h_16 ) rfl (by omega) (Nat.le_of_ble_eq_true rfl) (by omega) (by omega) rfl (fun r9 hp_13 nn_14 hq_15 => ?_)
    obtain ⟨rfl, hq_15n, h_17, ho_18⟩ := hq_15
    subst nn_14
    change Rn _ _ _ 38 _ [.int ((-1))] _ _ _ _ _
    exact r_iret (pc := 38) dX11_parts_38 rfl (⟨rfl, rfl, h_17, fun q e9 h9 n9_0 => (ho_18 q e9 (ho_12 q e9 (ho_7 q e9 ((ho_3 q n9_0).trans h9) ) ) n9_0)⟩)
  · refine r_aload_n (pc := 10) dX11_parts_10 (i := 0) rfl rfl ?_
    refine r_iload_n (pc := 11) dX11_parts_11 (i := 1) rfl rfl ?_
    refine r_iload_n (pc := 12) dX11_parts_12 (i := 3) rfl rfl ?_
    refine r_callV (pc := 13) (as := [.int p1, .int p3]) (st := []) kX11_193 rfl dX11_parts_13 h_2 (c_X11_partsByColumn_n (d := d - 1) (th := th) (cnt := cnt) (rf := 0) (dr := dr) (sk := sk) (sh := sh) (se := se) (pa := pa) (fl := fl) (sa := sa) (x := x) (p1 := p1) (p2 := p3) (by omega) h_2 (hno) (hno2)) rfl (by omega) (Nat.le_of_ble_eq_true rfl) (by omega) (by omega) rfl (fun r9 hp_19 nn_20 hq_21 => ?_)
    obtain ⟨rfl, hq_21n, h_22, ho_23⟩ := hq_21
    subst nn_20
    change Rn _ _ _ 16 _ [.int ((-1))] _ _ _ _ _
    exact r_iret (pc := 16) dX11_parts_16 rfl (⟨rfl, rfl, h_22, fun q e9 h9 n9_0 => (ho_23 q e9 ((ho_3 q n9_0).trans h9) n9_0)⟩)
set_option maxHeartbeats 4000000 in
set_option maxRecDepth 100000 in
theorem c_X11_of_n {D : va_G} {cI cJ cZ cT : ClassId} {lo b L : Nat} {xs : Nat → Int32} {hp : MH} {n d : Nat} {x th dr sk sh se pa fl sa : Nat} {cnt rf : Int32} {p1 : Int32} {p2 : Int32} {p3 : Int32} (hd0 : 3 ≤ d) (gc0 : hp x = some (.inr (10, [.ref th, .int cnt, .int rf, .ref dr, .ref sk, .ref sh, .ref se, .ref pa, .ref fl, .ref sa]))) (hno : p1 < 0 ∨ cnt ≤ p1) : Mt (gG D cI cJ cZ cT lo b L xs) mX11_of d 0 0 [.ref x, .int p1, .int p2, .int p3] hp n (fun r hp1 n1 => r = some (.int 0) ∧ n1 = n ∧ hp1 x = some (.inr (10, [.ref th, .int cnt, .int ((-1)), .ref dr, .ref sk, .ref sh, .ref se, .ref pa, .ref fl, .ref sa])) ∧ ∀ (q : Nat) (e9 : va_E), hp q = some e9 → q ≠ x → hp1 q = some e9) := by
  refine Mt.of rfl (Nat.le_of_ble_eq_true rfl) ?_
  refine Rn.pick (lv' := [(0, .ref x), (1, .int p1), (2, .int p2), (3, .int p3)]) [0, 1, 2, 3] rfl ?_
  refine r_aload_n (pc := 0) dX11_of_0 (i := 0) rfl rfl ?_
  refine r_iconst (pc := 1) (v := 0) dX11_of_1 (by decide) ?_
  refine w_put (pc := 2) (ty := .int) (fs' := [.ref th, .int cnt, .int 0, .ref dr, .ref sk, .ref sh, .ref se, .ref pa, .ref fl, .ref sa]) fX11_19 tyX11 tyX11_ok nmX11 (by decide +kernel) (Or.inl rfl) dX11_of_2 gc0 (Nat.le_of_ble_eq_true rfl) (rfl) (rfl) rfl (fun hp_1 h_2 ho_3 => ?_)
  refine r_aload_n (pc := 5) dX11_of_5 (i := 0) rfl rfl ?_
  refine r_iload_n (pc := 6) dX11_of_6 (i := 1) rfl rfl ?_
  refine r_callV (pc := 7) (as := [.int p1]) (st := []) kX11_106 rfl dX11_of_7 h_2 (c_X11_graphAt_n (d := d - 1) (th := th) (cnt := cnt) (rf := 0) (dr := dr) (sk := sk) (sh := sh) (se := se) (pa := pa) (fl := fl) (sa := sa) (x := x) (p1 := p1) (by omega) h_2 (hno)) rfl (by omega) (Nat.le_of_ble_eq_true rfl) (by omega) (by omega) rfl (fun r9 hp_4 nn_5 hq_6 => ?_)
  obtain ⟨rfl, hq_6n, ho_7⟩ := hq_6
  subst nn_5
  change Rn _ _ _ 10 _ [.null] _ _ _ _ _
  refine r_astoreN (pc := 10) (lv' := [(4, .null), (0, .ref x), (1, .int p1), (2, .int p2), (3, .int p3)]) dX11_of_10 (by decide) rfl ?_
  refine r_aloadN (pc := 12) dX11_of_12 rfl ?_
  refine r_ifnonnullN (pc := 14) dX11_of_14 ?_
  refine r_aload_n (pc := 17) dX11_of_17 (i := 0) rfl rfl ?_
  refine r_aload_n (pc := 18) dX11_of_18 (i := 0) rfl rfl ?_
  refine r_iload_n (pc := 19) dX11_of_19 (i := 1) rfl rfl ?_
  have h_11 : hp_4 x = some (.inr (10, [.ref th, .int cnt, .int 0, .ref dr, .ref sk, .ref sh, .ref se, .ref pa, .ref fl, .ref sa])) := (ho_7 x _ h_2)
  refine r_callV (pc := 20) (as := [.int p1]) (st := [.ref x]) kX11_110 rfl dX11_of_20 h_11 (c_X11_whyNot_n (d := d - 1) (th := th) (cnt := cnt) (rf := 0) (dr := dr) (sk := sk) (sh := sh) (se := se) (pa := pa) (fl := fl) (sa := sa) (x := x) (p1 := p1) (by omega) h_11 (hno)) rfl (by omega) (Nat.le_of_ble_eq_true rfl) (by omega) (by omega) rfl (fun r9 hp_8 nn_9 hq_10 => ?_)
  obtain ⟨rfl, hq_10n, ho_12⟩ := hq_10
  subst nn_9
  change Rn _ _ _ 23 _ [.int ((-1)), .ref x] _ _ _ _ _
  have h_16 : hp_8 x = some (.inr (10, [.ref th, .int cnt, .int 0, .ref dr, .ref sk, .ref sh, .ref se, .ref pa, .ref fl, .ref sa])) := (ho_12 x _ h_11)
  refine r_callV (pc := 23) (as := [.int ((-1))]) (st := []) kX11_203 rfl dX11_of_23 h_16 (c_X11_deny (d := d - 1) (th := th) (cnt := cnt) (rf := 0) (dr := dr) (sk := sk) (sh := sh) (se := se) (pa := pa) (fl := fl) (sa := sa) (x := x) (p1 := (-1)) (by omega) h_16 ) rfl (by omega) (Nat.le_of_ble_eq_true rfl) (by omega) (by omega) rfl (fun r9 hp_13 nn_14 hq_15 => ?_)
  obtain ⟨rfl, hq_15n, h_17, ho_18⟩ := hq_15
  subst nn_14
  change Rn _ _ _ 26 _ [.int 0] _ _ _ _ _
  exact r_iret (pc := 26) dX11_of_26 rfl (⟨rfl, rfl, h_17, fun q e9 h9 n9_0 => (ho_18 q e9 (ho_12 q e9 (ho_7 q e9 ((ho_3 q n9_0).trans h9) ) ) n9_0)⟩)
set_option maxHeartbeats 4000000 in
set_option maxRecDepth 100000 in
theorem c_X11_at_n {D : va_G} {cI cJ cZ cT : ClassId} {lo b L : Nat} {xs : Nat → Int32} {hp : MH} {n d : Nat} {x th dr sk sh se pa fl sa : Nat} {cnt rf : Int32} {p1 : Int32} {p2 : Int32} (hd0 : 3 ≤ d) (gc0 : hp x = some (.inr (10, [.ref th, .int cnt, .int rf, .ref dr, .ref sk, .ref sh, .ref se, .ref pa, .ref fl, .ref sa]))) (hno : p1 < 0 ∨ cnt ≤ p1) : Mt (gG D cI cJ cZ cT lo b L xs) mX11_at d 0 0 [.ref x, .int p1, .int p2] hp n (fun r hp1 n1 => r = some (.long 0) ∧ n1 = n ∧ hp1 x = some (.inr (10, [.ref th, .int cnt, .int ((-1)), .ref dr, .ref sk, .ref sh, .ref se, .ref pa, .ref fl, .ref sa])) ∧ ∀ (q : Nat) (e9 : va_E), hp q = some e9 → q ≠ x → hp1 q = some e9) := by
  refine Mt.of rfl (Nat.le_of_ble_eq_true rfl) ?_
  refine Rn.pick (lv' := [(0, .ref x), (1, .int p1), (2, .int p2)]) [0, 1, 2] rfl ?_
  refine r_aload_n (pc := 0) dX11_at_0 (i := 0) rfl rfl ?_
  refine r_iconst (pc := 1) (v := 0) dX11_at_1 (by decide) ?_
  refine w_put (pc := 2) (ty := .int) (fs' := [.ref th, .int cnt, .int 0, .ref dr, .ref sk, .ref sh, .ref se, .ref pa, .ref fl, .ref sa]) fX11_19 tyX11 tyX11_ok nmX11 (by decide +kernel) (Or.inl rfl) dX11_at_2 gc0 (Nat.le_of_ble_eq_true rfl) (rfl) (rfl) rfl (fun hp_1 h_2 ho_3 => ?_)
  refine r_aload_n (pc := 5) dX11_at_5 (i := 0) rfl rfl ?_
  refine r_iload_n (pc := 6) dX11_at_6 (i := 1) rfl rfl ?_
  refine r_callV (pc := 7) (as := [.int p1]) (st := []) kX11_170 rfl dX11_at_7 h_2 (c_X11_columnAt_n (d := d - 1) (th := th) (cnt := cnt) (rf := 0) (dr := dr) (sk := sk) (sh := sh) (se := se) (pa := pa) (fl := fl) (sa := sa) (x := x) (p1 := p1) (by omega) h_2 (hno)) rfl (by omega) (Nat.le_of_ble_eq_true rfl) (by omega) (by omega) rfl (fun r9 hp_4 nn_5 hq_6 => ?_)
  obtain ⟨rfl, hq_6n, ho_7⟩ := hq_6
  subst nn_5
  change Rn _ _ _ 10 _ [.null] _ _ _ _ _
  refine r_astore_nN (pc := 10) (lv' := [(3, .null), (0, .ref x), (1, .int p1), (2, .int p2)]) dX11_at_10 (i := 3) rfl (by decide) rfl ?_
  refine r_aload_nN (pc := 11) dX11_at_11 (i := 3) rfl rfl ?_
  refine r_ifnonnullN (pc := 12) dX11_at_12 ?_
  refine r_aload_n (pc := 15) dX11_at_15 (i := 0) rfl rfl ?_
  refine r_aload_n (pc := 16) dX11_at_16 (i := 0) rfl rfl ?_
  refine r_iload_n (pc := 17) dX11_at_17 (i := 1) rfl rfl ?_
  have h_11 : hp_4 x = some (.inr (10, [.ref th, .int cnt, .int 0, .ref dr, .ref sk, .ref sh, .ref se, .ref pa, .ref fl, .ref sa])) := (ho_7 x _ h_2)
  refine r_callV (pc := 18) (as := [.int p1]) (st := [.ref x]) kX11_110 rfl dX11_at_18 h_11 (c_X11_whyNot_n (d := d - 1) (th := th) (cnt := cnt) (rf := 0) (dr := dr) (sk := sk) (sh := sh) (se := se) (pa := pa) (fl := fl) (sa := sa) (x := x) (p1 := p1) (by omega) h_11 (hno)) rfl (by omega) (Nat.le_of_ble_eq_true rfl) (by omega) (by omega) rfl (fun r9 hp_8 nn_9 hq_10 => ?_)
  obtain ⟨rfl, hq_10n, ho_12⟩ := hq_10
  subst nn_9
  change Rn _ _ _ 21 _ [.int ((-1)), .ref x] _ _ _ _ _
  have h_16 : hp_8 x = some (.inr (10, [.ref th, .int cnt, .int 0, .ref dr, .ref sk, .ref sh, .ref se, .ref pa, .ref fl, .ref sa])) := (ho_12 x _ h_11)
  refine r_callV (pc := 21) (as := [.int ((-1))]) (st := []) kX11_203 rfl dX11_at_21 h_16 (c_X11_deny (d := d - 1) (th := th) (cnt := cnt) (rf := 0) (dr := dr) (sk := sk) (sh := sh) (se := se) (pa := pa) (fl := fl) (sa := sa) (x := x) (p1 := (-1)) (by omega) h_16 ) rfl (by omega) (Nat.le_of_ble_eq_true rfl) (by omega) (by omega) rfl (fun r9 hp_13 nn_14 hq_15 => ?_)
  obtain ⟨rfl, hq_15n, h_17, ho_18⟩ := hq_15
  subst nn_14
  change Rn _ _ _ 24 _ [.int 0] _ _ _ _ _
  refine r_i2l (pc := 24) (v := 0) dX11_at_24 (by decide) ?_
  exact r_lret (pc := 25) dX11_at_25 rfl (⟨rfl, rfl, h_17, fun q e9 h9 n9_0 => (ho_18 q e9 (ho_12 q e9 (ho_7 q e9 ((ho_3 q n9_0).trans h9) ) ) n9_0)⟩)
set_option maxHeartbeats 4000000 in
set_option maxRecDepth 100000 in
theorem c_X11_way_n {D : va_G} {cI cJ cZ cT : ClassId} {lo b L : Nat} {xs : Nat → Int32} {hp : MH} {n d : Nat} {x th dr sk sh se pa fl sa : Nat} {cnt rf : Int32} {p1 : Int32} {p2 : Int32} {p3 : Int32} (hd0 : 3 ≤ d) (gc0 : hp x = some (.inr (10, [.ref th, .int cnt, .int rf, .ref dr, .ref sk, .ref sh, .ref se, .ref pa, .ref fl, .ref sa]))) (hno : p1 < 0 ∨ cnt ≤ p1) : Mt (gG D cI cJ cZ cT lo b L xs) mX11_way d 0 0 [.ref x, .int p1, .int p2, .int p3] hp n (fun r hp1 n1 => r = some (.long 0) ∧ n1 = n ∧ hp1 x = some (.inr (10, [.ref th, .int cnt, .int ((-1)), .ref dr, .ref sk, .ref sh, .ref se, .ref pa, .ref fl, .ref sa])) ∧ ∀ (q : Nat) (e9 : va_E), hp q = some e9 → q ≠ x → hp1 q = some e9) := by
  refine Mt.of rfl (Nat.le_of_ble_eq_true rfl) ?_
  refine Rn.pick (lv' := [(0, .ref x), (1, .int p1), (2, .int p2), (3, .int p3)]) [0, 1, 2, 3] rfl ?_
  refine r_aload_n (pc := 0) dX11_way_0 (i := 0) rfl rfl ?_
  refine r_iconst (pc := 1) (v := 0) dX11_way_1 (by decide) ?_
  refine w_put (pc := 2) (ty := .int) (fs' := [.ref th, .int cnt, .int 0, .ref dr, .ref sk, .ref sh, .ref se, .ref pa, .ref fl, .ref sa]) fX11_19 tyX11 tyX11_ok nmX11 (by decide +kernel) (Or.inl rfl) dX11_way_2 gc0 (Nat.le_of_ble_eq_true rfl) (rfl) (rfl) rfl (fun hp_1 h_2 ho_3 => ?_)
  refine r_aload_n (pc := 5) dX11_way_5 (i := 0) rfl rfl ?_
  refine r_iload_n (pc := 6) dX11_way_6 (i := 1) rfl rfl ?_
  refine r_callV (pc := 7) (as := [.int p1]) (st := []) kX11_217 rfl dX11_way_7 h_2 (c_X11_waysAt_n (d := d - 1) (th := th) (cnt := cnt) (rf := 0) (dr := dr) (sk := sk) (sh := sh) (se := se) (pa := pa) (fl := fl) (sa := sa) (x := x) (p1 := p1) (by omega) h_2 (hno)) rfl (by omega) (Nat.le_of_ble_eq_true rfl) (by omega) (by omega) rfl (fun r9 hp_4 nn_5 hq_6 => ?_)
  obtain ⟨rfl, hq_6n, ho_7⟩ := hq_6
  subst nn_5
  change Rn _ _ _ 10 _ [.null] _ _ _ _ _
  refine r_astoreN (pc := 10) (lv' := [(4, .null), (0, .ref x), (1, .int p1), (2, .int p2), (3, .int p3)]) dX11_way_10 (by decide) rfl ?_
  refine r_aloadN (pc := 12) dX11_way_12 rfl ?_
  refine r_ifnonnullN (pc := 14) dX11_way_14 ?_
  refine r_aload_n (pc := 17) dX11_way_17 (i := 0) rfl rfl ?_
  refine r_aload_n (pc := 18) dX11_way_18 (i := 0) rfl rfl ?_
  refine r_iload_n (pc := 19) dX11_way_19 (i := 1) rfl rfl ?_
  have h_11 : hp_4 x = some (.inr (10, [.ref th, .int cnt, .int 0, .ref dr, .ref sk, .ref sh, .ref se, .ref pa, .ref fl, .ref sa])) := (ho_7 x _ h_2)
  refine r_callV (pc := 20) (as := [.int p1]) (st := [.ref x]) kX11_110 rfl dX11_way_20 h_11 (c_X11_whyNot_n (d := d - 1) (th := th) (cnt := cnt) (rf := 0) (dr := dr) (sk := sk) (sh := sh) (se := se) (pa := pa) (fl := fl) (sa := sa) (x := x) (p1 := p1) (by omega) h_11 (hno)) rfl (by omega) (Nat.le_of_ble_eq_true rfl) (by omega) (by omega) rfl (fun r9 hp_8 nn_9 hq_10 => ?_)
  obtain ⟨rfl, hq_10n, ho_12⟩ := hq_10
  subst nn_9
  change Rn _ _ _ 23 _ [.int ((-1)), .ref x] _ _ _ _ _
  have h_16 : hp_8 x = some (.inr (10, [.ref th, .int cnt, .int 0, .ref dr, .ref sk, .ref sh, .ref se, .ref pa, .ref fl, .ref sa])) := (ho_12 x _ h_11)
  refine r_callV (pc := 23) (as := [.int ((-1))]) (st := []) kX11_203 rfl dX11_way_23 h_16 (c_X11_deny (d := d - 1) (th := th) (cnt := cnt) (rf := 0) (dr := dr) (sk := sk) (sh := sh) (se := se) (pa := pa) (fl := fl) (sa := sa) (x := x) (p1 := (-1)) (by omega) h_16 ) rfl (by omega) (Nat.le_of_ble_eq_true rfl) (by omega) (by omega) rfl (fun r9 hp_13 nn_14 hq_15 => ?_)
  obtain ⟨rfl, hq_15n, h_17, ho_18⟩ := hq_15
  subst nn_14
  change Rn _ _ _ 26 _ [.int 0] _ _ _ _ _
  refine r_i2l (pc := 26) (v := 0) dX11_way_26 (by decide) ?_
  exact r_lret (pc := 27) dX11_way_27 rfl (⟨rfl, rfl, h_17, fun q e9 h9 n9_0 => (ho_18 q e9 (ho_12 q e9 (ho_7 q e9 ((ho_3 q n9_0).trans h9) ) ) n9_0)⟩)
set_option maxHeartbeats 4000000 in
set_option maxRecDepth 100000 in
theorem c_X11_step_n {D : va_G} {cI cJ cZ cT : ClassId} {lo b L : Nat} {xs : Nat → Int32} {hp : MH} {n d : Nat} {x th dr sk sh se pa fl sa : Nat} {cnt rf : Int32} {p1 : Int32} {p2 : Int32} {p3 : Int32} (hd0 : 3 ≤ d) (gc0 : hp x = some (.inr (10, [.ref th, .int cnt, .int rf, .ref dr, .ref sk, .ref sh, .ref se, .ref pa, .ref fl, .ref sa]))) (hno : p1 < 0 ∨ cnt ≤ p1) : Mt (gG D cI cJ cZ cT lo b L xs) mX11_step d 0 0 [.ref x, .int p1, .int p2, .int p3] hp n (fun r hp1 n1 => r = some (.int 0) ∧ n1 = n ∧ hp1 x = some (.inr (10, [.ref th, .int cnt, .int ((-1)), .ref dr, .ref sk, .ref sh, .ref se, .ref pa, .ref fl, .ref sa])) ∧ ∀ (q : Nat) (e9 : va_E), hp q = some e9 → q ≠ x → hp1 q = some e9) := by
  refine Mt.of rfl (Nat.le_of_ble_eq_true rfl) ?_
  refine Rn.pick (lv' := [(0, .ref x), (1, .int p1), (2, .int p2), (3, .int p3)]) [0, 1, 2, 3] rfl ?_
  refine r_aload_n (pc := 0) dX11_step_0 (i := 0) rfl rfl ?_
  refine r_iconst (pc := 1) (v := 0) dX11_step_1 (by decide) ?_
  refine w_put (pc := 2) (ty := .int) (fs' := [.ref th, .int cnt, .int 0, .ref dr, .ref sk, .ref sh, .ref se, .ref pa, .ref fl, .ref sa]) fX11_19 tyX11 tyX11_ok nmX11 (by decide +kernel) (Or.inl rfl) dX11_step_2 gc0 (Nat.le_of_ble_eq_true rfl) (rfl) (rfl) rfl (fun hp_1 h_2 ho_3 => ?_)
  refine r_aload_n (pc := 5) dX11_step_5 (i := 0) rfl rfl ?_
  refine r_iload_n (pc := 6) dX11_step_6 (i := 1) rfl rfl ?_
  refine r_callV (pc := 7) (as := [.int p1]) (st := []) kX11_217 rfl dX11_step_7 h_2 (c_X11_waysAt_n (d := d - 1) (th := th) (cnt := cnt) (rf := 0) (dr := dr) (sk := sk) (sh := sh) (se := se) (pa := pa) (fl := fl) (sa := sa) (x := x) (p1 := p1) (by omega) h_2 (hno)) rfl (by omega) (Nat.le_of_ble_eq_true rfl) (by omega) (by omega) rfl (fun r9 hp_4 nn_5 hq_6 => ?_)
  obtain ⟨rfl, hq_6n, ho_7⟩ := hq_6
  subst nn_5
  change Rn _ _ _ 10 _ [.null] _ _ _ _ _
  refine r_astoreN (pc := 10) (lv' := [(4, .null), (0, .ref x), (1, .int p1), (2, .int p2), (3, .int p3)]) dX11_step_10 (by decide) rfl ?_
  refine r_aloadN (pc := 12) dX11_step_12 rfl ?_
  refine r_ifnonnullN (pc := 14) dX11_step_14 ?_
  refine r_aload_n (pc := 17) dX11_step_17 (i := 0) rfl rfl ?_
  refine r_aload_n (pc := 18) dX11_step_18 (i := 0) rfl rfl ?_
  refine r_iload_n (pc := 19) dX11_step_19 (i := 1) rfl rfl ?_
  have h_11 : hp_4 x = some (.inr (10, [.ref th, .int cnt, .int 0, .ref dr, .ref sk, .ref sh, .ref se, .ref pa, .ref fl, .ref sa])) := (ho_7 x _ h_2)
  refine r_callV (pc := 20) (as := [.int p1]) (st := [.ref x]) kX11_110 rfl dX11_step_20 h_11 (c_X11_whyNot_n (d := d - 1) (th := th) (cnt := cnt) (rf := 0) (dr := dr) (sk := sk) (sh := sh) (se := se) (pa := pa) (fl := fl) (sa := sa) (x := x) (p1 := p1) (by omega) h_11 (hno)) rfl (by omega) (Nat.le_of_ble_eq_true rfl) (by omega) (by omega) rfl (fun r9 hp_8 nn_9 hq_10 => ?_)
  obtain ⟨rfl, hq_10n, ho_12⟩ := hq_10
  subst nn_9
  change Rn _ _ _ 23 _ [.int ((-1)), .ref x] _ _ _ _ _
  have h_16 : hp_8 x = some (.inr (10, [.ref th, .int cnt, .int 0, .ref dr, .ref sk, .ref sh, .ref se, .ref pa, .ref fl, .ref sa])) := (ho_12 x _ h_11)
  refine r_callV (pc := 23) (as := [.int ((-1))]) (st := []) kX11_203 rfl dX11_step_23 h_16 (c_X11_deny (d := d - 1) (th := th) (cnt := cnt) (rf := 0) (dr := dr) (sk := sk) (sh := sh) (se := se) (pa := pa) (fl := fl) (sa := sa) (x := x) (p1 := (-1)) (by omega) h_16 ) rfl (by omega) (Nat.le_of_ble_eq_true rfl) (by omega) (by omega) rfl (fun r9 hp_13 nn_14 hq_15 => ?_)
  obtain ⟨rfl, hq_15n, h_17, ho_18⟩ := hq_15
  subst nn_14
  change Rn _ _ _ 26 _ [.int 0] _ _ _ _ _
  exact r_iret (pc := 26) dX11_step_26 rfl (⟨rfl, rfl, h_17, fun q e9 h9 n9_0 => (ho_18 q e9 (ho_12 q e9 (ho_7 q e9 ((ho_3 q n9_0).trans h9) ) ) n9_0)⟩)
set_option maxHeartbeats 4000000 in
set_option maxRecDepth 100000 in
theorem c_X11_part_n {D : va_G} {cI cJ cZ cT : ClassId} {lo b L : Nat} {xs : Nat → Int32} {hp : MH} {n d : Nat} {x th dr sk sh se pa fl sa : Nat} {cnt rf : Int32} {p1 : Int32} {p2 : Int32} (hd0 : 3 ≤ d) (gc0 : hp x = some (.inr (10, [.ref th, .int cnt, .int rf, .ref dr, .ref sk, .ref sh, .ref se, .ref pa, .ref fl, .ref sa]))) (hno : p1 < 0 ∨ cnt ≤ p1) : Mt (gG D cI cJ cZ cT lo b L xs) mX11_part d 0 0 [.ref x, .int p1, .int p2] hp n (fun r hp1 n1 => r = some (.int 0) ∧ n1 = n ∧ hp1 x = some (.inr (10, [.ref th, .int cnt, .int ((-1)), .ref dr, .ref sk, .ref sh, .ref se, .ref pa, .ref fl, .ref sa])) ∧ ∀ (q : Nat) (e9 : va_E), hp q = some e9 → q ≠ x → hp1 q = some e9) := by
  refine Mt.of rfl (Nat.le_of_ble_eq_true rfl) ?_
  refine Rn.pick (lv' := [(0, .ref x), (1, .int p1), (2, .int p2)]) [0, 1, 2] rfl ?_
  refine r_aload_n (pc := 0) dX11_part_0 (i := 0) rfl rfl ?_
  refine r_iconst (pc := 1) (v := 0) dX11_part_1 (by decide) ?_
  refine w_put (pc := 2) (ty := .int) (fs' := [.ref th, .int cnt, .int 0, .ref dr, .ref sk, .ref sh, .ref se, .ref pa, .ref fl, .ref sa]) fX11_19 tyX11 tyX11_ok nmX11 (by decide +kernel) (Or.inl rfl) dX11_part_2 gc0 (Nat.le_of_ble_eq_true rfl) (rfl) (rfl) rfl (fun hp_1 h_2 ho_3 => ?_)
  refine r_aload_n (pc := 5) dX11_part_5 (i := 0) rfl rfl ?_
  refine r_iload_n (pc := 6) dX11_part_6 (i := 1) rfl rfl ?_
  refine r_callV (pc := 7) (as := [.int p1]) (st := []) kX11_140 rfl dX11_part_7 h_2 (c_X11_partsAt_n (d := d - 1) (th := th) (cnt := cnt) (rf := 0) (dr := dr) (sk := sk) (sh := sh) (se := se) (pa := pa) (fl := fl) (sa := sa) (x := x) (p1 := p1) (by omega) h_2 (hno)) rfl (by omega) (Nat.le_of_ble_eq_true rfl) (by omega) (by omega) rfl (fun r9 hp_4 nn_5 hq_6 => ?_)
  obtain ⟨rfl, hq_6n, ho_7⟩ := hq_6
  subst nn_5
  change Rn _ _ _ 10 _ [.null] _ _ _ _ _
  refine r_astore_nN (pc := 10) (lv' := [(3, .null), (0, .ref x), (1, .int p1), (2, .int p2)]) dX11_part_10 (i := 3) rfl (by decide) rfl ?_
  refine r_aload_nN (pc := 11) dX11_part_11 (i := 3) rfl rfl ?_
  refine r_ifnonnullN (pc := 12) dX11_part_12 ?_
  refine r_aload_n (pc := 15) dX11_part_15 (i := 0) rfl rfl ?_
  refine r_aload_n (pc := 16) dX11_part_16 (i := 0) rfl rfl ?_
  refine r_iload_n (pc := 17) dX11_part_17 (i := 1) rfl rfl ?_
  have h_11 : hp_4 x = some (.inr (10, [.ref th, .int cnt, .int 0, .ref dr, .ref sk, .ref sh, .ref se, .ref pa, .ref fl, .ref sa])) := (ho_7 x _ h_2)
  refine r_callV (pc := 18) (as := [.int p1]) (st := [.ref x]) kX11_110 rfl dX11_part_18 h_11 (c_X11_whyNot_n (d := d - 1) (th := th) (cnt := cnt) (rf := 0) (dr := dr) (sk := sk) (sh := sh) (se := se) (pa := pa) (fl := fl) (sa := sa) (x := x) (p1 := p1) (by omega) h_11 (hno)) rfl (by omega) (Nat.le_of_ble_eq_true rfl) (by omega) (by omega) rfl (fun r9 hp_8 nn_9 hq_10 => ?_)
  obtain ⟨rfl, hq_10n, ho_12⟩ := hq_10
  subst nn_9
  change Rn _ _ _ 21 _ [.int ((-1)), .ref x] _ _ _ _ _
  have h_16 : hp_8 x = some (.inr (10, [.ref th, .int cnt, .int 0, .ref dr, .ref sk, .ref sh, .ref se, .ref pa, .ref fl, .ref sa])) := (ho_12 x _ h_11)
  refine r_callV (pc := 21) (as := [.int ((-1))]) (st := []) kX11_203 rfl dX11_part_21 h_16 (c_X11_deny (d := d - 1) (th := th) (cnt := cnt) (rf := 0) (dr := dr) (sk := sk) (sh := sh) (se := se) (pa := pa) (fl := fl) (sa := sa) (x := x) (p1 := (-1)) (by omega) h_16 ) rfl (by omega) (Nat.le_of_ble_eq_true rfl) (by omega) (by omega) rfl (fun r9 hp_13 nn_14 hq_15 => ?_)
  obtain ⟨rfl, hq_15n, h_17, ho_18⟩ := hq_15
  subst nn_14
  change Rn _ _ _ 24 _ [.int 0] _ _ _ _ _
  exact r_iret (pc := 24) dX11_part_24 rfl (⟨rfl, rfl, h_17, fun q e9 h9 n9_0 => (ho_18 q e9 (ho_12 q e9 (ho_7 q e9 ((ho_3 q n9_0).trans h9) ) ) n9_0)⟩)
set_option maxHeartbeats 4000000 in
set_option maxRecDepth 100000 in
theorem c_X11_members_n {D : va_G} {cI cJ cZ cT : ClassId} {lo b L : Nat} {xs : Nat → Int32} {hp : MH} {n d : Nat} {x th dr sk sh se pa fl sa : Nat} {cnt rf : Int32} {p1 : Int32} {p2 : Int32} (hd0 : 3 ≤ d) (gc0 : hp x = some (.inr (10, [.ref th, .int cnt, .int rf, .ref dr, .ref sk, .ref sh, .ref se, .ref pa, .ref fl, .ref sa]))) (hno : p1 < 0 ∨ cnt ≤ p1) : Mt (gG D cI cJ cZ cT lo b L xs) mX11_members d 0 0 [.ref x, .int p1, .int p2] hp n (fun r hp1 n1 => r = some (.int 0) ∧ n1 = n ∧ hp1 x = some (.inr (10, [.ref th, .int cnt, .int ((-1)), .ref dr, .ref sk, .ref sh, .ref se, .ref pa, .ref fl, .ref sa])) ∧ ∀ (q : Nat) (e9 : va_E), hp q = some e9 → q ≠ x → hp1 q = some e9) := by
  refine Mt.of rfl (Nat.le_of_ble_eq_true rfl) ?_
  refine Rn.pick (lv' := [(0, .ref x), (1, .int p1), (2, .int p2)]) [0, 1, 2] rfl ?_
  refine r_aload_n (pc := 0) dX11_members_0 (i := 0) rfl rfl ?_
  refine r_iconst (pc := 1) (v := 0) dX11_members_1 (by decide) ?_
  refine w_put (pc := 2) (ty := .int) (fs' := [.ref th, .int cnt, .int 0, .ref dr, .ref sk, .ref sh, .ref se, .ref pa, .ref fl, .ref sa]) fX11_19 tyX11 tyX11_ok nmX11 (by decide +kernel) (Or.inl rfl) dX11_members_2 gc0 (Nat.le_of_ble_eq_true rfl) (rfl) (rfl) rfl (fun hp_1 h_2 ho_3 => ?_)
  refine r_aload_n (pc := 5) dX11_members_5 (i := 0) rfl rfl ?_
  refine r_iload_n (pc := 6) dX11_members_6 (i := 1) rfl rfl ?_
  refine r_callV (pc := 7) (as := [.int p1]) (st := []) kX11_140 rfl dX11_members_7 h_2 (c_X11_partsAt_n (d := d - 1) (th := th) (cnt := cnt) (rf := 0) (dr := dr) (sk := sk) (sh := sh) (se := se) (pa := pa) (fl := fl) (sa := sa) (x := x) (p1 := p1) (by omega) h_2 (hno)) rfl (by omega) (Nat.le_of_ble_eq_true rfl) (by omega) (by omega) rfl (fun r9 hp_4 nn_5 hq_6 => ?_)
  obtain ⟨rfl, hq_6n, ho_7⟩ := hq_6
  subst nn_5
  change Rn _ _ _ 10 _ [.null] _ _ _ _ _
  refine r_astore_nN (pc := 10) (lv' := [(3, .null), (0, .ref x), (1, .int p1), (2, .int p2)]) dX11_members_10 (i := 3) rfl (by decide) rfl ?_
  refine r_aload_nN (pc := 11) dX11_members_11 (i := 3) rfl rfl ?_
  refine r_ifnonnullN (pc := 12) dX11_members_12 ?_
  refine r_aload_n (pc := 15) dX11_members_15 (i := 0) rfl rfl ?_
  refine r_aload_n (pc := 16) dX11_members_16 (i := 0) rfl rfl ?_
  refine r_iload_n (pc := 17) dX11_members_17 (i := 1) rfl rfl ?_
  have h_11 : hp_4 x = some (.inr (10, [.ref th, .int cnt, .int 0, .ref dr, .ref sk, .ref sh, .ref se, .ref pa, .ref fl, .ref sa])) := (ho_7 x _ h_2)
  refine r_callV (pc := 18) (as := [.int p1]) (st := [.ref x]) kX11_110 rfl dX11_members_18 h_11 (c_X11_whyNot_n (d := d - 1) (th := th) (cnt := cnt) (rf := 0) (dr := dr) (sk := sk) (sh := sh) (se := se) (pa := pa) (fl := fl) (sa := sa) (x := x) (p1 := p1) (by omega) h_11 (hno)) rfl (by omega) (Nat.le_of_ble_eq_true rfl) (by omega) (by omega) rfl (fun r9 hp_8 nn_9 hq_10 => ?_)
  obtain ⟨rfl, hq_10n, ho_12⟩ := hq_10
  subst nn_9
  change Rn _ _ _ 21 _ [.int ((-1)), .ref x] _ _ _ _ _
  have h_16 : hp_8 x = some (.inr (10, [.ref th, .int cnt, .int 0, .ref dr, .ref sk, .ref sh, .ref se, .ref pa, .ref fl, .ref sa])) := (ho_12 x _ h_11)
  refine r_callV (pc := 21) (as := [.int ((-1))]) (st := []) kX11_203 rfl dX11_members_21 h_16 (c_X11_deny (d := d - 1) (th := th) (cnt := cnt) (rf := 0) (dr := dr) (sk := sk) (sh := sh) (se := se) (pa := pa) (fl := fl) (sa := sa) (x := x) (p1 := (-1)) (by omega) h_16 ) rfl (by omega) (Nat.le_of_ble_eq_true rfl) (by omega) (by omega) rfl (fun r9 hp_13 nn_14 hq_15 => ?_)
  obtain ⟨rfl, hq_15n, h_17, ho_18⟩ := hq_15
  subst nn_14
  change Rn _ _ _ 24 _ [.int 0] _ _ _ _ _
  exact r_iret (pc := 24) dX11_members_24 rfl (⟨rfl, rfl, h_17, fun q e9 h9 n9_0 => (ho_18 q e9 (ho_12 q e9 (ho_7 q e9 ((ho_3 q n9_0).trans h9) ) ) n9_0)⟩)
set_option maxHeartbeats 4000000 in
set_option maxRecDepth 100000 in
theorem c_X11_askSameness_n {D : va_G} {cI cJ cZ cT : ClassId} {lo b L : Nat} {xs : Nat → Int32} {hp : MH} {n d : Nat} {x th dr sk sh se pa fl sa : Nat} {cnt rf : Int32} {p1 : Int32} {p2 : Int32} {p3 : Int32} {p4 : Int32} (hd0 : 3 ≤ d) (gc0 : hp x = some (.inr (10, [.ref th, .int cnt, .int rf, .ref dr, .ref sk, .ref sh, .ref se, .ref pa, .ref fl, .ref sa]))) (hno : p1 < 0 ∨ cnt ≤ p1) (hno2 : p4 < 0 ∨ cnt ≤ p4) : Mt (gG D cI cJ cZ cT lo b L xs) mX11_askSameness d 0 0 [.ref x, .int p1, .int p2, .int p3, .int p4] hp n (fun r hp1 n1 => r = some (.long 0) ∧ n1 = n ∧ hp1 x = some (.inr (10, [.ref th, .int cnt, .int ((-1)), .ref dr, .ref sk, .ref sh, .ref se, .ref pa, .ref fl, .ref sa])) ∧ ∀ (q : Nat) (e9 : va_E), hp q = some e9 → q ≠ x → hp1 q = some e9) := by
  refine Mt.of rfl (Nat.le_of_ble_eq_true rfl) ?_
  refine Rn.pick (lv' := [(0, .ref x), (1, .int p1), (2, .int p2), (3, .int p3), (4, .int p4)]) [0, 1, 2, 3, 4] rfl ?_
  refine r_aload_n (pc := 0) dX11_askSameness_0 (i := 0) rfl rfl ?_
  refine r_iload_n (pc := 1) dX11_askSameness_1 (i := 1) rfl rfl ?_
  refine r_callV (pc := 2) (as := [.int p1]) (st := []) kX11_106 rfl dX11_askSameness_2 gc0 (c_X11_graphAt_n (d := d - 1) (th := th) (cnt := cnt) (rf := rf) (dr := dr) (sk := sk) (sh := sh) (se := se) (pa := pa) (fl := fl) (sa := sa) (x := x) (p1 := p1) (by omega) gc0 (hno)) rfl (by omega) (Nat.le_of_ble_eq_true rfl) (by omega) (by omega) rfl (fun r9 hp_1 nn_2 hq_3 => ?_)
  obtain ⟨rfl, hq_3n, ho_4⟩ := hq_3
  subst nn_2
  change Rn _ _ _ 5 _ [.null] _ _ _ _ _
  refine r_astoreN (pc := 5) (lv' := [(5, .null), (0, .ref x), (1, .int p1), (2, .int p2), (3, .int p3), (4, .int p4)]) dX11_askSameness_5 (by decide) rfl ?_
  refine r_aload_n (pc := 7) dX11_askSameness_7 (i := 0) rfl rfl ?_
  refine r_iload (pc := 8) dX11_askSameness_8 rfl ?_
  have h_8 : hp_1 x = some (.inr (10, [.ref th, .int cnt, .int rf, .ref dr, .ref sk, .ref sh, .ref se, .ref pa, .ref fl, .ref sa])) := (ho_4 x _ gc0)
  refine r_callV (pc := 10) (as := [.int p4]) (st := []) kX11_106 rfl dX11_askSameness_10 h_8 (c_X11_graphAt_n (d := d - 1) (th := th) (cnt := cnt) (rf := rf) (dr := dr) (sk := sk) (sh := sh) (se := se) (pa := pa) (fl := fl) (sa := sa) (x := x) (p1 := p4) (by omega) h_8 (hno2)) rfl (by omega) (Nat.le_of_ble_eq_true rfl) (by omega) (by omega) rfl (fun r9 hp_5 nn_6 hq_7 => ?_)
  obtain ⟨rfl, hq_7n, ho_9⟩ := hq_7
  subst nn_6
  change Rn _ _ _ 13 _ [.null] _ _ _ _ _
  refine r_astoreN (pc := 13) (lv' := [(6, .null), (5, .null), (0, .ref x), (1, .int p1), (2, .int p2), (3, .int p3), (4, .int p4)]) dX11_askSameness_13 (by decide) rfl ?_
  refine r_aloadN (pc := 15) dX11_askSameness_15 rfl ?_
  refine r_ifnullN (pc := 17) (tgt := 25) dX11_askSameness_17 (by decide) ?_
  refine r_aload_n (pc := 25) dX11_askSameness_25 (i := 0) rfl rfl ?_
  refine r_aload_n (pc := 26) dX11_askSameness_26 (i := 0) rfl rfl ?_
  refine r_iload_n (pc := 27) dX11_askSameness_27 (i := 1) rfl rfl ?_
  refine r_iload (pc := 28) dX11_askSameness_28 rfl ?_
  have h_13 : hp_5 x = some (.inr (10, [.ref th, .int cnt, .int rf, .ref dr, .ref sk, .ref sh, .ref se, .ref pa, .ref fl, .ref sa])) := (ho_9 x _ h_8)
  refine r_callV (pc := 30) (as := [.int p1, .int p4]) (st := [.ref x]) kX11_127 rfl dX11_askSameness_30 h_13 (c_X11_whyNotBoth_n (d := d - 1) (th := th) (cnt := cnt) (rf := rf) (dr := dr) (sk := sk) (sh := sh) (se := se) (pa := pa) (fl := fl) (sa := sa) (x := x) (p1 := p1) (p2 := p4) (by omega) h_13 (hno)) rfl (by omega) (Nat.le_of_ble_eq_true rfl) (by omega) (by omega) rfl (fun r9 hp_10 nn_11 hq_12 => ?_)
  obtain ⟨rfl, hq_12n, ho_14⟩ := hq_12
  subst nn_11
  change Rn _ _ _ 33 _ [.int ((-1)), .ref x] _ _ _ _ _
  have h_18 : hp_10 x = some (.inr (10, [.ref th, .int cnt, .int rf, .ref dr, .ref sk, .ref sh, .ref se, .ref pa, .ref fl, .ref sa])) := (ho_14 x _ h_13)
  refine r_callV (pc := 33) (as := [.int ((-1))]) (st := []) kX11_203 rfl dX11_askSameness_33 h_18 (c_X11_deny (d := d - 1) (th := th) (cnt := cnt) (rf := rf) (dr := dr) (sk := sk) (sh := sh) (se := se) (pa := pa) (fl := fl) (sa := sa) (x := x) (p1 := (-1)) (by omega) h_18 ) rfl (by omega) (Nat.le_of_ble_eq_true rfl) (by omega) (by omega) rfl (fun r9 hp_15 nn_16 hq_17 => ?_)
  obtain ⟨rfl, hq_17n, h_19, ho_20⟩ := hq_17
  subst nn_16
  change Rn _ _ _ 36 _ [.int 0] _ _ _ _ _
  refine r_i2l (pc := 36) (v := 0) dX11_askSameness_36 (by decide) ?_
  exact r_lret (pc := 37) dX11_askSameness_37 rfl (⟨rfl, rfl, h_19, fun q e9 h9 n9_0 => (ho_20 q e9 (ho_14 q e9 (ho_9 q e9 (ho_4 q e9 h9 ) ) ) n9_0)⟩)
set_option maxHeartbeats 4000000 in
set_option maxRecDepth 100000 in
theorem c_X11_ask_n {D : va_G} {cI cJ cZ cT : ClassId} {lo b L : Nat} {xs : Nat → Int32} {hp : MH} {n d : Nat} {x th dr sk sh se pa fl sa : Nat} {cnt rf : Int32} {p1 : Int32} {p2 : Int32} {p3 : Int32} {p4 : Int32} (hd0 : 4 ≤ d) (gc0 : hp x = some (.inr (10, [.ref th, .int cnt, .int rf, .ref dr, .ref sk, .ref sh, .ref se, .ref pa, .ref fl, .ref sa]))) (hno : p1 < 0 ∨ cnt ≤ p1) (hno2 : p4 < 0 ∨ cnt ≤ p4) : Mt (gG D cI cJ cZ cT lo b L xs) mX11_ask d 0 0 [.ref x, .int p1, .int p2, .int p3, .int p4] hp n (fun r hp1 n1 => r = some (.long 0) ∧ n1 = n ∧ hp1 x = some (.inr (10, [.ref th, .int cnt, .int ((-1)), .ref dr, .ref sk, .ref sh, .ref se, .ref pa, .ref fl, .ref sa])) ∧ ∀ (q : Nat) (e9 : va_E), hp q = some e9 → q ≠ x → hp1 q = some e9) := by
  refine Mt.of rfl (Nat.le_of_ble_eq_true rfl) ?_
  refine Rn.pick (lv' := [(0, .ref x), (1, .int p1), (2, .int p2), (3, .int p3), (4, .int p4)]) [0, 1, 2, 3, 4] rfl ?_
  refine r_aload_n (pc := 0) dX11_ask_0 (i := 0) rfl rfl ?_
  refine r_iconst (pc := 1) (v := 0) dX11_ask_1 (by decide) ?_
  refine w_put (pc := 2) (ty := .int) (fs' := [.ref th, .int cnt, .int 0, .ref dr, .ref sk, .ref sh, .ref se, .ref pa, .ref fl, .ref sa]) fX11_19 tyX11 tyX11_ok nmX11 (by decide +kernel) (Or.inl rfl) dX11_ask_2 gc0 (Nat.le_of_ble_eq_true rfl) (rfl) (rfl) rfl (fun hp_1 h_2 ho_3 => ?_)
  refine r_iload_n (pc := 5) dX11_ask_5 (i := 2) rfl rfl ?_
  refine r_bipush (pc := 6) (v := 16) dX11_ask_6 (by decide) ?_
  refine r_icmp_eq (pc := 8) (tgt := 17) dX11_ask_8 (by decide) (fun c8 => ?_) (fun c8 => ?_)
  · refine r_aload_n (pc := 17) dX11_ask_17 (i := 0) rfl rfl ?_
    refine r_iload_n (pc := 18) dX11_ask_18 (i := 1) rfl rfl ?_
    refine r_iload_n (pc := 19) dX11_ask_19 (i := 2) rfl rfl ?_
    refine r_iload_n (pc := 20) dX11_ask_20 (i := 3) rfl rfl ?_
    refine r_iload (pc := 21) dX11_ask_21 rfl ?_
    refine r_callV (pc := 23) (as := [.int p1, .int p2, .int p3, .int p4]) (st := []) kX11_238 rfl dX11_ask_23 h_2 (c_X11_askSameness_n (d := d - 1) (th := th) (cnt := cnt) (rf := 0) (dr := dr) (sk := sk) (sh := sh) (se := se) (pa := pa) (fl := fl) (sa := sa) (x := x) (p1 := p1) (p2 := p2) (p3 := p3) (p4 := p4) (by omega) h_2 (hno) (hno2)) rfl (by omega) (Nat.le_of_ble_eq_true rfl) (by omega) (by omega) rfl (fun r9 hp_4 nn_5 hq_6 => ?_)
    obtain ⟨rfl, hq_6n, h_7, ho_8⟩ := hq_6
    subst nn_5
    change Rn _ _ _ 26 _ [.long 0] _ _ _ _ _
    exact r_lret (pc := 26) dX11_ask_26 rfl (⟨rfl, rfl, h_7, fun q e9 h9 n9_0 => (ho_8 q e9 ((ho_3 q n9_0).trans h9) n9_0)⟩)
  · refine r_iload_n (pc := 11) dX11_ask_11 (i := 2) rfl rfl ?_
    refine r_bipush (pc := 12) (v := 17) dX11_ask_12 (by decide) ?_
    refine r_icmp_ne (pc := 14) (tgt := 27) dX11_ask_14 (by decide) (fun c14 => ?_) (fun c14 => ?_)
    · refine r_aload_n (pc := 27) dX11_ask_27 (i := 0) rfl rfl ?_
      refine r_iload_n (pc := 28) dX11_ask_28 (i := 1) rfl rfl ?_
      refine r_callV (pc := 29) (as := [.int p1]) (st := []) kX11_106 rfl dX11_ask_29 h_2 (c_X11_graphAt_n (d := d - 1) (th := th) (cnt := cnt) (rf := 0) (dr := dr) (sk := sk) (sh := sh) (se := se) (pa := pa) (fl := fl) (sa := sa) (x := x) (p1 := p1) (by omega) h_2 (hno)) rfl (by omega) (Nat.le_of_ble_eq_true rfl) (by omega) (by omega) rfl (fun r9 hp_9 nn_10 hq_11 => ?_)
      obtain ⟨rfl, hq_11n, ho_12⟩ := hq_11
      subst nn_10
      change Rn _ _ _ 32 _ [.null] _ _ _ _ _
      refine r_astoreN (pc := 32) (lv' := [(5, .null), (0, .ref x), (1, .int p1), (2, .int p2), (3, .int p3), (4, .int p4)]) dX11_ask_32 (by decide) rfl ?_
      refine r_aloadN (pc := 34) dX11_ask_34 rfl ?_
      refine r_ifnonnullN (pc := 36) dX11_ask_36 ?_
      refine r_aload_n (pc := 39) dX11_ask_39 (i := 0) rfl rfl ?_
      refine r_aload_n (pc := 40) dX11_ask_40 (i := 0) rfl rfl ?_
      refine r_iload_n (pc := 41) dX11_ask_41 (i := 1) rfl rfl ?_
      have h_16 : hp_9 x = some (.inr (10, [.ref th, .int cnt, .int 0, .ref dr, .ref sk, .ref sh, .ref se, .ref pa, .ref fl, .ref sa])) := (ho_12 x _ h_2)
      refine r_callV (pc := 42) (as := [.int p1]) (st := [.ref x]) kX11_110 rfl dX11_ask_42 h_16 (c_X11_whyNot_n (d := d - 1) (th := th) (cnt := cnt) (rf := 0) (dr := dr) (sk := sk) (sh := sh) (se := se) (pa := pa) (fl := fl) (sa := sa) (x := x) (p1 := p1) (by omega) h_16 (hno)) rfl (by omega) (Nat.le_of_ble_eq_true rfl) (by omega) (by omega) rfl (fun r9 hp_13 nn_14 hq_15 => ?_)
      obtain ⟨rfl, hq_15n, ho_17⟩ := hq_15
      subst nn_14
      change Rn _ _ _ 45 _ [.int ((-1)), .ref x] _ _ _ _ _
      have h_21 : hp_13 x = some (.inr (10, [.ref th, .int cnt, .int 0, .ref dr, .ref sk, .ref sh, .ref se, .ref pa, .ref fl, .ref sa])) := (ho_17 x _ h_16)
      refine r_callV (pc := 45) (as := [.int ((-1))]) (st := []) kX11_203 rfl dX11_ask_45 h_21 (c_X11_deny (d := d - 1) (th := th) (cnt := cnt) (rf := 0) (dr := dr) (sk := sk) (sh := sh) (se := se) (pa := pa) (fl := fl) (sa := sa) (x := x) (p1 := (-1)) (by omega) h_21 ) rfl (by omega) (Nat.le_of_ble_eq_true rfl) (by omega) (by omega) rfl (fun r9 hp_18 nn_19 hq_20 => ?_)
      obtain ⟨rfl, hq_20n, h_22, ho_23⟩ := hq_20
      subst nn_19
      change Rn _ _ _ 48 _ [.int 0] _ _ _ _ _
      refine r_i2l (pc := 48) (v := 0) dX11_ask_48 (by decide) ?_
      exact r_lret (pc := 49) dX11_ask_49 rfl (⟨rfl, rfl, h_22, fun q e9 h9 n9_0 => (ho_23 q e9 (ho_17 q e9 (ho_12 q e9 ((ho_3 q n9_0).trans h9) ) ) n9_0)⟩)
    · refine r_aload_n (pc := 17) dX11_ask_17 (i := 0) rfl rfl ?_
      refine r_iload_n (pc := 18) dX11_ask_18 (i := 1) rfl rfl ?_
      refine r_iload_n (pc := 19) dX11_ask_19 (i := 2) rfl rfl ?_
      refine r_iload_n (pc := 20) dX11_ask_20 (i := 3) rfl rfl ?_
      refine r_iload (pc := 21) dX11_ask_21 rfl ?_
      refine r_callV (pc := 23) (as := [.int p1, .int p2, .int p3, .int p4]) (st := []) kX11_238 rfl dX11_ask_23 h_2 (c_X11_askSameness_n (d := d - 1) (th := th) (cnt := cnt) (rf := 0) (dr := dr) (sk := sk) (sh := sh) (se := se) (pa := pa) (fl := fl) (sa := sa) (x := x) (p1 := p1) (p2 := p2) (p3 := p3) (p4 := p4) (by omega) h_2 (hno) (hno2)) rfl (by omega) (Nat.le_of_ble_eq_true rfl) (by omega) (by omega) rfl (fun r9 hp_24 nn_25 hq_26 => ?_)
      obtain ⟨rfl, hq_26n, h_27, ho_28⟩ := hq_26
      subst nn_25
      change Rn _ _ _ 26 _ [.long 0] _ _ _ _ _
      exact r_lret (pc := 26) dX11_ask_26 rfl (⟨rfl, rfl, h_27, fun q e9 h9 n9_0 => (ho_28 q e9 ((ho_3 q n9_0).trans h9) n9_0)⟩)
set_option maxHeartbeats 4000000 in
set_option maxRecDepth 100000 in
theorem c_X11_sort_n {D : va_G} {cI cJ cZ cT : ClassId} {lo b L : Nat} {xs : Nat → Int32} {hp : MH} {n d : Nat} {x th dr sk sh se pa fl sa : Nat} {cnt rf : Int32} {p1 : Int32} (hd0 : 3 ≤ d) (gc0 : hp x = some (.inr (10, [.ref th, .int cnt, .int rf, .ref dr, .ref sk, .ref sh, .ref se, .ref pa, .ref fl, .ref sa]))) (hno : p1 < 0 ∨ cnt ≤ p1) : Mt (gG D cI cJ cZ cT lo b L xs) mX11_sort d 0 0 [.ref x, .int p1] hp n (fun r hp1 n1 => r = some (.int 0) ∧ n1 = n ∧ hp1 x = some (.inr (10, [.ref th, .int cnt, .int ((-1)), .ref dr, .ref sk, .ref sh, .ref se, .ref pa, .ref fl, .ref sa])) ∧ ∀ (q : Nat) (e9 : va_E), hp q = some e9 → q ≠ x → hp1 q = some e9) := by
  refine Mt.of rfl (Nat.le_of_ble_eq_true rfl) ?_
  refine Rn.pick (lv' := [(0, .ref x), (1, .int p1)]) [0, 1] rfl ?_
  refine r_aload_n (pc := 0) dX11_sort_0 (i := 0) rfl rfl ?_
  refine r_iconst (pc := 1) (v := 0) dX11_sort_1 (by decide) ?_
  refine w_put (pc := 2) (ty := .int) (fs' := [.ref th, .int cnt, .int 0, .ref dr, .ref sk, .ref sh, .ref se, .ref pa, .ref fl, .ref sa]) fX11_19 tyX11 tyX11_ok nmX11 (by decide +kernel) (Or.inl rfl) dX11_sort_2 gc0 (Nat.le_of_ble_eq_true rfl) (rfl) (rfl) rfl (fun hp_1 h_2 ho_3 => ?_)
  refine r_aload_n (pc := 5) dX11_sort_5 (i := 0) rfl rfl ?_
  refine r_iload_n (pc := 6) dX11_sort_6 (i := 1) rfl rfl ?_
  refine r_callV (pc := 7) (as := [.int p1]) (st := []) kX11_199 rfl dX11_sort_7 h_2 (c_X11_thingAt_n (d := d - 1) (th := th) (cnt := cnt) (rf := 0) (dr := dr) (sk := sk) (sh := sh) (se := se) (pa := pa) (fl := fl) (sa := sa) (x := x) (p1 := p1) (by omega) h_2 (hno)) rfl (by omega) (Nat.le_of_ble_eq_true rfl) (by omega) (by omega) rfl (fun r9 hp_4 nn_5 hq_6 => ?_)
  obtain ⟨rfl, hq_6n, ho_7⟩ := hq_6
  subst nn_5
  change Rn _ _ _ 10 _ [.null] _ _ _ _ _
  refine r_astore_nN (pc := 10) (lv' := [(2, .null), (0, .ref x), (1, .int p1)]) dX11_sort_10 (i := 2) rfl (by decide) rfl ?_
  refine r_aload_nN (pc := 11) dX11_sort_11 (i := 2) rfl rfl ?_
  refine r_ifnonnullN (pc := 12) dX11_sort_12 ?_
  refine r_aload_n (pc := 15) dX11_sort_15 (i := 0) rfl rfl ?_
  refine r_iconst (pc := 16) (v := (-1)) dX11_sort_16 (by decide) ?_
  have h_11 : hp_4 x = some (.inr (10, [.ref th, .int cnt, .int 0, .ref dr, .ref sk, .ref sh, .ref se, .ref pa, .ref fl, .ref sa])) := (ho_7 x _ h_2)
  refine r_callV (pc := 17) (as := [.int ((-1))]) (st := []) kX11_203 rfl dX11_sort_17 h_11 (c_X11_deny (d := d - 1) (th := th) (cnt := cnt) (rf := 0) (dr := dr) (sk := sk) (sh := sh) (se := se) (pa := pa) (fl := fl) (sa := sa) (x := x) (p1 := (-1)) (by omega) h_11 ) rfl (by omega) (Nat.le_of_ble_eq_true rfl) (by omega) (by omega) rfl (fun r9 hp_8 nn_9 hq_10 => ?_)
  obtain ⟨rfl, hq_10n, h_12, ho_13⟩ := hq_10
  subst nn_9
  change Rn _ _ _ 20 _ [.int 0] _ _ _ _ _
  refine r_goto (pc := 20) (tgt := 27) dX11_sort_20 (by decide) ?_
  exact r_iret (pc := 27) dX11_sort_27 rfl (⟨rfl, rfl, h_12, fun q e9 h9 n9_0 => (ho_13 q e9 (ho_7 q e9 ((ho_3 q n9_0).trans h9) ) n9_0)⟩)
