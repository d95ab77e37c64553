set_option maxHeartbeats 4000000 in
set_option maxRecDepth 100000 in
theorem c_X11_refuse {D : va_G} {cI cJ cZ cT : ClassId} {lo b L : Nat} {xs : Nat → Int32} {hp : MH} {n d : Nat} {x th dr sk sh se pa fl sa : Nat} {cnt rf : Int32} {p1 : Int32} (hd0 : 0 ≤ d) (gc0 : hp x = some (.inr (10, [.ref th, .int cnt, .int rf, .ref dr, .ref sk, .ref sh, .ref se, .ref pa, .ref fl, .ref sa]))) : Mt (gG D cI cJ cZ cT lo b L xs) mX11_refuse d 0 0 [.ref x, .int p1] hp n (fun r hp1 n1 => r = some (.int p1) ∧ n1 = n ∧ hp1 x = some (.inr (10, [.ref th, .int cnt, .int p1, .ref dr, .ref sk, .ref sh, .ref se, .ref pa, .ref fl, .ref sa])) ∧ ∀ (q : Nat) (e9 : va_E), hp q = some e9 → q ≠ x → hp1 q = some e9) := by
  refine Mt.of rfl (Nat.le_of_ble_eq_true rfl) ?_
  refine Rn.pick (lv' := [(0, .ref x), (1, .int p1)]) [0, 1] rfl ?_
  refine r_aload_n (pc := 0) dX11_refuse_0 (i := 0) rfl rfl ?_
  refine r_iload_n (pc := 1) dX11_refuse_1 (i := 1) rfl rfl ?_
  refine w_put (pc := 2) (ty := .int) (fs' := [.ref th, .int cnt, .int p1, .ref dr, .ref sk, .ref sh, .ref se, .ref pa, .ref fl, .ref sa]) fX11_19 tyX11 tyX11_ok nmX11 (by decide +kernel) (Or.inl rfl) dX11_refuse_2 gc0 (Nat.le_of_ble_eq_true rfl) (rfl) (rfl) rfl (fun hp_1 h_2 ho_3 => ?_)
  refine r_iload_n (pc := 5) dX11_refuse_5 (i := 1) rfl rfl ?_
  exact r_iret (pc := 6) dX11_refuse_6 rfl (⟨rfl, rfl, h_2, fun q e9 h9 n9_0 => ((ho_3 q n9_0).trans h9)⟩)
set_option maxHeartbeats 4000000 in
set_option maxRecDepth 100000 in
theorem c_X11_deny {D : va_G} {cI cJ cZ cT : ClassId} {lo b L : Nat} {xs : Nat → Int32} {hp : MH} {n d : Nat} {x th dr sk sh se pa fl sa : Nat} {cnt rf : Int32} {p1 : Int32} (hd0 : 0 ≤ d) (gc0 : hp x = some (.inr (10, [.ref th, .int cnt, .int rf, .ref dr, .ref sk, .ref sh, .ref se, .ref pa, .ref fl, .ref sa]))) : Mt (gG D cI cJ cZ cT lo b L xs) mX11_deny d 0 0 [.ref x, .int p1] hp n (fun r hp1 n1 => r = some (.int 0) ∧ n1 = n ∧ hp1 x = some (.inr (10, [.ref th, .int cnt, .int p1, .ref dr, .ref sk, .ref sh, .ref se, .ref pa, .ref fl, .ref sa])) ∧ ∀ (q : Nat) (e9 : va_E), hp q = some e9 → q ≠ x → hp1 q = some e9) := by
  refine Mt.of rfl (Nat.le_of_ble_eq_true rfl) ?_
  refine Rn.pick (lv' := [(0, .ref x), (1, .int p1)]) [0, 1] rfl ?_
  refine r_aload_n (pc := 0) dX11_deny_0 (i := 0) rfl rfl ?_
  refine r_iload_n (pc := 1) dX11_deny_1 (i := 1) rfl rfl ?_
  refine w_put (pc := 2) (ty := .int) (fs' := [.ref th, .int cnt, .int p1, .ref dr, .ref sk, .ref sh, .ref se, .ref pa, .ref fl, .ref sa]) fX11_19 tyX11 tyX11_ok nmX11 (by decide +kernel) (Or.inl rfl) dX11_deny_2 gc0 (Nat.le_of_ble_eq_true rfl) (rfl) (rfl) rfl (fun hp_1 h_2 ho_3 => ?_)
  refine r_iconst (pc := 5) (v := 0) dX11_deny_5 (by decide) ?_
  exact r_iret (pc := 6) dX11_deny_6 rfl (⟨rfl, rfl, h_2, fun q e9 h9 n9_0 => ((ho_3 q n9_0).trans h9)⟩)
set_option maxHeartbeats 4000000 in
set_option maxRecDepth 100000 in
theorem c_X11_isNode {D : va_G} {cI cJ cZ cT : ClassId} {lo b L : Nat} {xs : Nat → Int32} {hp : MH} {n d : Nat} {v m : Int32} (hd0 : 0 ≤ d) : Mt (gG D cI cJ cZ cT lo b L xs) mX11_isNode d 0 0 [.int v, .int m] hp n (fun r hp1 n1 => r = some (.int ((bI (decide (¬ v < 0 ∧ ¬ m ≤ v))))) ∧ n1 = n ∧ ∀ (q : Nat) (e9 : va_E), hp q = some e9 → hp1 q = some e9) := by
  refine Mt.of rfl (Nat.le_of_ble_eq_true rfl) ?_
  refine Rn.pick (lv' := [(0, .int v), (1, .int m)]) [0, 1] rfl ?_
  refine r_iload_n (pc := 0) dX11_isNode_0 (i := 0) rfl rfl ?_
  refine r_if_lt (pc := 1) (tgt := 13) dX11_isNode_1 (by decide) (fun c1 => ?_) (fun c1 => ?_)
  · refine r_iconst (pc := 13) (v := 0) dX11_isNode_13 (by decide) ?_
    exact r_zret (pc := 14) dX11_isNode_14 rfl (by decide) (⟨rI (by simp [bI, *]), rfl, fun q e9 h9 => h9⟩)
  · refine r_iload_n (pc := 4) dX11_isNode_4 (i := 0) rfl rfl ?_
    refine r_iload_n (pc := 5) dX11_isNode_5 (i := 1) rfl rfl ?_
    refine r_icmp_ge (pc := 6) (tgt := 13) dX11_isNode_6 (by decide) (fun c6 => ?_) (fun c6 => ?_)
    · refine r_iconst (pc := 13) (v := 0) dX11_isNode_13 (by decide) ?_
      exact r_zret (pc := 14) dX11_isNode_14 rfl (by decide) (⟨rI (by simp [bI, *]), rfl, fun q e9 h9 => h9⟩)
    · refine r_iconst (pc := 9) (v := 1) dX11_isNode_9 (by decide) ?_
      refine r_goto (pc := 10) (tgt := 14) dX11_isNode_10 (by decide) ?_
      exact r_zret (pc := 14) dX11_isNode_14 rfl (by decide) (⟨rI (by simp [bI, *]), rfl, fun q e9 h9 => h9⟩)
set_option maxHeartbeats 4000000 in
set_option maxRecDepth 100000 in
theorem c_X11_isWeight {D : va_G} {cI cJ cZ cT : ClassId} {lo b L : Nat} {xs : Nat → Int32} {hp : MH} {n d : Nat} {v : Int32} (hd0 : 0 ≤ d) : Mt (gG D cI cJ cZ cT lo b L xs) mX11_isWeight d 0 0 [.int v] hp n (fun r hp1 n1 => r = some (.int ((bI (decide (¬ v < (-1000) ∧ ¬ 1000 < v))))) ∧ n1 = n ∧ ∀ (q : Nat) (e9 : va_E), hp q = some e9 → hp1 q = some e9) := by
  refine Mt.of rfl (Nat.le_of_ble_eq_true rfl) ?_
  refine Rn.pick (lv' := [(0, .int v)]) [0] rfl ?_
  refine r_iload_n (pc := 0) dX11_isWeight_0 (i := 0) rfl rfl ?_
  refine r_sipush (pc := 1) (v := (-1000)) dX11_isWeight_1 (by decide) ?_
  refine r_icmp_lt (pc := 4) (tgt := 18) dX11_isWeight_4 (by decide) (fun c4 => ?_) (fun c4 => ?_)
  · refine r_iconst (pc := 18) (v := 0) dX11_isWeight_18 (by decide) ?_
    exact r_zret (pc := 19) dX11_isWeight_19 rfl (by decide) (⟨rI (by simp [bI, *]), rfl, fun q e9 h9 => h9⟩)
  · refine r_iload_n (pc := 7) dX11_isWeight_7 (i := 0) rfl rfl ?_
    refine r_sipush (pc := 8) (v := 1000) dX11_isWeight_8 (by decide) ?_
    refine r_icmp_gt (pc := 11) (tgt := 18) dX11_isWeight_11 (by decide) (fun c11 => ?_) (fun c11 => ?_)
    · refine r_iconst (pc := 18) (v := 0) dX11_isWeight_18 (by decide) ?_
      exact r_zret (pc := 19) dX11_isWeight_19 rfl (by decide) (⟨rI (by simp [bI, *]), rfl, fun q e9 h9 => h9⟩)
    · refine r_iconst (pc := 14) (v := 1) dX11_isWeight_14 (by decide) ?_
      refine r_goto (pc := 15) (tgt := 19) dX11_isWeight_15 (by decide) ?_
      exact r_zret (pc := 19) dX11_isWeight_19 rfl (by decide) (⟨rI (by simp [bI, *]), rfl, fun q e9 h9 => h9⟩)
set_option maxHeartbeats 4000000 in
set_option maxRecDepth 100000 in
theorem c_X11_isFull {D : va_G} {cI cJ cZ cT : ClassId} {lo b L : Nat} {xs : Nat → Int32} {hp : MH} {n d : Nat} {x th dr sk sh se pa fl sa : Nat} {cnt rf : Int32} (hd0 : 0 ≤ d) (gc0 : hp x = some (.inr (10, [.ref th, .int cnt, .int rf, .ref dr, .ref sk, .ref sh, .ref se, .ref pa, .ref fl, .ref sa]))) : Mt (gG D cI cJ cZ cT lo b L xs) mX11_isFull d 0 0 [.ref x] hp n (fun r hp1 n1 => r = some (.int ((bI (decide (¬ cnt < 120))))) ∧ n1 = n ∧ ∀ (q : Nat) (e9 : va_E), hp q = some e9 → hp1 q = some e9) := by
  refine Mt.of rfl (Nat.le_of_ble_eq_true rfl) ?_
  refine Rn.pick (lv' := [(0, .ref x)]) [0] rfl ?_
  refine r_aload_n (pc := 0) dX11_isFull_0 (i := 0) rfl rfl ?_
  refine r_get (pc := 1) (v := .int cnt) fX11_15 dX11_isFull_1 gc0 rfl ?_
  refine r_bipush (pc := 4) (v := 120) dX11_isFull_4 (by decide) ?_
  refine r_icmp_lt (pc := 6) (tgt := 13) dX11_isFull_6 (by decide) (fun c6 => ?_) (fun c6 => ?_)
  · refine r_iconst (pc := 13) (v := 0) dX11_isFull_13 (by decide) ?_
    exact r_zret (pc := 14) dX11_isFull_14 rfl (by decide) (⟨rI (by simp [bI, *]), rfl, fun q e9 h9 => h9⟩)
  · refine r_iconst (pc := 9) (v := 1) dX11_isFull_9 (by decide) ?_
    refine r_goto (pc := 10) (tgt := 14) dX11_isFull_10 (by decide) ?_
    exact r_zret (pc := 14) dX11_isFull_14 rfl (by decide) (⟨rI (by simp [bI, *]), rfl, fun q e9 h9 => h9⟩)
set_option maxHeartbeats 4000000 in
set_option maxRecDepth 100000 in
theorem c_X1_restart {D : va_G} {cI cJ cZ cT : ClassId} {lo b L : Nat} {xs : Nat → Int32} {hp : MH} {n d : Nat} {a af au aw ac al : Nat} {x0 x1 x2 : Int32} {p1 : Int32} {p2 : Bool} (hd0 : 0 ≤ d) (gc0 : hp a = some (.inr (1, [.int x0, .int x1, .int x2, .ref af, .ref au, .ref aw, .ref ac, .ref al]))) : Mt (gG D cI cJ cZ cT lo b L xs) mX1_restart d 0 0 [.ref a, .int p1, .int ((bI p2))] hp n (fun r hp1 n1 => r = none ∧ n1 = n ∧ hp1 a = some (.inr (1, [.int p1, .int ((bI p2)), .int 0, .ref af, .ref au, .ref aw, .ref ac, .ref al])) ∧ ∀ (q : Nat) (e9 : va_E), hp q = some e9 → q ≠ a → hp1 q = some e9) := by
  refine Mt.of rfl (Nat.le_of_ble_eq_true rfl) ?_
  refine Rn.pick (lv' := [(0, .ref a), (1, .int p1), (2, .int ((bI p2)))]) [0, 1, 2] rfl ?_
  refine r_aload_n (pc := 0) dX1_restart_0 (i := 0) rfl rfl ?_
  refine r_iload_n (pc := 1) dX1_restart_1 (i := 1) rfl rfl ?_
  refine w_put (pc := 2) (ty := .int) (fs' := [.int p1, .int x1, .int x2, .ref af, .ref au, .ref aw, .ref ac, .ref al]) fX1_9 tyX1 tyX1_ok nmX1 (by decide +kernel) (Or.inl rfl) dX1_restart_2 gc0 (Nat.le_of_ble_eq_true rfl) (rfl) (rfl) rfl (fun hp_1 h_2 ho_3 => ?_)
  refine r_aload_n (pc := 5) dX1_restart_5 (i := 0) rfl rfl ?_
  refine r_iload_n (pc := 6) dX1_restart_6 (i := 2) rfl rfl ?_
  refine w_put (pc := 7) (ty := .boolean) (fs' := [.int p1, .int ((bI p2)), .int x2, .ref af, .ref au, .ref aw, .ref ac, .ref al]) fX1_15 tyX1 tyX1_ok nmX1 (by decide +kernel) (Or.inl rfl) dX1_restart_7 h_2 (Nat.le_of_ble_eq_true rfl) (bI_n p2) (bI_fit p2) rfl (fun hp_4 h_5 ho_6 => ?_)
  refine r_aload_n (pc := 10) dX1_restart_10 (i := 0) rfl rfl ?_
  refine r_iconst (pc := 11) (v := 0) dX1_restart_11 (by decide) ?_
  refine w_put (pc := 12) (ty := .int) (fs' := [.int p1, .int ((bI p2)), .int 0, .ref af, .ref au, .ref aw, .ref ac, .ref al]) fX1_19 tyX1 tyX1_ok nmX1 (by decide +kernel) (Or.inl rfl) dX1_restart_12 h_5 (Nat.le_of_ble_eq_true rfl) (rfl) (rfl) rfl (fun hp_7 h_8 ho_9 => ?_)
  exact r_vret (pc := 15) dX1_restart_15 rfl (⟨rfl, rfl, h_8, fun q e9 h9 n9_0 => ((ho_9 q n9_0).trans ((ho_6 q n9_0).trans ((ho_3 q n9_0).trans h9)))⟩)
set_option maxHeartbeats 4000000 in
set_option maxRecDepth 100000 in
theorem c_X11_thingAt_n {D : va_G} {cI cJ cZ cT : ClassId} {lo b L : Nat} {xs : Nat → Int32} {hp : MH} {n d : Nat} {x th dr sk sh se pa fl sa : Nat} {cnt rf : Int32} {p1 : Int32} (hd0 : 1 ≤ d) (gc0 : hp x = some (.inr (10, [.ref th, .int cnt, .int rf, .ref dr, .ref sk, .ref sh, .ref se, .ref pa, .ref fl, .ref sa]))) (hno : p1 < 0 ∨ cnt ≤ p1) : Mt (gG D cI cJ cZ cT lo b L xs) mX11_thingAt d 0 0 [.ref x, .int p1] hp n (fun r hp1 n1 => r = some (.null) ∧ n1 = n ∧ ∀ (q : Nat) (e9 : va_E), hp q = some e9 → hp1 q = some e9) := by
  refine Mt.of rfl (Nat.le_of_ble_eq_true rfl) ?_
  refine Rn.pick (lv' := [(0, .ref x), (1, .int p1)]) [0, 1] rfl ?_
  refine r_iload_n (pc := 0) dX11_thingAt_0 (i := 1) rfl rfl ?_
  refine r_aload_n (pc := 1) dX11_thingAt_1 (i := 0) rfl rfl ?_
  refine r_get (pc := 2) (v := .int cnt) fX11_15 dX11_thingAt_2 gc0 rfl ?_
  refine r_callS (pc := 5) (as := [.int p1, .int cnt]) (st := []) kX11_74 dX11_thingAt_5 (c_X11_isNode (d := d - 1) (v := p1) (m := cnt) (by omega)  ) rfl (by omega) (Nat.le_of_ble_eq_true rfl) (by omega) (by omega) rfl (fun r9 hp_1 nn_2 hq_3 => ?_)
  obtain ⟨rfl, hq_3n, ho_4⟩ := hq_3
  subst nn_2
  change Rn _ _ _ 8 _ [.int ((bI (decide (¬ p1 < 0 ∧ ¬ cnt ≤ p1))))] _ _ _ _ _
  refine r_if_eq (pc := 8) (tgt := 26) dX11_thingAt_8 (by decide) (fun c8 => ?_) (fun c8 => ?_)
  · refine r_null (pc := 26) dX11_thingAt_26 ?_
    exact r_aretN (pc := 27) dX11_thingAt_27 rfl (Or.inl ⟨_, rfl⟩) (⟨rfl, rfl, fun q e9 h9 => (ho_4 q e9 h9 )⟩)
  · exact absurd c8 (by rw [bI_f (decide_eq_false (fun h9 => hno.elim h9.1 h9.2))]; decide)
set_option maxHeartbeats 4000000 in
set_option maxRecDepth 100000 in
theorem c_X11_graphAt_n {D : va_G} {cI cJ cZ cT : ClassId} {lo b L : Nat} {xs : Nat → Int32} {hp : MH} {n d : Nat} {x th dr sk sh se pa fl sa : Nat} {cnt rf : Int32} {p1 : Int32} (hd0 : 2 ≤ d) (gc0 : hp x = some (.inr (10, [.ref th, .int cnt, .int rf, .ref dr, .ref sk, .ref sh, .ref se, .ref pa, .ref fl, .ref sa]))) (hno : p1 < 0 ∨ cnt ≤ p1) : Mt (gG D cI cJ cZ cT lo b L xs) mX11_graphAt d 0 0 [.ref x, .int p1] hp n (fun r hp1 n1 => r = some (.null) ∧ n1 = n ∧ ∀ (q : Nat) (e9 : va_E), hp q = some e9 → hp1 q = some e9) := by
  refine Mt.of rfl (Nat.le_of_ble_eq_true rfl) ?_
  refine Rn.pick (lv' := [(0, .ref x), (1, .int p1)]) [0, 1] rfl ?_
  refine r_aload_n (pc := 0) dX11_graphAt_0 (i := 0) rfl rfl ?_
  refine r_iload_n (pc := 1) dX11_graphAt_1 (i := 1) rfl rfl ?_
  refine r_callV (pc := 2) (as := [.int p1]) (st := []) kX11_199 rfl dX11_graphAt_2 gc0 (c_X11_thingAt_n (d := d - 1) (th := th) (cnt := cnt) (rf := rf) (dr := dr) (sk := sk) (sh := sh) (se := se) (pa := pa) (fl := fl) (sa := sa) (x := x) (p1 := p1) (by omega) gc0 (hno)) rfl (by omega) (Nat.le_of_ble_eq_true rfl) (by omega) (by omega) rfl (fun r9 hp_1 nn_2 hq_3 => ?_)
  obtain ⟨rfl, hq_3n, ho_4⟩ := hq_3
  subst nn_2
  change Rn _ _ _ 5 _ [.null] _ _ _ _ _
  refine r_astore_nN (pc := 5) (lv' := [(3, .null), (0, .ref x), (1, .int p1)]) dX11_graphAt_5 (i := 3) rfl (by decide) rfl ?_
  refine r_aload_nN (pc := 6) dX11_graphAt_6 (i := 3) rfl rfl ?_
  refine r_instN (pc := 7) dX11_graphAt_7 ?_
  refine r_if_eq (pc := 10) (tgt := 22) dX11_graphAt_10 (by decide) (fun _ => ?_) (fun c9 => absurd (rfl) c9)
  refine r_null (pc := 22) dX11_graphAt_22 ?_
  exact r_aretN (pc := 23) dX11_graphAt_23 rfl (Or.inl ⟨_, rfl⟩) (⟨rfl, rfl, fun q e9 h9 => (ho_4 q e9 h9 )⟩)
set_option maxHeartbeats 4000000 in
set_option maxRecDepth 100000 in
theorem c_X11_columnAt_n {D : va_G} {cI cJ cZ cT : ClassId} {lo b L : Nat} {xs : Nat → Int32} {hp : MH} {n d : Nat} {x th dr sk sh se pa fl sa : Nat} {cnt rf : Int32} {p1 : Int32} (hd0 : 2 ≤ d) (gc0 : hp x = some (.inr (10, [.ref th, .int cnt, .int rf, .ref dr, .ref sk, .ref sh, .ref se, .ref pa, .ref fl, .ref sa]))) (hno : p1 < 0 ∨ cnt ≤ p1) : Mt (gG D cI cJ cZ cT lo b L xs) mX11_columnAt d 0 0 [.ref x, .int p1] hp n (fun r hp1 n1 => r = some (.null) ∧ n1 = n ∧ ∀ (q : Nat) (e9 : va_E), hp q = some e9 → hp1 q = some e9) := by
  refine Mt.of rfl (Nat.le_of_ble_eq_true rfl) ?_
  refine Rn.pick (lv' := [(0, .ref x), (1, .int p1)]) [0, 1] rfl ?_
  refine r_aload_n (pc := 0) dX11_columnAt_0 (i := 0) rfl rfl ?_
  refine r_iload_n (pc := 1) dX11_columnAt_1 (i := 1) rfl rfl ?_
  refine r_callV (pc := 2) (as := [.int p1]) (st := []) kX11_199 rfl dX11_columnAt_2 gc0 (c_X11_thingAt_n (d := d - 1) (th := th) (cnt := cnt) (rf := rf) (dr := dr) (sk := sk) (sh := sh) (se := se) (pa := pa) (fl := fl) (sa := sa) (x := x) (p1 := p1) (by omega) gc0 (hno)) rfl (by omega) (Nat.le_of_ble_eq_true rfl) (by omega) (by omega) rfl (fun r9 hp_1 nn_2 hq_3 => ?_)
  obtain ⟨rfl, hq_3n, ho_4⟩ := hq_3
  subst nn_2
  change Rn _ _ _ 5 _ [.null] _ _ _ _ _
  refine r_astore_nN (pc := 5) (lv' := [(3, .null), (0, .ref x), (1, .int p1)]) dX11_columnAt_5 (i := 3) rfl (by decide) rfl ?_
  refine r_aload_nN (pc := 6) dX11_columnAt_6 (i := 3) rfl rfl ?_
  refine r_instN (pc := 7) dX11_columnAt_7 ?_
  refine r_if_eq (pc := 10) (tgt := 22) dX11_columnAt_10 (by decide) (fun _ => ?_) (fun c9 => absurd (rfl) c9)
  refine r_null (pc := 22) dX11_columnAt_22 ?_
  exact r_aretN (pc := 23) dX11_columnAt_23 rfl (Or.inl ⟨_, rfl⟩) (⟨rfl, rfl, fun q e9 h9 => (ho_4 q e9 h9 )⟩)
set_option maxHeartbeats 4000000 in
set_option maxRecDepth 100000 in
theorem c_X11_waysAt_n {D : va_G} {cI cJ cZ cT : ClassId} {lo b L : Nat} {xs : Nat → Int32} {hp : MH} {n d : Nat} {x th dr sk sh se pa fl sa : Nat} {cnt rf : Int32} {p1 : Int32} (hd0 : 2 ≤ d) (gc0 : hp x = some (.inr (10, [.ref th, .int cnt, .int rf, .ref dr, .ref sk, .ref sh, .ref se, .ref pa, .ref fl, .ref sa]))) (hno : p1 < 0 ∨ cnt ≤ p1) : Mt (gG D cI cJ cZ cT lo b L xs) mX11_waysAt d 0 0 [.ref x, .int p1] hp n (fun r hp1 n1 => r = some (.null) ∧ n1 = n ∧ ∀ (q : Nat) (e9 : va_E), hp q = some e9 → hp1 q = some e9) := by
  refine Mt.of rfl (Nat.le_of_ble_eq_true rfl) ?_
  refine Rn.pick (lv' := [(0, .ref x), (1, .int p1)]) [0, 1] rfl ?_
  refine r_aload_n (pc := 0) dX11_waysAt_0 (i := 0) rfl rfl ?_
  refine r_iload_n (pc := 1) dX11_waysAt_1 (i := 1) rfl rfl ?_
  refine r_callV (pc := 2) (as := [.int p1]) (st := []) kX11_199 rfl dX11_waysAt_2 gc0 (c_X11_thingAt_n (d := d - 1) (th := th) (cnt := cnt) (rf := rf) (dr := dr) (sk := sk) (sh := sh) (se := se) (pa := pa) (fl := fl) (sa := sa) (x := x) (p1 := p1) (by omega) gc0 (hno)) rfl (by omega) (Nat.le_of_ble_eq_true rfl) (by omega) (by omega) rfl (fun r9 hp_1 nn_2 hq_3 => ?_)
  obtain ⟨rfl, hq_3n, ho_4⟩ := hq_3
  subst nn_2
  change Rn _ _ _ 5 _ [.null] _ _ _ _ _
  refine r_astore_nN (pc := 5) (lv' := [(3, .null), (0, .ref x), (1, .int p1)]) dX11_waysAt_5 (i := 3) rfl (by decide) rfl ?_
  refine r_aload_nN (pc := 6) dX11_waysAt_6 (i := 3) rfl rfl ?_
  refine r_instN (pc := 7) dX11_waysAt_7 ?_
  refine r_if_eq (pc := 10) (tgt := 22) dX11_waysAt_10 (by decide) (fun _ => ?_) (fun c9 => absurd (rfl) c9)
  refine r_null (pc := 22) dX11_waysAt_22 ?_
  exact r_aretN (pc := 23) dX11_waysAt_23 rfl (Or.inl ⟨_, rfl⟩) (⟨rfl, rfl, fun q e9 h9 => (ho_4 q e9 h9 )⟩)
set_option maxHeartbeats 4000000 in
set_option maxRecDepth 100000 in
theorem c_X11_partsAt_n {D : va_G} {cI cJ cZ cT : ClassId} {lo b L : Nat} {xs : Nat → Int32} {hp : MH} {n d : Nat} {x th dr sk sh se pa fl sa : Nat} {cnt rf : Int32} {p1 : Int32} (hd0 : 2 ≤ d) (gc0 : hp x = some (.inr (10, [.ref th, .int cnt, .int rf, .ref dr, .ref sk, .ref sh, .ref se, .ref pa, .ref fl, .ref sa]))) (hno : p1 < 0 ∨ cnt ≤ p1) : Mt (gG D cI cJ cZ cT lo b L xs) mX11_partsAt d 0 0 [.ref x, .int p1] hp n (fun r hp1 n1 => r = some (.null) ∧ n1 = n ∧ ∀ (q : Nat) (e9 : va_E), hp q = some e9 → hp1 q = some e9) := by
  refine Mt.of rfl (Nat.le_of_ble_eq_true rfl) ?_
  refine Rn.pick (lv' := [(0, .ref x), (1, .int p1)]) [0, 1] rfl ?_
  refine r_aload_n (pc := 0) dX11_partsAt_0 (i := 0) rfl rfl ?_
  refine r_iload_n (pc := 1) dX11_partsAt_1 (i := 1) rfl rfl ?_
  refine r_callV (pc := 2) (as := [.int p1]) (st := []) kX11_199 rfl dX11_partsAt_2 gc0 (c_X11_thingAt_n (d := d - 1) (th := th) (cnt := cnt) (rf := rf) (dr := dr) (sk := sk) (sh := sh) (se := se) (pa := pa) (fl := fl) (sa := sa) (x := x) (p1 := p1) (by omega) gc0 (hno)) rfl (by omega) (Nat.le_of_ble_eq_true rfl) (by omega) (by omega) rfl (fun r9 hp_1 nn_2 hq_3 => ?_)
  obtain ⟨rfl, hq_3n, ho_4⟩ := hq_3
  subst nn_2
  change Rn _ _ _ 5 _ [.null] _ _ _ _ _
  refine r_astore_nN (pc := 5) (lv' := [(3, .null), (0, .ref x), (1, .int p1)]) dX11_partsAt_5 (i := 3) rfl (by decide) rfl ?_
  refine r_aload_nN (pc := 6) dX11_partsAt_6 (i := 3) rfl rfl ?_
  refine r_instN (pc := 7) dX11_partsAt_7 ?_
  refine r_if_eq (pc := 10) (tgt := 22) dX11_partsAt_10 (by decide) (fun _ => ?_) (fun c9 => absurd (rfl) c9)
  refine r_null (pc := 22) dX11_partsAt_22 ?_
  exact r_aretN (pc := 23) dX11_partsAt_23 rfl (Or.inl ⟨_, rfl⟩) (⟨rfl, rfl, fun q e9 h9 => (ho_4 q e9 h9 )⟩)
set_option maxHeartbeats 4000000 in
set_option maxRecDepth 100000 in
theorem c_X11_whyNot_n {D : va_G} {cI cJ cZ cT : ClassId} {lo b L : Nat} {xs : Nat → Int32} {hp : MH} {n d : Nat} {x th dr sk sh se pa fl sa : Nat} {cnt rf : Int32} {p1 : Int32} (hd0 : 2 ≤ d) (gc0 : hp x = some (.inr (10, [.ref th, .int cnt, .int rf, .ref dr, .ref sk, .ref sh, .ref se, .ref pa, .ref fl, .ref sa]))) (hno : p1 < 0 ∨ cnt ≤ p1) : Mt (gG D cI cJ cZ cT lo b L xs) mX11_whyNot d 0 0 [.ref x, .int p1] hp n (fun r hp1 n1 => r = some (.int ((-1))) ∧ n1 = n ∧ ∀ (q : Nat) (e9 : va_E), hp q = some e9 → hp1 q = some e9) := by
  refine Mt.of rfl (Nat.le_of_ble_eq_true rfl) ?_
  refine Rn.pick (lv' := [(0, .ref x), (1, .int p1)]) [0, 1] rfl ?_
  refine r_aload_n (pc := 0) dX11_whyNot_0 (i := 0) rfl rfl ?_
  refine r_iload_n (pc := 1) dX11_whyNot_1 (i := 1) rfl rfl ?_
  refine r_callV (pc := 2) (as := [.int p1]) (st := []) kX11_199 rfl dX11_whyNot_2 gc0 (c_X11_thingAt_n (d := d - 1) (th := th) (cnt := cnt) (rf := rf) (dr := dr) (sk := sk) (sh := sh) (se := se) (pa := pa) (fl := fl) (sa := sa) (x := x) (p1 := p1) (by omega) gc0 (hno)) rfl (by omega) (Nat.le_of_ble_eq_true rfl) (by omega) (by omega) rfl (fun r9 hp_1 nn_2 hq_3 => ?_)
  obtain ⟨rfl, hq_3n, ho_4⟩ := hq_3
  subst nn_2
  change Rn _ _ _ 5 _ [.null] _ _ _ _ _
  refine r_ifnonnullN (pc := 5) dX11_whyNot_5 ?_
  refine r_iconst (pc := 8) (v := (-1)) dX11_whyNot_8 (by decide) ?_
  refine r_goto (pc := 9) (tgt := 14) dX11_whyNot_9 (by decide) ?_
  exact r_iret (pc := 14) dX11_whyNot_14 rfl (⟨rfl, rfl, fun q e9 h9 => (ho_4 q e9 h9 )⟩)
set_option maxHeartbeats 4000000 in
set_option maxRecDepth 100000 in
theorem c_X11_whyNotBoth_n {D : va_G} {cI cJ cZ cT : ClassId} {lo b L : Nat} {xs : Nat → Int32} {hp : MH} {n d : Nat} {x th dr sk sh se pa fl sa : Nat} {cnt rf : Int32} {p1 p2 : Int32} (hd0 : 2 ≤ d) (gc0 : hp x = some (.inr (10, [.ref th, .int cnt, .int rf, .ref dr, .ref sk, .ref sh, .ref se, .ref pa, .ref fl, .ref sa]))) (hno : p1 < 0 ∨ cnt ≤ p1) : Mt (gG D cI cJ cZ cT lo b L xs) mX11_whyNotBoth d 0 0 [.ref x, .int p1, .int p2] hp n (fun r hp1 n1 => r = some (.int ((-1))) ∧ n1 = n ∧ ∀ (q : Nat) (e9 : va_E), hp q = some e9 → hp1 q = some e9) := by
  refine Mt.of rfl (Nat.le_of_ble_eq_true rfl) ?_
  refine Rn.pick (lv' := [(0, .ref x), (1, .int p1), (2, .int p2)]) [0, 1, 2] rfl ?_
  refine r_aload_n (pc := 0) dX11_whyNotBoth_0 (i := 0) rfl rfl ?_
  refine r_iload_n (pc := 1) dX11_whyNotBoth_1 (i := 1) rfl rfl ?_
  refine r_callV (pc := 2) (as := [.int p1]) (st := []) kX11_199 rfl dX11_whyNotBoth_2 gc0 (c_X11_thingAt_n (d := d - 1) (th := th) (cnt := cnt) (rf := rf) (dr := dr) (sk := sk) (sh := sh) (se := se) (pa := pa) (fl := fl) (sa := sa) (x := x) (p1 := p1) (by omega) gc0 (hno)) rfl (by omega) (Nat.le_of_ble_eq_true rfl) (by omega) (by omega) rfl (fun r9 hp_1 nn_2 hq_3 => ?_)
  obtain ⟨rfl, hq_3n, ho_4⟩ := hq_3
  subst nn_2
  change Rn _ _ _ 5 _ [.null] _ _ _ _ _
  refine r_ifnullN (pc := 5) (tgt := 16) dX11_whyNotBoth_5 (by decide) ?_
  refine r_iconst (pc := 16) (v := (-1)) dX11_whyNotBoth_16 (by decide) ?_
  refine r_goto (pc := 17) (tgt := 22) dX11_whyNotBoth_17 (by decide) ?_
  exact r_iret (pc := 22) dX11_whyNotBoth_22 rfl (⟨rfl, rfl, fun q e9 h9 => (ho_4 q e9 h9 )⟩)
