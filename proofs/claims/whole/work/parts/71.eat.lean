set_option maxHeartbeats 4000000 in
set_option maxRecDepth 100000 in
theorem c_X11_thingAt_y {D : va_G} {cI cJ cZ cT : ClassId} {lo b L : Nat} {xs : Nat → Int32} {hp : MH} {n d : Nat} {x th dr sk sh se pa fl sa : Nat} {rf : Int32} {c h t : Nat} {f : Nat → Option Nat} (hd0 : 1 ≤ d) (gc0 : hp x = some (.inr (10, [.ref th, .int ((nI c)), .int rf, .ref dr, .ref sk, .ref sh, .ref se, .ref pa, .ref fl, .ref sa]))) (gc1 : hp th = some (.inl (cT, 120, .inr (.inr (.inr (.inr (f))))))) (hh : h < c) (hc : c ≤ 120) (hf : f h = some t) : Mt (gG D cI cJ cZ cT lo b L xs) mX11_thingAt d 0 0 [.ref x, .int ((nI h))] hp n (fun r hp1 n1 => r = some (.ref t) ∧ n1 = n ∧ ∀ (q : Nat) (e9 : va_E), hp q = some e9 → hp1 q = some e9) := by
  refine Mt.of rfl (Nat.le_of_ble_eq_true rfl) ?_
  refine Rn.pick (lv' := [(0, .ref x), (1, .int ((nI h)))]) [0, 1] rfl ?_
  refine r_iload_n (pc := 0) dX11_thingAt_0 (i := 1) rfl rfl ?_
  refine r_aload_n (pc := 1) dX11_thingAt_1 (i := 0) rfl rfl ?_
  refine r_get (pc := 2) (v := .int ((nI c))) fX11_15 dX11_thingAt_2 gc0 rfl ?_
  refine r_callS (pc := 5) (as := [.int ((nI h)), .int ((nI c))]) (st := []) kX11_74 dX11_thingAt_5 (c_X11_isNode (d := d - 1) (v := (nI h)) (m := (nI c)) (by omega)  ) rfl (by omega) (Nat.le_of_ble_eq_true rfl) (by omega) (by omega) rfl (fun r9 hp_1 nn_2 hq_3 => ?_)
  obtain ⟨rfl, hq_3n, ho_4⟩ := hq_3
  subst nn_2
  change Rn _ _ _ 8 _ [.int ((bI (decide (¬ (nI h) < 0 ∧ ¬ (nI c) ≤ (nI h)))))] _ _ _ _ _
  refine r_if_eq (pc := 8) (tgt := 26) dX11_thingAt_8 (by decide) (fun c9 => absurd c9 (by rw [bI_t (decide_eq_true ⟨nI_pos (by omega), nI_ge hh (by omega)⟩)]; decide)) (fun _ => ?_)
  refine r_iload_n (pc := 11) dX11_thingAt_11 (i := 1) rfl rfl ?_
  refine r_bipush (pc := 12) (v := 120) dX11_thingAt_12 (by decide) ?_
  refine r_icmp_ge (pc := 14) (tgt := 26) dX11_thingAt_14 (by decide) (fun c9 => absurd c9 (nI_ge (b := 120) (by omega) (by omega))) (fun _ => ?_)
  refine r_aload_n (pc := 17) dX11_thingAt_17 (i := 0) rfl rfl ?_
  have h_5 : hp_1 x = some (.inr (10, [.ref th, .int ((nI c)), .int rf, .ref dr, .ref sk, .ref sh, .ref se, .ref pa, .ref fl, .ref sa])) := (ho_4 x _ gc0)
  refine r_get (pc := 18) (v := .ref th) fX11_11 dX11_thingAt_18 h_5 rfl ?_
  refine r_iload_n (pc := 21) dX11_thingAt_21 (i := 1) rfl rfl ?_
  have h_6 : hp_1 th = some (.inl (cT, 120, .inr (.inr (.inr (.inr (f)))))) := (ho_4 th _ gc1)
  refine w_aald (pc := 22) (t0 := 3) (v := .ref t) dX11_thingAt_22 rfl h_6 (vp_in_nI (by omega) (by omega)) (by rw [nI_clamp (by omega), hf]; rfl) ?_
  refine r_goto (pc := 23) (tgt := 27) dX11_thingAt_23 (by decide) ?_
  exact r_aret (pc := 27) dX11_thingAt_27 rfl (Or.inl ⟨_, rfl⟩) (⟨rfl, rfl, fun q e9 h9 => (ho_4 q e9 h9 )⟩)
set_option maxHeartbeats 4000000 in
set_option maxRecDepth 100000 in
theorem c_X11_graphAt_X0 {D : va_G} {cI cJ cZ cT : ClassId} {lo b L : Nat} {xs : Nat → Int32} {hp : MH} {n d : Nat} {x th dr sk sh se pa fl sa : Nat} {rf : Int32} {c h t : Nat} {f : Nat → Option Nat} {v0 v1 : Value} (hd0 : 2 ≤ d) (gc0 : hp x = some (.inr (10, [.ref th, .int ((nI c)), .int rf, .ref dr, .ref sk, .ref sh, .ref se, .ref pa, .ref fl, .ref sa]))) (gc1 : hp th = some (.inl (cT, 120, .inr (.inr (.inr (.inr (f))))))) (gc2 : hp t = some (.inr (0, [v0, v1]))) (hh : h < c) (hc : c ≤ 120) (hf : f h = some t) : Mt (gG D cI cJ cZ cT lo b L xs) mX11_graphAt d 0 0 [.ref x, .int ((nI h))] hp n (fun r hp1 n1 => r = some (.null) ∧ n1 = n ∧ ∀ (q : Nat) (e9 : va_E), hp q = some e9 → hp1 q = some e9) := by
  refine Mt.of rfl (Nat.le_of_ble_eq_true rfl) ?_
  refine Rn.pick (lv' := [(0, .ref x), (1, .int ((nI h)))]) [0, 1] rfl ?_
  refine r_aload_n (pc := 0) dX11_graphAt_0 (i := 0) rfl rfl ?_
  refine r_iload_n (pc := 1) dX11_graphAt_1 (i := 1) rfl rfl ?_
  refine r_callV (pc := 2) (as := [.int ((nI h))]) (st := []) kX11_199 rfl dX11_graphAt_2 gc0 (c_X11_thingAt_y (d := d - 1) (th := th) (rf := rf) (dr := dr) (sk := sk) (sh := sh) (se := se) (pa := pa) (fl := fl) (sa := sa) (x := x) (c := c) (h := h) (t := t) (f := f) (by omega) gc0 gc1 (hh) (hc) (hf)) rfl (by omega) (Nat.le_of_ble_eq_true rfl) (by omega) (by omega) rfl (fun r9 hp_1 nn_2 hq_3 => ?_)
  obtain ⟨rfl, hq_3n, ho_4⟩ := hq_3
  subst nn_2
  change Rn _ _ _ 5 _ [.ref t] _ _ _ _ _
  refine r_astore_n (pc := 5) (lv' := [(3, .ref t), (0, .ref x), (1, .int ((nI h)))]) dX11_graphAt_5 (i := 3) rfl (by decide) rfl ?_
  refine r_aload_n (pc := 6) dX11_graphAt_6 (i := 3) rfl rfl ?_
  have h_5 : hp_1 t = some (.inr (0, [v0, v1])) := (ho_4 t _ gc2)
  refine r_instNo (pc := 7) (q := (RX0, TX0, 2)) (nm := "GraphEngine$Graph") dX11_graphAt_7 rfl h_5 (tb_t (k := 248) (w := Cond.classLink RX11 97 "GraphEngine$Graph") (by decide +kernel)) (show (RX0, "GraphEngine$Graph") ∈ ncs by decide +kernel) ?_
  refine r_if_eq (pc := 10) (tgt := 22) dX11_graphAt_10 (by decide) (fun _ => ?_) (fun c9 => absurd (rfl) c9)
  refine r_null (pc := 22) dX11_graphAt_22 ?_
  exact r_aretN (pc := 23) dX11_graphAt_23 rfl (Or.inl ⟨_, rfl⟩) (⟨rfl, rfl, fun q e9 h9 => (ho_4 q e9 h9 )⟩)
set_option maxHeartbeats 4000000 in
set_option maxRecDepth 100000 in
theorem c_X11_graphAt_X3 {D : va_G} {cI cJ cZ cT : ClassId} {lo b L : Nat} {xs : Nat → Int32} {hp : MH} {n d : Nat} {x th dr sk sh se pa fl sa : Nat} {rf : Int32} {c h t : Nat} {f : Nat → Option Nat} {v0 v1 v2 v3 v4 v5 v6 v7 v8 v9 v10 v11 v12 v13 : Value} (hd0 : 2 ≤ d) (gc0 : hp x = some (.inr (10, [.ref th, .int ((nI c)), .int rf, .ref dr, .ref sk, .ref sh, .ref se, .ref pa, .ref fl, .ref sa]))) (gc1 : hp th = some (.inl (cT, 120, .inr (.inr (.inr (.inr (f))))))) (gc2 : hp t = some (.inr (3, [v0, v1, v2, v3, v4, v5, v6, v7, v8, v9, v10, v11, v12, v13]))) (hh : h < c) (hc : c ≤ 120) (hf : f h = some t) : Mt (gG D cI cJ cZ cT lo b L xs) mX11_graphAt d 0 0 [.ref x, .int ((nI h))] hp n (fun r hp1 n1 => r = some (.ref t) ∧ n1 = n ∧ ∀ (q : Nat) (e9 : va_E), hp q = some e9 → hp1 q = some e9) := by
  refine Mt.of rfl (Nat.le_of_ble_eq_true rfl) ?_
  refine Rn.pick (lv' := [(0, .ref x), (1, .int ((nI h)))]) [0, 1] rfl ?_
  refine r_aload_n (pc := 0) dX11_graphAt_0 (i := 0) rfl rfl ?_
  refine r_iload_n (pc := 1) dX11_graphAt_1 (i := 1) rfl rfl ?_
  refine r_callV (pc := 2) (as := [.int ((nI h))]) (st := []) kX11_199 rfl dX11_graphAt_2 gc0 (c_X11_thingAt_y (d := d - 1) (th := th) (rf := rf) (dr := dr) (sk := sk) (sh := sh) (se := se) (pa := pa) (fl := fl) (sa := sa) (x := x) (c := c) (h := h) (t := t) (f := f) (by omega) gc0 gc1 (hh) (hc) (hf)) rfl (by omega) (Nat.le_of_ble_eq_true rfl) (by omega) (by omega) rfl (fun r9 hp_1 nn_2 hq_3 => ?_)
  obtain ⟨rfl, hq_3n, ho_4⟩ := hq_3
  subst nn_2
  change Rn _ _ _ 5 _ [.ref t] _ _ _ _ _
  refine r_astore_n (pc := 5) (lv' := [(3, .ref t), (0, .ref x), (1, .int ((nI h)))]) dX11_graphAt_5 (i := 3) rfl (by decide) rfl ?_
  refine r_aload_n (pc := 6) dX11_graphAt_6 (i := 3) rfl rfl ?_
  have h_5 : hp_1 t = some (.inr (3, [v0, v1, v2, v3, v4, v5, v6, v7, v8, v9, v10, v11, v12, v13])) := (ho_4 t _ gc2)
  refine r_instS (pc := 7) (q := (RX3, TX3, 14)) (nm := "GraphEngine$Graph") dX11_graphAt_7 rfl h_5 (tb_t (k := 248) (w := Cond.classLink RX11 97 "GraphEngine$Graph") (by decide +kernel)) rfl ?_
  refine r_if_eq (pc := 10) (tgt := 22) dX11_graphAt_10 (by decide) (fun c9 => absurd c9 (by decide)) (fun _ => ?_)
  refine r_aload_n (pc := 13) dX11_graphAt_13 (i := 3) rfl rfl ?_
  refine r_castS (pc := 14) (q := (RX3, TX3, 14)) (nm := "GraphEngine$Graph") dX11_graphAt_14 rfl h_5 (tb_t (k := 248) (w := Cond.classLink RX11 97 "GraphEngine$Graph") (by decide +kernel)) rfl ?_
  refine r_astore_n (pc := 17) (lv' := [(2, .ref t), (3, .ref t), (0, .ref x), (1, .int ((nI h)))]) dX11_graphAt_17 (i := 2) rfl (by decide) rfl ?_
  refine r_aload_n (pc := 18) dX11_graphAt_18 (i := 2) rfl rfl ?_
  refine r_goto (pc := 19) (tgt := 23) dX11_graphAt_19 (by decide) ?_
  exact r_aret (pc := 23) dX11_graphAt_23 rfl (Or.inl ⟨_, rfl⟩) (⟨rfl, rfl, fun q e9 h9 => (ho_4 q e9 h9 )⟩)
set_option maxHeartbeats 4000000 in
set_option maxRecDepth 100000 in
theorem c_X11_graphAt_X5 {D : va_G} {cI cJ cZ cT : ClassId} {lo b L : Nat} {xs : Nat → Int32} {hp : MH} {n d : Nat} {x th dr sk sh se pa fl sa : Nat} {rf : Int32} {c h t : Nat} {f : Nat → Option Nat} {v0 v1 v2 v3 : Value} (hd0 : 2 ≤ d) (gc0 : hp x = some (.inr (10, [.ref th, .int ((nI c)), .int rf, .ref dr, .ref sk, .ref sh, .ref se, .ref pa, .ref fl, .ref sa]))) (gc1 : hp th = some (.inl (cT, 120, .inr (.inr (.inr (.inr (f))))))) (gc2 : hp t = some (.inr (5, [v0, v1, v2, v3]))) (hh : h < c) (hc : c ≤ 120) (hf : f h = some t) : Mt (gG D cI cJ cZ cT lo b L xs) mX11_graphAt d 0 0 [.ref x, .int ((nI h))] hp n (fun r hp1 n1 => r = some (.null) ∧ n1 = n ∧ ∀ (q : Nat) (e9 : va_E), hp q = some e9 → hp1 q = some e9) := by
  refine Mt.of rfl (Nat.le_of_ble_eq_true rfl) ?_
  refine Rn.pick (lv' := [(0, .ref x), (1, .int ((nI h)))]) [0, 1] rfl ?_
  refine r_aload_n (pc := 0) dX11_graphAt_0 (i := 0) rfl rfl ?_
  refine r_iload_n (pc := 1) dX11_graphAt_1 (i := 1) rfl rfl ?_
  refine r_callV (pc := 2) (as := [.int ((nI h))]) (st := []) kX11_199 rfl dX11_graphAt_2 gc0 (c_X11_thingAt_y (d := d - 1) (th := th) (rf := rf) (dr := dr) (sk := sk) (sh := sh) (se := se) (pa := pa) (fl := fl) (sa := sa) (x := x) (c := c) (h := h) (t := t) (f := f) (by omega) gc0 gc1 (hh) (hc) (hf)) rfl (by omega) (Nat.le_of_ble_eq_true rfl) (by omega) (by omega) rfl (fun r9 hp_1 nn_2 hq_3 => ?_)
  obtain ⟨rfl, hq_3n, ho_4⟩ := hq_3
  subst nn_2
  change Rn _ _ _ 5 _ [.ref t] _ _ _ _ _
  refine r_astore_n (pc := 5) (lv' := [(3, .ref t), (0, .ref x), (1, .int ((nI h)))]) dX11_graphAt_5 (i := 3) rfl (by decide) rfl ?_
  refine r_aload_n (pc := 6) dX11_graphAt_6 (i := 3) rfl rfl ?_
  have h_5 : hp_1 t = some (.inr (5, [v0, v1, v2, v3])) := (ho_4 t _ gc2)
  refine r_instNo (pc := 7) (q := (RX5, TX5, 4)) (nm := "GraphEngine$Graph") dX11_graphAt_7 rfl h_5 (tb_t (k := 248) (w := Cond.classLink RX11 97 "GraphEngine$Graph") (by decide +kernel)) (show (RX5, "GraphEngine$Graph") ∈ ncs by decide +kernel) ?_
  refine r_if_eq (pc := 10) (tgt := 22) dX11_graphAt_10 (by decide) (fun _ => ?_) (fun c9 => absurd (rfl) c9)
  refine r_null (pc := 22) dX11_graphAt_22 ?_
  exact r_aretN (pc := 23) dX11_graphAt_23 rfl (Or.inl ⟨_, rfl⟩) (⟨rfl, rfl, fun q e9 h9 => (ho_4 q e9 h9 )⟩)
set_option maxHeartbeats 4000000 in
set_option maxRecDepth 100000 in
theorem c_X11_graphAt_X10 {D : va_G} {cI cJ cZ cT : ClassId} {lo b L : Nat} {xs : Nat → Int32} {hp : MH} {n d : Nat} {x th dr sk sh se pa fl sa : Nat} {rf : Int32} {c h t : Nat} {f : Nat → Option Nat} {v0 v1 v2 v3 v4 v5 : Value} (hd0 : 2 ≤ d) (gc0 : hp x = some (.inr (10, [.ref th, .int ((nI c)), .int rf, .ref dr, .ref sk, .ref sh, .ref se, .ref pa, .ref fl, .ref sa]))) (gc1 : hp th = some (.inl (cT, 120, .inr (.inr (.inr (.inr (f))))))) (gc2 : hp t = some (.inr (9, [v0, v1, v2, v3, v4, v5]))) (hh : h < c) (hc : c ≤ 120) (hf : f h = some t) : Mt (gG D cI cJ cZ cT lo b L xs) mX11_graphAt d 0 0 [.ref x, .int ((nI h))] hp n (fun r hp1 n1 => r = some (.null) ∧ n1 = n ∧ ∀ (q : Nat) (e9 : va_E), hp q = some e9 → hp1 q = some e9) := by
  refine Mt.of rfl (Nat.le_of_ble_eq_true rfl) ?_
  refine Rn.pick (lv' := [(0, .ref x), (1, .int ((nI h)))]) [0, 1] rfl ?_
  refine r_aload_n (pc := 0) dX11_graphAt_0 (i := 0) rfl rfl ?_
  refine r_iload_n (pc := 1) dX11_graphAt_1 (i := 1) rfl rfl ?_
  refine r_callV (pc := 2) (as := [.int ((nI h))]) (st := []) kX11_199 rfl dX11_graphAt_2 gc0 (c_X11_thingAt_y (d := d - 1) (th := th) (rf := rf) (dr := dr) (sk := sk) (sh := sh) (se := se) (pa := pa) (fl := fl) (sa := sa) (x := x) (c := c) (h := h) (t := t) (f := f) (by omega) gc0 gc1 (hh) (hc) (hf)) rfl (by omega) (Nat.le_of_ble_eq_true rfl) (by omega) (by omega) rfl (fun r9 hp_1 nn_2 hq_3 => ?_)
  obtain ⟨rfl, hq_3n, ho_4⟩ := hq_3
  subst nn_2
  change Rn _ _ _ 5 _ [.ref t] _ _ _ _ _
  refine r_astore_n (pc := 5) (lv' := [(3, .ref t), (0, .ref x), (1, .int ((nI h)))]) dX11_graphAt_5 (i := 3) rfl (by decide) rfl ?_
  refine r_aload_n (pc := 6) dX11_graphAt_6 (i := 3) rfl rfl ?_
  have h_5 : hp_1 t = some (.inr (9, [v0, v1, v2, v3, v4, v5])) := (ho_4 t _ gc2)
  refine r_instNo (pc := 7) (q := (RX10, TX10, 6)) (nm := "GraphEngine$Graph") dX11_graphAt_7 rfl h_5 (tb_t (k := 248) (w := Cond.classLink RX11 97 "GraphEngine$Graph") (by decide +kernel)) (show (RX10, "GraphEngine$Graph") ∈ ncs by decide +kernel) ?_
  refine r_if_eq (pc := 10) (tgt := 22) dX11_graphAt_10 (by decide) (fun _ => ?_) (fun c9 => absurd (rfl) c9)
  refine r_null (pc := 22) dX11_graphAt_22 ?_
  exact r_aretN (pc := 23) dX11_graphAt_23 rfl (Or.inl ⟨_, rfl⟩) (⟨rfl, rfl, fun q e9 h9 => (ho_4 q e9 h9 )⟩)
set_option maxHeartbeats 4000000 in
set_option maxRecDepth 100000 in
theorem c_X11_columnAt_X0 {D : va_G} {cI cJ cZ cT : ClassId} {lo b L : Nat} {xs : Nat → Int32} {hp : MH} {n d : Nat} {x th dr sk sh se pa fl sa : Nat} {rf : Int32} {c h t : Nat} {f : Nat → Option Nat} {v0 v1 : Value} (hd0 : 2 ≤ d) (gc0 : hp x = some (.inr (10, [.ref th, .int ((nI c)), .int rf, .ref dr, .ref sk, .ref sh, .ref se, .ref pa, .ref fl, .ref sa]))) (gc1 : hp th = some (.inl (cT, 120, .inr (.inr (.inr (.inr (f))))))) (gc2 : hp t = some (.inr (0, [v0, v1]))) (hh : h < c) (hc : c ≤ 120) (hf : f h = some t) : Mt (gG D cI cJ cZ cT lo b L xs) mX11_columnAt d 0 0 [.ref x, .int ((nI h))] hp n (fun r hp1 n1 => r = some (.ref t) ∧ n1 = n ∧ ∀ (q : Nat) (e9 : va_E), hp q = some e9 → hp1 q = some e9) := by
  refine Mt.of rfl (Nat.le_of_ble_eq_true rfl) ?_
  refine Rn.pick (lv' := [(0, .ref x), (1, .int ((nI h)))]) [0, 1] rfl ?_
  refine r_aload_n (pc := 0) dX11_columnAt_0 (i := 0) rfl rfl ?_
  refine r_iload_n (pc := 1) dX11_columnAt_1 (i := 1) rfl rfl ?_
  refine r_callV (pc := 2) (as := [.int ((nI h))]) (st := []) kX11_199 rfl dX11_columnAt_2 gc0 (c_X11_thingAt_y (d := d - 1) (th := th) (rf := rf) (dr := dr) (sk := sk) (sh := sh) (se := se) (pa := pa) (fl := fl) (sa := sa) (x := x) (c := c) (h := h) (t := t) (f := f) (by omega) gc0 gc1 (hh) (hc) (hf)) rfl (by omega) (Nat.le_of_ble_eq_true rfl) (by omega) (by omega) rfl (fun r9 hp_1 nn_2 hq_3 => ?_)
  obtain ⟨rfl, hq_3n, ho_4⟩ := hq_3
  subst nn_2
  change Rn _ _ _ 5 _ [.ref t] _ _ _ _ _
  refine r_astore_n (pc := 5) (lv' := [(3, .ref t), (0, .ref x), (1, .int ((nI h)))]) dX11_columnAt_5 (i := 3) rfl (by decide) rfl ?_
  refine r_aload_n (pc := 6) dX11_columnAt_6 (i := 3) rfl rfl ?_
  have h_5 : hp_1 t = some (.inr (0, [v0, v1])) := (ho_4 t _ gc2)
  refine r_instS (pc := 7) (q := (RX0, TX0, 2)) (nm := "GraphEngine$Column") dX11_columnAt_7 rfl h_5 (tb_t (k := 524) (w := Cond.classLink RX11 151 "GraphEngine$Column") (by decide +kernel)) rfl ?_
  refine r_if_eq (pc := 10) (tgt := 22) dX11_columnAt_10 (by decide) (fun c9 => absurd c9 (by decide)) (fun _ => ?_)
  refine r_aload_n (pc := 13) dX11_columnAt_13 (i := 3) rfl rfl ?_
  refine r_castS (pc := 14) (q := (RX0, TX0, 2)) (nm := "GraphEngine$Column") dX11_columnAt_14 rfl h_5 (tb_t (k := 524) (w := Cond.classLink RX11 151 "GraphEngine$Column") (by decide +kernel)) rfl ?_
  refine r_astore_n (pc := 17) (lv' := [(2, .ref t), (3, .ref t), (0, .ref x), (1, .int ((nI h)))]) dX11_columnAt_17 (i := 2) rfl (by decide) rfl ?_
  refine r_aload_n (pc := 18) dX11_columnAt_18 (i := 2) rfl rfl ?_
  refine r_goto (pc := 19) (tgt := 23) dX11_columnAt_19 (by decide) ?_
  exact r_aret (pc := 23) dX11_columnAt_23 rfl (Or.inl ⟨_, rfl⟩) (⟨rfl, rfl, fun q e9 h9 => (ho_4 q e9 h9 )⟩)
set_option maxHeartbeats 4000000 in
set_option maxRecDepth 100000 in
theorem c_X11_columnAt_X3 {D : va_G} {cI cJ cZ cT : ClassId} {lo b L : Nat} {xs : Nat → Int32} {hp : MH} {n d : Nat} {x th dr sk sh se pa fl sa : Nat} {rf : Int32} {c h t : Nat} {f : Nat → Option Nat} {v0 v1 v2 v3 v4 v5 v6 v7 v8 v9 v10 v11 v12 v13 : Value} (hd0 : 2 ≤ d) (gc0 : hp x = some (.inr (10, [.ref th, .int ((nI c)), .int rf, .ref dr, .ref sk, .ref sh, .ref se, .ref pa, .ref fl, .ref sa]))) (gc1 : hp th = some (.inl (cT, 120, .inr (.inr (.inr (.inr (f))))))) (gc2 : hp t = some (.inr (3, [v0, v1, v2, v3, v4, v5, v6, v7, v8, v9, v10, v11, v12, v13]))) (hh : h < c) (hc : c ≤ 120) (hf : f h = some t) : Mt (gG D cI cJ cZ cT lo b L xs) mX11_columnAt d 0 0 [.ref x, .int ((nI h))] hp n (fun r hp1 n1 => r = some (.null) ∧ n1 = n ∧ ∀ (q : Nat) (e9 : va_E), hp q = some e9 → hp1 q = some e9) := by
  refine Mt.of rfl (Nat.le_of_ble_eq_true rfl) ?_
  refine Rn.pick (lv' := [(0, .ref x), (1, .int ((nI h)))]) [0, 1] rfl ?_
  refine r_aload_n (pc := 0) dX11_columnAt_0 (i := 0) rfl rfl ?_
  refine r_iload_n (pc := 1) dX11_columnAt_1 (i := 1) rfl rfl ?_
  refine r_callV (pc := 2) (as := [.int ((nI h))]) (st := []) kX11_199 rfl dX11_columnAt_2 gc0 (c_X11_thingAt_y (d := d - 1) (th := th) (rf := rf) (dr := dr) (sk := sk) (sh := sh) (se := se) (pa := pa) (fl := fl) (sa := sa) (x := x) (c := c) (h := h) (t := t) (f := f) (by omega) gc0 gc1 (hh) (hc) (hf)) rfl (by omega) (Nat.le_of_ble_eq_true rfl) (by omega) (by omega) rfl (fun r9 hp_1 nn_2 hq_3 => ?_)
  obtain ⟨rfl, hq_3n, ho_4⟩ := hq_3
  subst nn_2
  change Rn _ _ _ 5 _ [.ref t] _ _ _ _ _
  refine r_astore_n (pc := 5) (lv' := [(3, .ref t), (0, .ref x), (1, .int ((nI h)))]) dX11_columnAt_5 (i := 3) rfl (by decide) rfl ?_
  refine r_aload_n (pc := 6) dX11_columnAt_6 (i := 3) rfl rfl ?_
  have h_5 : hp_1 t = some (.inr (3, [v0, v1, v2, v3, v4, v5, v6, v7, v8, v9, v10, v11, v12, v13])) := (ho_4 t _ gc2)
  refine r_instNo (pc := 7) (q := (RX3, TX3, 14)) (nm := "GraphEngine$Column") dX11_columnAt_7 rfl h_5 (tb_t (k := 524) (w := Cond.classLink RX11 151 "GraphEngine$Column") (by decide +kernel)) (show (RX3, "GraphEngine$Column") ∈ ncs by decide +kernel) ?_
  refine r_if_eq (pc := 10) (tgt := 22) dX11_columnAt_10 (by decide) (fun _ => ?_) (fun c9 => absurd (rfl) c9)
  refine r_null (pc := 22) dX11_columnAt_22 ?_
  exact r_aretN (pc := 23) dX11_columnAt_23 rfl (Or.inl ⟨_, rfl⟩) (⟨rfl, rfl, fun q e9 h9 => (ho_4 q e9 h9 )⟩)
set_option maxHeartbeats 4000000 in
set_option maxRecDepth 100000 in
theorem c_X11_columnAt_X5 {D : va_G} {cI cJ cZ cT : ClassId} {lo b L : Nat} {xs : Nat → Int32} {hp : MH} {n d : Nat} {x th dr sk sh se pa fl sa : Nat} {rf : Int32} {c h t : Nat} {f : Nat → Option Nat} {v0 v1 v2 v3 : Value} (hd0 : 2 ≤ d) (gc0 : hp x = some (.inr (10, [.ref th, .int ((nI c)), .int rf, .ref dr, .ref sk, .ref sh, .ref se, .ref pa, .ref fl, .ref sa]))) (gc1 : hp th = some (.inl (cT, 120, .inr (.inr (.inr (.inr (f))))))) (gc2 : hp t = some (.inr (5, [v0, v1, v2, v3]))) (hh : h < c) (hc : c ≤ 120) (hf : f h = some t) : Mt (gG D cI cJ cZ cT lo b L xs) mX11_columnAt d 0 0 [.ref x, .int ((nI h))] hp n (fun r hp1 n1 => r = some (.null) ∧ n1 = n ∧ ∀ (q : Nat) (e9 : va_E), hp q = some e9 → hp1 q = some e9) := by
  refine Mt.of rfl (Nat.le_of_ble_eq_true rfl) ?_
  refine Rn.pick (lv' := [(0, .ref x), (1, .int ((nI h)))]) [0, 1] rfl ?_
  refine r_aload_n (pc := 0) dX11_columnAt_0 (i := 0) rfl rfl ?_
  refine r_iload_n (pc := 1) dX11_columnAt_1 (i := 1) rfl rfl ?_
  refine r_callV (pc := 2) (as := [.int ((nI h))]) (st := []) kX11_199 rfl dX11_columnAt_2 gc0 (c_X11_thingAt_y (d := d - 1) (th := th) (rf := rf) (dr := dr) (sk := sk) (sh := sh) (se := se) (pa := pa) (fl := fl) (sa := sa) (x := x) (c := c) (h := h) (t := t) (f := f) (by omega) gc0 gc1 (hh) (hc) (hf)) rfl (by omega) (Nat.le_of_ble_eq_true rfl) (by omega) (by omega) rfl (fun r9 hp_1 nn_2 hq_3 => ?_)
  obtain ⟨rfl, hq_3n, ho_4⟩ := hq_3
  subst nn_2
  change Rn _ _ _ 5 _ [.ref t] _ _ _ _ _
  refine r_astore_n (pc := 5) (lv' := [(3, .ref t), (0, .ref x), (1, .int ((nI h)))]) dX11_columnAt_5 (i := 3) rfl (by decide) rfl ?_
  refine r_aload_n (pc := 6) dX11_columnAt_6 (i := 3) rfl rfl ?_
  have h_5 : hp_1 t = some (.inr (5, [v0, v1, v2, v3])) := (ho_4 t _ gc2)
  refine r_instNo (pc := 7) (q := (RX5, TX5, 4)) (nm := "GraphEngine$Column") dX11_columnAt_7 rfl h_5 (tb_t (k := 524) (w := Cond.classLink RX11 151 "GraphEngine$Column") (by decide +kernel)) (show (RX5, "GraphEngine$Column") ∈ ncs by decide +kernel) ?_
  refine r_if_eq (pc := 10) (tgt := 22) dX11_columnAt_10 (by decide) (fun _ => ?_) (fun c9 => absurd (rfl) c9)
  refine r_null (pc := 22) dX11_columnAt_22 ?_
  exact r_aretN (pc := 23) dX11_columnAt_23 rfl (Or.inl ⟨_, rfl⟩) (⟨rfl, rfl, fun q e9 h9 => (ho_4 q e9 h9 )⟩)
set_option maxHeartbeats 4000000 in
set_option maxRecDepth 100000 in
theorem c_X11_columnAt_X10 {D : va_G} {cI cJ cZ cT : ClassId} {lo b L : Nat} {xs : Nat → Int32} {hp : MH} {n d : Nat} {x th dr sk sh se pa fl sa : Nat} {rf : Int32} {c h t : Nat} {f : Nat → Option Nat} {v0 v1 v2 v3 v4 v5 : Value} (hd0 : 2 ≤ d) (gc0 : hp x = some (.inr (10, [.ref th, .int ((nI c)), .int rf, .ref dr, .ref sk, .ref sh, .ref se, .ref pa, .ref fl, .ref sa]))) (gc1 : hp th = some (.inl (cT, 120, .inr (.inr (.inr (.inr (f))))))) (gc2 : hp t = some (.inr (9, [v0, v1, v2, v3, v4, v5]))) (hh : h < c) (hc : c ≤ 120) (hf : f h = some t) : Mt (gG D cI cJ cZ cT lo b L xs) mX11_columnAt d 0 0 [.ref x, .int ((nI h))] hp n (fun r hp1 n1 => r = some (.null) ∧ n1 = n ∧ ∀ (q : Nat) (e9 : va_E), hp q = some e9 → hp1 q = some e9) := by
  refine Mt.of rfl (Nat.le_of_ble_eq_true rfl) ?_
  refine Rn.pick (lv' := [(0, .ref x), (1, .int ((nI h)))]) [0, 1] rfl ?_
  refine r_aload_n (pc := 0) dX11_columnAt_0 (i := 0) rfl rfl ?_
  refine r_iload_n (pc := 1) dX11_columnAt_1 (i := 1) rfl rfl ?_
  refine r_callV (pc := 2) (as := [.int ((nI h))]) (st := []) kX11_199 rfl dX11_columnAt_2 gc0 (c_X11_thingAt_y (d := d - 1) (th := th) (rf := rf) (dr := dr) (sk := sk) (sh := sh) (se := se) (pa := pa) (fl := fl) (sa := sa) (x := x) (c := c) (h := h) (t := t) (f := f) (by omega) gc0 gc1 (hh) (hc) (hf)) rfl (by omega) (Nat.le_of_ble_eq_true rfl) (by omega) (by omega) rfl (fun r9 hp_1 nn_2 hq_3 => ?_)
  obtain ⟨rfl, hq_3n, ho_4⟩ := hq_3
  subst nn_2
  change Rn _ _ _ 5 _ [.ref t] _ _ _ _ _
  refine r_astore_n (pc := 5) (lv' := [(3, .ref t), (0, .ref x), (1, .int ((nI h)))]) dX11_columnAt_5 (i := 3) rfl (by decide) rfl ?_
  refine r_aload_n (pc := 6) dX11_columnAt_6 (i := 3) rfl rfl ?_
  have h_5 : hp_1 t = some (.inr (9, [v0, v1, v2, v3, v4, v5])) := (ho_4 t _ gc2)
  refine r_instNo (pc := 7) (q := (RX10, TX10, 6)) (nm := "GraphEngine$Column") dX11_columnAt_7 rfl h_5 (tb_t (k := 524) (w := Cond.classLink RX11 151 "GraphEngine$Column") (by decide +kernel)) (show (RX10, "GraphEngine$Column") ∈ ncs by decide +kernel) ?_
  refine r_if_eq (pc := 10) (tgt := 22) dX11_columnAt_10 (by decide) (fun _ => ?_) (fun c9 => absurd (rfl) c9)
  refine r_null (pc := 22) dX11_columnAt_22 ?_
  exact r_aretN (pc := 23) dX11_columnAt_23 rfl (Or.inl ⟨_, rfl⟩) (⟨rfl, rfl, fun q e9 h9 => (ho_4 q e9 h9 )⟩)
set_option maxHeartbeats 4000000 in
set_option maxRecDepth 100000 in
theorem c_X11_waysAt_X0 {D : va_G} {cI cJ cZ cT : ClassId} {lo b L : Nat} {xs : Nat → Int32} {hp : MH} {n d : Nat} {x th dr sk sh se pa fl sa : Nat} {rf : Int32} {c h t : Nat} {f : Nat → Option Nat} {v0 v1 : Value} (hd0 : 2 ≤ d) (gc0 : hp x = some (.inr (10, [.ref th, .int ((nI c)), .int rf, .ref dr, .ref sk, .ref sh, .ref se, .ref pa, .ref fl, .ref sa]))) (gc1 : hp th = some (.inl (cT, 120, .inr (.inr (.inr (.inr (f))))))) (gc2 : hp t = some (.inr (0, [v0, v1]))) (hh : h < c) (hc : c ≤ 120) (hf : f h = some t) : Mt (gG D cI cJ cZ cT lo b L xs) mX11_waysAt d 0 0 [.ref x, .int ((nI h))] hp n (fun r hp1 n1 => r = some (.null) ∧ n1 = n ∧ ∀ (q : Nat) (e9 : va_E), hp q = some e9 → hp1 q = some e9) := by
  refine Mt.of rfl (Nat.le_of_ble_eq_true rfl) ?_
  refine Rn.pick (lv' := [(0, .ref x), (1, .int ((nI h)))]) [0, 1] rfl ?_
  refine r_aload_n (pc := 0) dX11_waysAt_0 (i := 0) rfl rfl ?_
  refine r_iload_n (pc := 1) dX11_waysAt_1 (i := 1) rfl rfl ?_
  refine r_callV (pc := 2) (as := [.int ((nI h))]) (st := []) kX11_199 rfl dX11_waysAt_2 gc0 (c_X11_thingAt_y (d := d - 1) (th := th) (rf := rf) (dr := dr) (sk := sk) (sh := sh) (se := se) (pa := pa) (fl := fl) (sa := sa) (x := x) (c := c) (h := h) (t := t) (f := f) (by omega) gc0 gc1 (hh) (hc) (hf)) rfl (by omega) (Nat.le_of_ble_eq_true rfl) (by omega) (by omega) rfl (fun r9 hp_1 nn_2 hq_3 => ?_)
  obtain ⟨rfl, hq_3n, ho_4⟩ := hq_3
  subst nn_2
  change Rn _ _ _ 5 _ [.ref t] _ _ _ _ _
  refine r_astore_n (pc := 5) (lv' := [(3, .ref t), (0, .ref x), (1, .int ((nI h)))]) dX11_waysAt_5 (i := 3) rfl (by decide) rfl ?_
  refine r_aload_n (pc := 6) dX11_waysAt_6 (i := 3) rfl rfl ?_
  have h_5 : hp_1 t = some (.inr (0, [v0, v1])) := (ho_4 t _ gc2)
  refine r_instNo (pc := 7) (q := (RX0, TX0, 2)) (nm := "GraphEngine$Ways") dX11_waysAt_7 rfl h_5 (tb_t (k := 625) (w := Cond.classLink RX11 189 "GraphEngine$Ways") (by decide +kernel)) (show (RX0, "GraphEngine$Ways") ∈ ncs by decide +kernel) ?_
  refine r_if_eq (pc := 10) (tgt := 22) dX11_waysAt_10 (by decide) (fun _ => ?_) (fun c9 => absurd (rfl) c9)
  refine r_null (pc := 22) dX11_waysAt_22 ?_
  exact r_aretN (pc := 23) dX11_waysAt_23 rfl (Or.inl ⟨_, rfl⟩) (⟨rfl, rfl, fun q e9 h9 => (ho_4 q e9 h9 )⟩)
set_option maxHeartbeats 4000000 in
set_option maxRecDepth 100000 in
theorem c_X11_waysAt_X3 {D : va_G} {cI cJ cZ cT : ClassId} {lo b L : Nat} {xs : Nat → Int32} {hp : MH} {n d : Nat} {x th dr sk sh se pa fl sa : Nat} {rf : Int32} {c h t : Nat} {f : Nat → Option Nat} {v0 v1 v2 v3 v4 v5 v6 v7 v8 v9 v10 v11 v12 v13 : Value} (hd0 : 2 ≤ d) (gc0 : hp x = some (.inr (10, [.ref th, .int ((nI c)), .int rf, .ref dr, .ref sk, .ref sh, .ref se, .ref pa, .ref fl, .ref sa]))) (gc1 : hp th = some (.inl (cT, 120, .inr (.inr (.inr (.inr (f))))))) (gc2 : hp t = some (.inr (3, [v0, v1, v2, v3, v4, v5, v6, v7, v8, v9, v10, v11, v12, v13]))) (hh : h < c) (hc : c ≤ 120) (hf : f h = some t) : Mt (gG D cI cJ cZ cT lo b L xs) mX11_waysAt d 0 0 [.ref x, .int ((nI h))] hp n (fun r hp1 n1 => r = some (.null) ∧ n1 = n ∧ ∀ (q : Nat) (e9 : va_E), hp q = some e9 → hp1 q = some e9) := by
  refine Mt.of rfl (Nat.le_of_ble_eq_true rfl) ?_
  refine Rn.pick (lv' := [(0, .ref x), (1, .int ((nI h)))]) [0, 1] rfl ?_
  refine r_aload_n (pc := 0) dX11_waysAt_0 (i := 0) rfl rfl ?_
  refine r_iload_n (pc := 1) dX11_waysAt_1 (i := 1) rfl rfl ?_
  refine r_callV (pc := 2) (as := [.int ((nI h))]) (st := []) kX11_199 rfl dX11_waysAt_2 gc0 (c_X11_thingAt_y (d := d - 1) (th := th) (rf := rf) (dr := dr) (sk := sk) (sh := sh) (se := se) (pa := pa) (fl := fl) (sa := sa) (x := x) (c := c) (h := h) (t := t) (f := f) (by omega) gc0 gc1 (hh) (hc) (hf)) rfl (by omega) (Nat.le_of_ble_eq_true rfl) (by omega) (by omega) rfl (fun r9 hp_1 nn_2 hq_3 => ?_)
  obtain ⟨rfl, hq_3n, ho_4⟩ := hq_3
  subst nn_2
  change Rn _ _ _ 5 _ [.ref t] _ _ _ _ _
  refine r_astore_n (pc := 5) (lv' := [(3, .ref t), (0, .ref x), (1, .int ((nI h)))]) dX11_waysAt_5 (i := 3) rfl (by decide) rfl ?_
  refine r_aload_n (pc := 6) dX11_waysAt_6 (i := 3) rfl rfl ?_
  have h_5 : hp_1 t = some (.inr (3, [v0, v1, v2, v3, v4, v5, v6, v7, v8, v9, v10, v11, v12, v13])) := (ho_4 t _ gc2)
  refine r_instNo (pc := 7) (q := (RX3, TX3, 14)) (nm := "GraphEngine$Ways") dX11_waysAt_7 rfl h_5 (tb_t (k := 625) (w := Cond.classLink RX11 189 "GraphEngine$Ways") (by decide +kernel)) (show (RX3, "GraphEngine$Ways") ∈ ncs by decide +kernel) ?_
  refine r_if_eq (pc := 10) (tgt := 22) dX11_waysAt_10 (by decide) (fun _ => ?_) (fun c9 => absurd (rfl) c9)
  refine r_null (pc := 22) dX11_waysAt_22 ?_
  exact r_aretN (pc := 23) dX11_waysAt_23 rfl (Or.inl ⟨_, rfl⟩) (⟨rfl, rfl, fun q e9 h9 => (ho_4 q e9 h9 )⟩)
set_option maxHeartbeats 4000000 in
set_option maxRecDepth 100000 in
theorem c_X11_waysAt_X5 {D : va_G} {cI cJ cZ cT : ClassId} {lo b L : Nat} {xs : Nat → Int32} {hp : MH} {n d : Nat} {x th dr sk sh se pa fl sa : Nat} {rf : Int32} {c h t : Nat} {f : Nat → Option Nat} {v0 v1 v2 v3 : Value} (hd0 : 2 ≤ d) (gc0 : hp x = some (.inr (10, [.ref th, .int ((nI c)), .int rf, .ref dr, .ref sk, .ref sh, .ref se, .ref pa, .ref fl, .ref sa]))) (gc1 : hp th = some (.inl (cT, 120, .inr (.inr (.inr (.inr (f))))))) (gc2 : hp t = some (.inr (5, [v0, v1, v2, v3]))) (hh : h < c) (hc : c ≤ 120) (hf : f h = some t) : Mt (gG D cI cJ cZ cT lo b L xs) mX11_waysAt d 0 0 [.ref x, .int ((nI h))] hp n (fun r hp1 n1 => r = some (.null) ∧ n1 = n ∧ ∀ (q : Nat) (e9 : va_E), hp q = some e9 → hp1 q = some e9) := by
  refine Mt.of rfl (Nat.le_of_ble_eq_true rfl) ?_
  refine Rn.pick (lv' := [(0, .ref x), (1, .int ((nI h)))]) [0, 1] rfl ?_
  refine r_aload_n (pc := 0) dX11_waysAt_0 (i := 0) rfl rfl ?_
  refine r_iload_n (pc := 1) dX11_waysAt_1 (i := 1) rfl rfl ?_
  refine r_callV (pc := 2) (as := [.int ((nI h))]) (st := []) kX11_199 rfl dX11_waysAt_2 gc0 (c_X11_thingAt_y (d := d - 1) (th := th) (rf := rf) (dr := dr) (sk := sk) (sh := sh) (se := se) (pa := pa) (fl := fl) (sa := sa) (x := x) (c := c) (h := h) (t := t) (f := f) (by omega) gc0 gc1 (hh) (hc) (hf)) rfl (by omega) (Nat.le_of_ble_eq_true rfl) (by omega) (by omega) rfl (fun r9 hp_1 nn_2 hq_3 => ?_)
  obtain ⟨rfl, hq_3n, ho_4⟩ := hq_3
  subst nn_2
  change Rn _ _ _ 5 _ [.ref t] _ _ _ _ _
  refine r_astore_n (pc := 5) (lv' := [(3, .ref t), (0, .ref x), (1, .int ((nI h)))]) dX11_waysAt_5 (i := 3) rfl (by decide) rfl ?_
  refine r_aload_n (pc := 6) dX11_waysAt_6 (i := 3) rfl rfl ?_
  have h_5 : hp_1 t = some (.inr (5, [v0, v1, v2, v3])) := (ho_4 t _ gc2)
  refine r_instNo (pc := 7) (q := (RX5, TX5, 4)) (nm := "GraphEngine$Ways") dX11_waysAt_7 rfl h_5 (tb_t (k := 625) (w := Cond.classLink RX11 189 "GraphEngine$Ways") (by decide +kernel)) (show (RX5, "GraphEngine$Ways") ∈ ncs by decide +kernel) ?_
  refine r_if_eq (pc := 10) (tgt := 22) dX11_waysAt_10 (by decide) (fun _ => ?_) (fun c9 => absurd (rfl) c9)
  refine r_null (pc := 22) dX11_waysAt_22 ?_
  exact r_aretN (pc := 23) dX11_waysAt_23 rfl (Or.inl ⟨_, rfl⟩) (⟨rfl, rfl, fun q e9 h9 => (ho_4 q e9 h9 )⟩)
set_option maxHeartbeats 4000000 in
set_option maxRecDepth 100000 in
theorem c_X11_waysAt_X10 {D : va_G} {cI cJ cZ cT : ClassId} {lo b L : Nat} {xs : Nat → Int32} {hp : MH} {n d : Nat} {x th dr sk sh se pa fl sa : Nat} {rf : Int32} {c h t : Nat} {f : Nat → Option Nat} {v0 v1 v2 v3 v4 v5 : Value} (hd0 : 2 ≤ d) (gc0 : hp x = some (.inr (10, [.ref th, .int ((nI c)), .int rf, .ref dr, .ref sk, .ref sh, .ref se, .ref pa, .ref fl, .ref sa]))) (gc1 : hp th = some (.inl (cT, 120, .inr (.inr (.inr (.inr (f))))))) (gc2 : hp t = some (.inr (9, [v0, v1, v2, v3, v4, v5]))) (hh : h < c) (hc : c ≤ 120) (hf : f h = some t) : Mt (gG D cI cJ cZ cT lo b L xs) mX11_waysAt d 0 0 [.ref x, .int ((nI h))] hp n (fun r hp1 n1 => r = some (.ref t) ∧ n1 = n ∧ ∀ (q : Nat) (e9 : va_E), hp q = some e9 → hp1 q = some e9) := by
  refine Mt.of rfl (Nat.le_of_ble_eq_true rfl) ?_
  refine Rn.pick (lv' := [(0, .ref x), (1, .int ((nI h)))]) [0, 1] rfl ?_
  refine r_aload_n (pc := 0) dX11_waysAt_0 (i := 0) rfl rfl ?_
  refine r_iload_n (pc := 1) dX11_waysAt_1 (i := 1) rfl rfl ?_
  refine r_callV (pc := 2) (as := [.int ((nI h))]) (st := []) kX11_199 rfl dX11_waysAt_2 gc0 (c_X11_thingAt_y (d := d - 1) (th := th) (rf := rf) (dr := dr) (sk := sk) (sh := sh) (se := se) (pa := pa) (fl := fl) (sa := sa) (x := x) (c := c) (h := h) (t := t) (f := f) (by omega) gc0 gc1 (hh) (hc) (hf)) rfl (by omega) (Nat.le_of_ble_eq_true rfl) (by omega) (by omega) rfl (fun r9 hp_1 nn_2 hq_3 => ?_)
  obtain ⟨rfl, hq_3n, ho_4⟩ := hq_3
  subst nn_2
  change Rn _ _ _ 5 _ [.ref t] _ _ _ _ _
  refine r_astore_n (pc := 5) (lv' := [(3, .ref t), (0, .ref x), (1, .int ((nI h)))]) dX11_waysAt_5 (i := 3) rfl (by decide) rfl ?_
  refine r_aload_n (pc := 6) dX11_waysAt_6 (i := 3) rfl rfl ?_
  have h_5 : hp_1 t = some (.inr (9, [v0, v1, v2, v3, v4, v5])) := (ho_4 t _ gc2)
  refine r_instS (pc := 7) (q := (RX10, TX10, 6)) (nm := "GraphEngine$Ways") dX11_waysAt_7 rfl h_5 (tb_t (k := 625) (w := Cond.classLink RX11 189 "GraphEngine$Ways") (by decide +kernel)) rfl ?_
  refine r_if_eq (pc := 10) (tgt := 22) dX11_waysAt_10 (by decide) (fun c9 => absurd c9 (by decide)) (fun _ => ?_)
  refine r_aload_n (pc := 13) dX11_waysAt_13 (i := 3) rfl rfl ?_
  refine r_castS (pc := 14) (q := (RX10, TX10, 6)) (nm := "GraphEngine$Ways") dX11_waysAt_14 rfl h_5 (tb_t (k := 625) (w := Cond.classLink RX11 189 "GraphEngine$Ways") (by decide +kernel)) rfl ?_
  refine r_astore_n (pc := 17) (lv' := [(2, .ref t), (3, .ref t), (0, .ref x), (1, .int ((nI h)))]) dX11_waysAt_17 (i := 2) rfl (by decide) rfl ?_
  refine r_aload_n (pc := 18) dX11_waysAt_18 (i := 2) rfl rfl ?_
  refine r_goto (pc := 19) (tgt := 23) dX11_waysAt_19 (by decide) ?_
  exact r_aret (pc := 23) dX11_waysAt_23 rfl (Or.inl ⟨_, rfl⟩) (⟨rfl, rfl, fun q e9 h9 => (ho_4 q e9 h9 )⟩)
set_option maxHeartbeats 4000000 in
set_option maxRecDepth 100000 in
theorem c_X11_partsAt_X0 {D : va_G} {cI cJ cZ cT : ClassId} {lo b L : Nat} {xs : Nat → Int32} {hp : MH} {n d : Nat} {x th dr sk sh se pa fl sa : Nat} {rf : Int32} {c h t : Nat} {f : Nat → Option Nat} {v0 v1 : Value} (hd0 : 2 ≤ d) (gc0 : hp x = some (.inr (10, [.ref th, .int ((nI c)), .int rf, .ref dr, .ref sk, .ref sh, .ref se, .ref pa, .ref fl, .ref sa]))) (gc1 : hp th = some (.inl (cT, 120, .inr (.inr (.inr (.inr (f))))))) (gc2 : hp t = some (.inr (0, [v0, v1]))) (hh : h < c) (hc : c ≤ 120) (hf : f h = some t) : Mt (gG D cI cJ cZ cT lo b L xs) mX11_partsAt d 0 0 [.ref x, .int ((nI h))] hp n (fun r hp1 n1 => r = some (.null) ∧ n1 = n ∧ ∀ (q : Nat) (e9 : va_E), hp q = some e9 → hp1 q = some e9) := by
  refine Mt.of rfl (Nat.le_of_ble_eq_true rfl) ?_
  refine Rn.pick (lv' := [(0, .ref x), (1, .int ((nI h)))]) [0, 1] rfl ?_
  refine r_aload_n (pc := 0) dX11_partsAt_0 (i := 0) rfl rfl ?_
  refine r_iload_n (pc := 1) dX11_partsAt_1 (i := 1) rfl rfl ?_
  refine r_callV (pc := 2) (as := [.int ((nI h))]) (st := []) kX11_199 rfl dX11_partsAt_2 gc0 (c_X11_thingAt_y (d := d - 1) (th := th) (rf := rf) (dr := dr) (sk := sk) (sh := sh) (se := se) (pa := pa) (fl := fl) (sa := sa) (x := x) (c := c) (h := h) (t := t) (f := f) (by omega) gc0 gc1 (hh) (hc) (hf)) rfl (by omega) (Nat.le_of_ble_eq_true rfl) (by omega) (by omega) rfl (fun r9 hp_1 nn_2 hq_3 => ?_)
  obtain ⟨rfl, hq_3n, ho_4⟩ := hq_3
  subst nn_2
  change Rn _ _ _ 5 _ [.ref t] _ _ _ _ _
  refine r_astore_n (pc := 5) (lv' := [(3, .ref t), (0, .ref x), (1, .int ((nI h)))]) dX11_partsAt_5 (i := 3) rfl (by decide) rfl ?_
  refine r_aload_n (pc := 6) dX11_partsAt_6 (i := 3) rfl rfl ?_
  have h_5 : hp_1 t = some (.inr (0, [v0, v1])) := (ho_4 t _ gc2)
  refine r_instNo (pc := 7) (q := (RX0, TX0, 2)) (nm := "GraphEngine$Parts") dX11_partsAt_7 rfl h_5 (tb_t (k := 503) (w := Cond.classLink RX11 145 "GraphEngine$Parts") (by decide +kernel)) (show (RX0, "GraphEngine$Parts") ∈ ncs by decide +kernel) ?_
  refine r_if_eq (pc := 10) (tgt := 22) dX11_partsAt_10 (by decide) (fun _ => ?_) (fun c9 => absurd (rfl) c9)
  refine r_null (pc := 22) dX11_partsAt_22 ?_
  exact r_aretN (pc := 23) dX11_partsAt_23 rfl (Or.inl ⟨_, rfl⟩) (⟨rfl, rfl, fun q e9 h9 => (ho_4 q e9 h9 )⟩)
set_option maxHeartbeats 4000000 in
set_option maxRecDepth 100000 in
theorem c_X11_partsAt_X3 {D : va_G} {cI cJ cZ cT : ClassId} {lo b L : Nat} {xs : Nat → Int32} {hp : MH} {n d : Nat} {x th dr sk sh se pa fl sa : Nat} {rf : Int32} {c h t : Nat} {f : Nat → Option Nat} {v0 v1 v2 v3 v4 v5 v6 v7 v8 v9 v10 v11 v12 v13 : Value} (hd0 : 2 ≤ d) (gc0 : hp x = some (.inr (10, [.ref th, .int ((nI c)), .int rf, .ref dr, .ref sk, .ref sh, .ref se, .ref pa, .ref fl, .ref sa]))) (gc1 : hp th = some (.inl (cT, 120, .inr (.inr (.inr (.inr (f))))))) (gc2 : hp t = some (.inr (3, [v0, v1, v2, v3, v4, v5, v6, v7, v8, v9, v10, v11, v12, v13]))) (hh : h < c) (hc : c ≤ 120) (hf : f h = some t) : Mt (gG D cI cJ cZ cT lo b L xs) mX11_partsAt d 0 0 [.ref x, .int ((nI h))] hp n (fun r hp1 n1 => r = some (.null) ∧ n1 = n ∧ ∀ (q : Nat) (e9 : va_E), hp q = some e9 → hp1 q = some e9) := by
  refine Mt.of rfl (Nat.le_of_ble_eq_true rfl) ?_
  refine Rn.pick (lv' := [(0, .ref x), (1, .int ((nI h)))]) [0, 1] rfl ?_
  refine r_aload_n (pc := 0) dX11_partsAt_0 (i := 0) rfl rfl ?_
  refine r_iload_n (pc := 1) dX11_partsAt_1 (i := 1) rfl rfl ?_
  refine r_callV (pc := 2) (as := [.int ((nI h))]) (st := []) kX11_199 rfl dX11_partsAt_2 gc0 (c_X11_thingAt_y (d := d - 1) (th := th) (rf := rf) (dr := dr) (sk := sk) (sh := sh) (se := se) (pa := pa) (fl := fl) (sa := sa) (x := x) (c := c) (h := h) (t := t) (f := f) (by omega) gc0 gc1 (hh) (hc) (hf)) rfl (by omega) (Nat.le_of_ble_eq_true rfl) (by omega) (by omega) rfl (fun r9 hp_1 nn_2 hq_3 => ?_)
  obtain ⟨rfl, hq_3n, ho_4⟩ := hq_3
  subst nn_2
  change Rn _ _ _ 5 _ [.ref t] _ _ _ _ _
  refine r_astore_n (pc := 5) (lv' := [(3, .ref t), (0, .ref x), (1, .int ((nI h)))]) dX11_partsAt_5 (i := 3) rfl (by decide) rfl ?_
  refine r_aload_n (pc := 6) dX11_partsAt_6 (i := 3) rfl rfl ?_
  have h_5 : hp_1 t = some (.inr (3, [v0, v1, v2, v3, v4, v5, v6, v7, v8, v9, v10, v11, v12, v13])) := (ho_4 t _ gc2)
  refine r_instNo (pc := 7) (q := (RX3, TX3, 14)) (nm := "GraphEngine$Parts") dX11_partsAt_7 rfl h_5 (tb_t (k := 503) (w := Cond.classLink RX11 145 "GraphEngine$Parts") (by decide +kernel)) (show (RX3, "GraphEngine$Parts") ∈ ncs by decide +kernel) ?_
  refine r_if_eq (pc := 10) (tgt := 22) dX11_partsAt_10 (by decide) (fun _ => ?_) (fun c9 => absurd (rfl) c9)
  refine r_null (pc := 22) dX11_partsAt_22 ?_
  exact r_aretN (pc := 23) dX11_partsAt_23 rfl (Or.inl ⟨_, rfl⟩) (⟨rfl, rfl, fun q e9 h9 => (ho_4 q e9 h9 )⟩)
set_option maxHeartbeats 4000000 in
set_option maxRecDepth 100000 in
theorem c_X11_partsAt_X5 {D : va_G} {cI cJ cZ cT : ClassId} {lo b L : Nat} {xs : Nat → Int32} {hp : MH} {n d : Nat} {x th dr sk sh se pa fl sa : Nat} {rf : Int32} {c h t : Nat} {f : Nat → Option Nat} {v0 v1 v2 v3 : Value} (hd0 : 2 ≤ d) (gc0 : hp x = some (.inr (10, [.ref th, .int ((nI c)), .int rf, .ref dr, .ref sk, .ref sh, .ref se, .ref pa, .ref fl, .ref sa]))) (gc1 : hp th = some (.inl (cT, 120, .inr (.inr (.inr (.inr (f))))))) (gc2 : hp t = some (.inr (5, [v0, v1, v2, v3]))) (hh : h < c) (hc : c ≤ 120) (hf : f h = some t) : Mt (gG D cI cJ cZ cT lo b L xs) mX11_partsAt d 0 0 [.ref x, .int ((nI h))] hp n (fun r hp1 n1 => r = some (.ref t) ∧ n1 = n ∧ ∀ (q : Nat) (e9 : va_E), hp q = some e9 → hp1 q = some e9) := by
  refine Mt.of rfl (Nat.le_of_ble_eq_true rfl) ?_
  refine Rn.pick (lv' := [(0, .ref x), (1, .int ((nI h)))]) [0, 1] rfl ?_
  refine r_aload_n (pc := 0) dX11_partsAt_0 (i := 0) rfl rfl ?_
  refine r_iload_n (pc := 1) dX11_partsAt_1 (i := 1) rfl rfl ?_
  refine r_callV (pc := 2) (as := [.int ((nI h))]) (st := []) kX11_199 rfl dX11_partsAt_2 gc0 (c_X11_thingAt_y (d := d - 1) (th := th) (rf := rf) (dr := dr) (sk := sk) (sh := sh) (se := se) (pa := pa) (fl := fl) (sa := sa) (x := x) (c := c) (h := h) (t := t) (f := f) (by omega) gc0 gc1 (hh) (hc) (hf)) rfl (by omega) (Nat.le_of_ble_eq_true rfl) (by omega) (by omega) rfl (fun r9 hp_1 nn_2 hq_3 => ?_)
  obtain ⟨rfl, hq_3n, ho_4⟩ := hq_3
  subst nn_2
  change Rn _ _ _ 5 _ [.ref t] _ _ _ _ _
  refine r_astore_n (pc := 5) (lv' := [(3, .ref t), (0, .ref x), (1, .int ((nI h)))]) dX11_partsAt_5 (i := 3) rfl (by decide) rfl ?_
  refine r_aload_n (pc := 6) dX11_partsAt_6 (i := 3) rfl rfl ?_
  have h_5 : hp_1 t = some (.inr (5, [v0, v1, v2, v3])) := (ho_4 t _ gc2)
  refine r_instS (pc := 7) (q := (RX5, TX5, 4)) (nm := "GraphEngine$Parts") dX11_partsAt_7 rfl h_5 (tb_t (k := 503) (w := Cond.classLink RX11 145 "GraphEngine$Parts") (by decide +kernel)) rfl ?_
  refine r_if_eq (pc := 10) (tgt := 22) dX11_partsAt_10 (by decide) (fun c9 => absurd c9 (by decide)) (fun _ => ?_)
  refine r_aload_n (pc := 13) dX11_partsAt_13 (i := 3) rfl rfl ?_
  refine r_castS (pc := 14) (q := (RX5, TX5, 4)) (nm := "GraphEngine$Parts") dX11_partsAt_14 rfl h_5 (tb_t (k := 503) (w := Cond.classLink RX11 145 "GraphEngine$Parts") (by decide +kernel)) rfl ?_
  refine r_astore_n (pc := 17) (lv' := [(2, .ref t), (3, .ref t), (0, .ref x), (1, .int ((nI h)))]) dX11_partsAt_17 (i := 2) rfl (by decide) rfl ?_
  refine r_aload_n (pc := 18) dX11_partsAt_18 (i := 2) rfl rfl ?_
  refine r_goto (pc := 19) (tgt := 23) dX11_partsAt_19 (by decide) ?_
  exact r_aret (pc := 23) dX11_partsAt_23 rfl (Or.inl ⟨_, rfl⟩) (⟨rfl, rfl, fun q e9 h9 => (ho_4 q e9 h9 )⟩)
set_option maxHeartbeats 4000000 in
set_option maxRecDepth 100000 in
theorem c_X11_partsAt_X10 {D : va_G} {cI cJ cZ cT : ClassId} {lo b L : Nat} {xs : Nat → Int32} {hp : MH} {n d : Nat} {x th dr sk sh se pa fl sa : Nat} {rf : Int32} {c h t : Nat} {f : Nat → Option Nat} {v0 v1 v2 v3 v4 v5 : Value} (hd0 : 2 ≤ d) (gc0 : hp x = some (.inr (10, [.ref th, .int ((nI c)), .int rf, .ref dr, .ref sk, .ref sh, .ref se, .ref pa, .ref fl, .ref sa]))) (gc1 : hp th = some (.inl (cT, 120, .inr (.inr (.inr (.inr (f))))))) (gc2 : hp t = some (.inr (9, [v0, v1, v2, v3, v4, v5]))) (hh : h < c) (hc : c ≤ 120) (hf : f h = some t) : Mt (gG D cI cJ cZ cT lo b L xs) mX11_partsAt d 0 0 [.ref x, .int ((nI h))] hp n (fun r hp1 n1 => r = some (.null) ∧ n1 = n ∧ ∀ (q : Nat) (e9 : va_E), hp q = some e9 → hp1 q = some e9) := by
  refine Mt.of rfl (Nat.le_of_ble_eq_true rfl) ?_
  refine Rn.pick (lv' := [(0, .ref x), (1, .int ((nI h)))]) [0, 1] rfl ?_
  refine r_aload_n (pc := 0) dX11_partsAt_0 (i := 0) rfl rfl ?_
  refine r_iload_n (pc := 1) dX11_partsAt_1 (i := 1) rfl rfl ?_
  refine r_callV (pc := 2) (as := [.int ((nI h))]) (st := []) kX11_199 rfl dX11_partsAt_2 gc0 (c_X11_thingAt_y (d := d - 1) (th := th) (rf := rf) (dr := dr) (sk := sk) (sh := sh) (se := se) (pa := pa) (fl := fl) (sa := sa) (x := x) (c := c) (h := h) (t := t) (f := f) (by omega) gc0 gc1 (hh) (hc) (hf)) rfl (by omega) (Nat.le_of_ble_eq_true rfl) (by omega) (by omega) rfl (fun r9 hp_1 nn_2 hq_3 => ?_)
  obtain ⟨rfl, hq_3n, ho_4⟩ := hq_3
  subst nn_2
  change Rn _ _ _ 5 _ [.ref t] _ _ _ _ _
  refine r_astore_n (pc := 5) (lv' := [(3, .ref t), (0, .ref x), (1, .int ((nI h)))]) dX11_partsAt_5 (i := 3) rfl (by decide) rfl ?_
  refine r_aload_n (pc := 6) dX11_partsAt_6 (i := 3) rfl rfl ?_
  have h_5 : hp_1 t = some (.inr (9, [v0, v1, v2, v3, v4, v5])) := (ho_4 t _ gc2)
  refine r_instNo (pc := 7) (q := (RX10, TX10, 6)) (nm := "GraphEngine$Parts") dX11_partsAt_7 rfl h_5 (tb_t (k := 503) (w := Cond.classLink RX11 145 "GraphEngine$Parts") (by decide +kernel)) (show (RX10, "GraphEngine$Parts") ∈ ncs by decide +kernel) ?_
  refine r_if_eq (pc := 10) (tgt := 22) dX11_partsAt_10 (by decide) (fun _ => ?_) (fun c9 => absurd (rfl) c9)
  refine r_null (pc := 22) dX11_partsAt_22 ?_
  exact r_aretN (pc := 23) dX11_partsAt_23 rfl (Or.inl ⟨_, rfl⟩) (⟨rfl, rfl, fun q e9 h9 => (ho_4 q e9 h9 )⟩)
set_option maxHeartbeats 4000000 in
set_option maxRecDepth 100000 in
theorem c_X11_whyNot_y {D : va_G} {cI cJ cZ cT : ClassId} {lo b L : Nat} {xs : Nat → Int32} {hp : MH} {n d : Nat} {x th dr sk sh se pa fl sa : Nat} {rf : Int32} {c h t : Nat} {f : Nat → Option Nat} (hd0 : 2 ≤ d) (gc0 : hp x = some (.inr (10, [.ref th, .int ((nI c)), .int rf, .ref dr, .ref sk, .ref sh, .ref se, .ref pa, .ref fl, .ref sa]))) (gc1 : hp th = some (.inl (cT, 120, .inr (.inr (.inr (.inr (f))))))) (hh : h < c) (hc : c ≤ 120) (hf : f h = some t) : Mt (gG D cI cJ cZ cT lo b L xs) mX11_whyNot d 0 0 [.ref x, .int ((nI h))] hp n (fun r hp1 n1 => r = some (.int ((-2))) ∧ n1 = n ∧ ∀ (q : Nat) (e9 : va_E), hp q = some e9 → hp1 q = some e9) := by
  refine Mt.of rfl (Nat.le_of_ble_eq_true rfl) ?_
  refine Rn.pick (lv' := [(0, .ref x), (1, .int ((nI h)))]) [0, 1] rfl ?_
  refine r_aload_n (pc := 0) dX11_whyNot_0 (i := 0) rfl rfl ?_
  refine r_iload_n (pc := 1) dX11_whyNot_1 (i := 1) rfl rfl ?_
  refine r_callV (pc := 2) (as := [.int ((nI h))]) (st := []) kX11_199 rfl dX11_whyNot_2 gc0 (c_X11_thingAt_y (d := d - 1) (th := th) (rf := rf) (dr := dr) (sk := sk) (sh := sh) (se := se) (pa := pa) (fl := fl) (sa := sa) (x := x) (c := c) (h := h) (t := t) (f := f) (by omega) gc0 gc1 (hh) (hc) (hf)) rfl (by omega) (Nat.le_of_ble_eq_true rfl) (by omega) (by omega) rfl (fun r9 hp_1 nn_2 hq_3 => ?_)
  obtain ⟨rfl, hq_3n, ho_4⟩ := hq_3
  subst nn_2
  change Rn _ _ _ 5 _ [.ref t] _ _ _ _ _
  refine r_ifnonnull (pc := 5) (tgt := 12) dX11_whyNot_5 (by decide) ?_
  refine r_bipush (pc := 12) (v := (-2)) dX11_whyNot_12 (by decide) ?_
  exact r_iret (pc := 14) dX11_whyNot_14 rfl (⟨rfl, rfl, fun q e9 h9 => (ho_4 q e9 h9 )⟩)
