set_option maxHeartbeats 4000000 in
set_option maxRecDepth 100000 in
theorem c_X12_sort {D : va_G} {cI cJ cZ cT : ClassId} {lo b L : Nat} {xs : Nat → Int32} {hp : MH} {n d : Nat} {y mm_sorts mm_sizes mm_directs mm_many mm_from mm_to mm_weight mm_cost mm_numbers mm_state mm_worth mm_long1 mm_howMany mm_rows mm_inPart mm_partCount mm_nf mm_nt mm_nw mm_nc mm_column mm_next mm_inside mm_beside mm_solid mm_below mm_best mm_ways1 mm_round mm_round2 mm_label mm_bridge mm_outs mm_ins mm_least mm_spans mm_joinedWith mm_gone mm_dear mm_by mm_ahead mm_image : Nat} {rf nm : Int32} {c h : Nat} {f0 : Nat → Int32} (hd0 : 1 ≤ d) (gc0 : hp y = some (.inr (11, [.int rf, .int ((nI c)), .ref mm_sorts, .ref mm_sizes, .ref mm_directs, .ref mm_many, .ref mm_from, .ref mm_to, .ref mm_weight, .ref mm_cost, .ref mm_numbers, .ref mm_state, .ref mm_worth, .ref mm_long1, .ref mm_howMany, .ref mm_rows, .ref mm_inPart, .ref mm_partCount, .ref mm_nf, .ref mm_nt, .ref mm_nw, .ref mm_nc, .int nm, .ref mm_column, .ref mm_next, .ref mm_inside, .ref mm_beside, .ref mm_solid, .ref mm_below, .ref mm_best, .ref mm_ways1, .ref mm_round, .ref mm_round2, .ref mm_label, .ref mm_bridge, .ref mm_outs, .ref mm_ins, .ref mm_least, .ref mm_spans, .ref mm_joinedWith, .ref mm_gone, .ref mm_dear, .ref mm_by, .ref mm_ahead, .ref mm_image]))) (gc1 : hp mm_sorts = some (.inl (cI, 121, .inl (f0)))) (hh : h < c) (hc : c ≤ 120) : Mt (gG D cI cJ cZ cT lo b L xs) mX12_sort d 0 0 [.ref y, .int ((nI h))] hp n (fun r hp1 n1 => r = some (.int ((f0 h))) ∧ n1 = n ∧ hp1 y = some (.inr (11, [.int 0, .int ((nI c)), .ref mm_sorts, .ref mm_sizes, .ref mm_directs, .ref mm_many, .ref mm_from, .ref mm_to, .ref mm_weight, .ref mm_cost, .ref mm_numbers, .ref mm_state, .ref mm_worth, .ref mm_long1, .ref mm_howMany, .ref mm_rows, .ref mm_inPart, .ref mm_partCount, .ref mm_nf, .ref mm_nt, .ref mm_nw, .ref mm_nc, .int nm, .ref mm_column, .ref mm_next, .ref mm_inside, .ref mm_beside, .ref mm_solid, .ref mm_below, .ref mm_best, .ref mm_ways1, .ref mm_round, .ref mm_round2, .ref mm_label, .ref mm_bridge, .ref mm_outs, .ref mm_ins, .ref mm_least, .ref mm_spans, .ref mm_joinedWith, .ref mm_gone, .ref mm_dear, .ref mm_by, .ref mm_ahead, .ref mm_image])) ∧ ∀ (q : Nat) (e9 : va_E), hp q = some e9 → q ≠ y → hp1 q = some e9) := by
  refine Mt.of rfl (Nat.le_of_ble_eq_true rfl) ?_
  refine Rn.pick (lv' := [(0, .ref y), (1, .int ((nI h)))]) [0, 1] rfl ?_
  refine r_aload_n (pc := 0) dX12_sort_0 (i := 0) rfl rfl ?_
  refine r_aload_n (pc := 1) dX12_sort_1 (i := 0) rfl rfl ?_
  refine r_iload_n (pc := 2) dX12_sort_2 (i := 1) rfl rfl ?_
  refine r_callV (pc := 3) (as := [.int ((nI h))]) (st := [.ref y]) kX12_149 rfl dX12_sort_3 gc0 (c_X12_isThere (d := d - 1) (y := y) (rf := rf) (cnt := (nI c)) (mm_sorts := mm_sorts) (mm_sizes := mm_sizes) (mm_directs := mm_directs) (mm_many := mm_many) (mm_from := mm_from) (mm_to := mm_to) (mm_weight := mm_weight) (mm_cost := mm_cost) (mm_numbers := mm_numbers) (mm_state := mm_state) (mm_worth := mm_worth) (mm_long1 := mm_long1) (mm_howMany := mm_howMany) (mm_rows := mm_rows) (mm_inPart := mm_inPart) (mm_partCount := mm_partCount) (mm_nf := mm_nf) (mm_nt := mm_nt) (mm_nw := mm_nw) (mm_nc := mm_nc) (nm := nm) (mm_column := mm_column) (mm_next := mm_next) (mm_inside := mm_inside) (mm_beside := mm_beside) (mm_solid := mm_solid) (mm_below := mm_below) (mm_best := mm_best) (mm_ways1 := mm_ways1) (mm_round := mm_round) (mm_round2 := mm_round2) (mm_label := mm_label) (mm_bridge := mm_bridge) (mm_outs := mm_outs) (mm_ins := mm_ins) (mm_least := mm_least) (mm_spans := mm_spans) (mm_joinedWith := mm_joinedWith) (mm_gone := mm_gone) (mm_dear := mm_dear) (mm_by := mm_by) (mm_ahead := mm_ahead) (mm_image := mm_image) (p1 := (nI h)) (by omega) gc0 ) rfl (by omega) (Nat.le_of_ble_eq_true rfl) (by omega) (by omega) rfl (fun r9 hp_1 nn_2 hq_3 => ?_)
  obtain ⟨rfl, hq_3n, ho_4⟩ := hq_3
  subst nn_2
  change Rn _ _ _ 6 _ [.int ((bI (decide (¬ (nI h) < 0 ∧ ¬ (nI c) ≤ (nI h))))), .ref y] _ _ _ _ _
  refine r_if_eq (pc := 6) (tgt := 13) dX12_sort_6 (by decide) (fun c9 => absurd c9 (by rw [bI_t (decide_eq_true ⟨nI_pos (by omega), nI_ge hh (by omega)⟩)]; decide)) (fun _ => ?_)
  refine r_iconst (pc := 9) (v := 0) dX12_sort_9 (by decide) ?_
  refine r_goto (pc := 10) (tgt := 14) dX12_sort_10 (by decide) ?_
  have h_5 : hp_1 y = some (.inr (11, [.int rf, .int ((nI c)), .ref mm_sorts, .ref mm_sizes, .ref mm_directs, .ref mm_many, .ref mm_from, .ref mm_to, .ref mm_weight, .ref mm_cost, .ref mm_numbers, .ref mm_state, .ref mm_worth, .ref mm_long1, .ref mm_howMany, .ref mm_rows, .ref mm_inPart, .ref mm_partCount, .ref mm_nf, .ref mm_nt, .ref mm_nw, .ref mm_nc, .int nm, .ref mm_column, .ref mm_next, .ref mm_inside, .ref mm_beside, .ref mm_solid, .ref mm_below, .ref mm_best, .ref mm_ways1, .ref mm_round, .ref mm_round2, .ref mm_label, .ref mm_bridge, .ref mm_outs, .ref mm_ins, .ref mm_least, .ref mm_spans, .ref mm_joinedWith, .ref mm_gone, .ref mm_dear, .ref mm_by, .ref mm_ahead, .ref mm_image])) := (ho_4 y _ gc0)
  refine w_put (pc := 14) (ty := .int) (fs' := [.int 0, .int ((nI c)), .ref mm_sorts, .ref mm_sizes, .ref mm_directs, .ref mm_many, .ref mm_from, .ref mm_to, .ref mm_weight, .ref mm_cost, .ref mm_numbers, .ref mm_state, .ref mm_worth, .ref mm_long1, .ref mm_howMany, .ref mm_rows, .ref mm_inPart, .ref mm_partCount, .ref mm_nf, .ref mm_nt, .ref mm_nw, .ref mm_nc, .int nm, .ref mm_column, .ref mm_next, .ref mm_inside, .ref mm_beside, .ref mm_solid, .ref mm_below, .ref mm_best, .ref mm_ways1, .ref mm_round, .ref mm_round2, .ref mm_label, .ref mm_bridge, .ref mm_outs, .ref mm_ins, .ref mm_least, .ref mm_spans, .ref mm_joinedWith, .ref mm_gone, .ref mm_dear, .ref mm_by, .ref mm_ahead, .ref mm_image]) fX12_142 tyX12 tyX12_ok nmX12 (by decide +kernel) (Or.inl rfl) dX12_sort_14 h_5 (Nat.le_of_ble_eq_true rfl) (rfl) (rfl) rfl (fun hp_6 h_7 ho_8 => ?_)
  refine r_aload_n (pc := 17) dX12_sort_17 (i := 0) rfl rfl ?_
  refine r_get (pc := 18) (v := .int 0) fX12_142 dX12_sort_18 h_7 rfl ?_
  refine r_if_ne (pc := 21) (tgt := 33) dX12_sort_21 (by decide) (fun c9 => absurd c9 (by decide)) (fun _ => ?_)
  refine r_aload_n (pc := 24) dX12_sort_24 (i := 0) rfl rfl ?_
  refine r_get (pc := 25) (v := .ref mm_sorts) fX12_7 dX12_sort_25 h_7 rfl ?_
  refine r_iload_n (pc := 28) dX12_sort_28 (i := 1) rfl rfl ?_
  have h_9 : hp_6 mm_sorts = some (.inl (cI, 121, .inl (f0))) := ((ho_8 mm_sorts (ne_c gc1 gc0 (by intro h9; cases h9))).trans (ho_4 mm_sorts _ gc1))
  refine w_iald (pc := 29) (t0 := 0) (v := (f0 h)) dX12_sort_29 rfl h_9 (vp_in_nI (by omega) (by omega)) (congrArg f0 (nI_clamp (by omega))) ?_
  refine r_goto (pc := 30) (tgt := 34) dX12_sort_30 (by decide) ?_
  exact r_iret (pc := 34) dX12_sort_34 rfl (⟨rfl, rfl, h_7, fun q e9 h9 n9_0 => ((ho_8 q n9_0).trans (ho_4 q e9 h9 ))⟩)
set_option maxHeartbeats 4000000 in
set_option maxRecDepth 100000 in
theorem c_X12_isNode {D : va_G} {cI cJ cZ cT : ClassId} {lo b L : Nat} {xs : Nat → Int32} {hp : MH} {n d : Nat} {y mm_sorts mm_sizes mm_directs mm_many mm_from mm_to mm_weight mm_cost mm_numbers mm_state mm_worth mm_long1 mm_howMany mm_rows mm_inPart mm_partCount mm_nf mm_nt mm_nw mm_nc mm_column mm_next mm_inside mm_beside mm_solid mm_below mm_best mm_ways1 mm_round mm_round2 mm_label mm_bridge mm_outs mm_ins mm_least mm_spans mm_joinedWith mm_gone mm_dear mm_by mm_ahead mm_image : Nat} {rf cnt nm : Int32} {h N v : Nat} {f1 : Nat → Int32} (hd0 : 1 ≤ d) (gc0 : hp y = some (.inr (11, [.int rf, .int cnt, .ref mm_sorts, .ref mm_sizes, .ref mm_directs, .ref mm_many, .ref mm_from, .ref mm_to, .ref mm_weight, .ref mm_cost, .ref mm_numbers, .ref mm_state, .ref mm_worth, .ref mm_long1, .ref mm_howMany, .ref mm_rows, .ref mm_inPart, .ref mm_partCount, .ref mm_nf, .ref mm_nt, .ref mm_nw, .ref mm_nc, .int nm, .ref mm_column, .ref mm_next, .ref mm_inside, .ref mm_beside, .ref mm_solid, .ref mm_below, .ref mm_best, .ref mm_ways1, .ref mm_round, .ref mm_round2, .ref mm_label, .ref mm_bridge, .ref mm_outs, .ref mm_ins, .ref mm_least, .ref mm_spans, .ref mm_joinedWith, .ref mm_gone, .ref mm_dear, .ref mm_by, .ref mm_ahead, .ref mm_image]))) (gc1 : hp mm_sizes = some (.inl (cI, 121, .inl (f1)))) (hh : h ≤ 120) (hN : N ≤ 16) (hs : f1 h = nI N) (hv : v < N) : Mt (gG D cI cJ cZ cT lo b L xs) mX12_isNode d 0 0 [.ref y, .int ((nI h)), .int ((nI v))] hp n (fun r hp1 n1 => r = some (.int 1) ∧ n1 = n ∧ ∀ (q : Nat) (e9 : va_E), hp q = some e9 → hp1 q = some e9) := by
  refine Mt.of rfl (Nat.le_of_ble_eq_true rfl) ?_
  refine Rn.pick (lv' := [(0, .ref y), (1, .int ((nI h))), (2, .int ((nI v)))]) [0, 1, 2] rfl ?_
  refine r_iload_n (pc := 0) dX12_isNode_0 (i := 2) rfl rfl ?_
  refine r_if_lt (pc := 1) (tgt := 14) dX12_isNode_1 (by decide) (fun c9 => absurd c9 (nI_pos (by omega))) (fun _ => ?_)
  refine r_iload_n (pc := 4) dX12_isNode_4 (i := 2) rfl rfl ?_
  refine r_aload_n (pc := 5) dX12_isNode_5 (i := 0) rfl rfl ?_
  refine r_get (pc := 6) (v := .ref mm_sizes) fX12_13 dX12_isNode_6 gc0 rfl ?_
  refine r_iload_n (pc := 9) dX12_isNode_9 (i := 1) rfl rfl ?_
  refine w_iald (pc := 10) (t0 := 0) (v := (nI N)) dX12_isNode_10 rfl gc1 (vp_in_nI (by omega) (by omega)) (by rw [nI_clamp (by omega)]; exact hs) ?_
  refine r_icmp_lt (pc := 11) (tgt := 23) dX12_isNode_11 (by decide) (fun _ => ?_) (fun c9 => absurd (nI_lt hv (by omega)) c9)
  refine r_iconst (pc := 23) (v := 1) dX12_isNode_23 (by decide) ?_
  exact r_zret (pc := 24) dX12_isNode_24 rfl (by decide) (⟨rfl, rfl, fun q e9 h9 => h9⟩)
set_option maxHeartbeats 4000000 in
set_option maxRecDepth 100000 in
theorem c_X12_isNode_no {D : va_G} {cI cJ cZ cT : ClassId} {lo b L : Nat} {xs : Nat → Int32} {hp : MH} {n d : Nat} {y mm_sorts mm_sizes mm_directs mm_many mm_from mm_to mm_weight mm_cost mm_numbers mm_state mm_worth mm_long1 mm_howMany mm_rows mm_inPart mm_partCount mm_nf mm_nt mm_nw mm_nc mm_column mm_next mm_inside mm_beside mm_solid mm_below mm_best mm_ways1 mm_round mm_round2 mm_label mm_bridge mm_outs mm_ins mm_least mm_spans mm_joinedWith mm_gone mm_dear mm_by mm_ahead mm_image : Nat} {rf cnt nm : Int32} {h N : Nat} {p2 : Int32} {f1 : Nat → Int32} (hd0 : 1 ≤ d) (gc0 : hp y = some (.inr (11, [.int rf, .int cnt, .ref mm_sorts, .ref mm_sizes, .ref mm_directs, .ref mm_many, .ref mm_from, .ref mm_to, .ref mm_weight, .ref mm_cost, .ref mm_numbers, .ref mm_state, .ref mm_worth, .ref mm_long1, .ref mm_howMany, .ref mm_rows, .ref mm_inPart, .ref mm_partCount, .ref mm_nf, .ref mm_nt, .ref mm_nw, .ref mm_nc, .int nm, .ref mm_column, .ref mm_next, .ref mm_inside, .ref mm_beside, .ref mm_solid, .ref mm_below, .ref mm_best, .ref mm_ways1, .ref mm_round, .ref mm_round2, .ref mm_label, .ref mm_bridge, .ref mm_outs, .ref mm_ins, .ref mm_least, .ref mm_spans, .ref mm_joinedWith, .ref mm_gone, .ref mm_dear, .ref mm_by, .ref mm_ahead, .ref mm_image]))) (gc1 : hp mm_sizes = some (.inl (cI, 121, .inl (f1)))) (hh : h ≤ 120) (hs : f1 h = nI N) (hv : p2 < 0 ∨ nI N ≤ p2) : Mt (gG D cI cJ cZ cT lo b L xs) mX12_isNode d 0 0 [.ref y, .int ((nI h)), .int p2] hp n (fun r hp1 n1 => r = some (.int 0) ∧ n1 = n ∧ hp1 y = some (.inr (11, [.int ((-3)), .int cnt, .ref mm_sorts, .ref mm_sizes, .ref mm_directs, .ref mm_many, .ref mm_from, .ref mm_to, .ref mm_weight, .ref mm_cost, .ref mm_numbers, .ref mm_state, .ref mm_worth, .ref mm_long1, .ref mm_howMany, .ref mm_rows, .ref mm_inPart, .ref mm_partCount, .ref mm_nf, .ref mm_nt, .ref mm_nw, .ref mm_nc, .int nm, .ref mm_column, .ref mm_next, .ref mm_inside, .ref mm_beside, .ref mm_solid, .ref mm_below, .ref mm_best, .ref mm_ways1, .ref mm_round, .ref mm_round2, .ref mm_label, .ref mm_bridge, .ref mm_outs, .ref mm_ins, .ref mm_least, .ref mm_spans, .ref mm_joinedWith, .ref mm_gone, .ref mm_dear, .ref mm_by, .ref mm_ahead, .ref mm_image])) ∧ ∀ (q : Nat) (e9 : va_E), hp q = some e9 → q ≠ y → hp1 q = some e9) := by
  refine Mt.of rfl (Nat.le_of_ble_eq_true rfl) ?_
  refine Rn.pick (lv' := [(0, .ref y), (1, .int ((nI h))), (2, .int p2)]) [0, 1, 2] rfl ?_
  refine r_iload_n (pc := 0) dX12_isNode_0 (i := 2) rfl rfl ?_
  refine r_if_lt (pc := 1) (tgt := 14) dX12_isNode_1 (by decide) (fun c1 => ?_) (fun c1 => ?_)
  · refine r_aload_n (pc := 14) dX12_isNode_14 (i := 0) rfl rfl ?_
    refine r_bipush (pc := 15) (v := (-3)) dX12_isNode_15 (by decide) ?_
    refine r_callV (pc := 17) (as := [.int ((-3))]) (st := []) kX12_153 rfl dX12_isNode_17 gc0 (c_X12_refuse (d := d - 1) (y := y) (rf := rf) (cnt := cnt) (mm_sorts := mm_sorts) (mm_sizes := mm_sizes) (mm_directs := mm_directs) (mm_many := mm_many) (mm_from := mm_from) (mm_to := mm_to) (mm_weight := mm_weight) (mm_cost := mm_cost) (mm_numbers := mm_numbers) (mm_state := mm_state) (mm_worth := mm_worth) (mm_long1 := mm_long1) (mm_howMany := mm_howMany) (mm_rows := mm_rows) (mm_inPart := mm_inPart) (mm_partCount := mm_partCount) (mm_nf := mm_nf) (mm_nt := mm_nt) (mm_nw := mm_nw) (mm_nc := mm_nc) (nm := nm) (mm_column := mm_column) (mm_next := mm_next) (mm_inside := mm_inside) (mm_beside := mm_beside) (mm_solid := mm_solid) (mm_below := mm_below) (mm_best := mm_best) (mm_ways1 := mm_ways1) (mm_round := mm_round) (mm_round2 := mm_round2) (mm_label := mm_label) (mm_bridge := mm_bridge) (mm_outs := mm_outs) (mm_ins := mm_ins) (mm_least := mm_least) (mm_spans := mm_spans) (mm_joinedWith := mm_joinedWith) (mm_gone := mm_gone) (mm_dear := mm_dear) (mm_by := mm_by) (mm_ahead := mm_ahead) (mm_image := mm_image) (p1 := (-3)) (by omega) gc0 ) rfl (by omega) (Nat.le_of_ble_eq_true rfl) (by omega) (by omega) rfl (fun r9 hp_1 nn_2 hq_3 => ?_)
    obtain ⟨rfl, hq_3n, h_4, ho_5⟩ := hq_3
    subst nn_2
    change Rn _ _ _ 20 _ [.int ((-3))] _ _ _ _ _
    refine r_pop (pc := 20) dX12_isNode_20 rfl ?_
    refine r_iconst (pc := 21) (v := 0) dX12_isNode_21 (by decide) ?_
    exact r_zret (pc := 22) dX12_isNode_22 rfl (by decide) (⟨rfl, rfl, h_4, fun q e9 h9 n9_0 => (ho_5 q e9 h9 n9_0)⟩)
  · refine r_iload_n (pc := 4) dX12_isNode_4 (i := 2) rfl rfl ?_
    refine r_aload_n (pc := 5) dX12_isNode_5 (i := 0) rfl rfl ?_
    refine r_get (pc := 6) (v := .ref mm_sizes) fX12_13 dX12_isNode_6 gc0 rfl ?_
    refine r_iload_n (pc := 9) dX12_isNode_9 (i := 1) rfl rfl ?_
    refine w_iald (pc := 10) (t0 := 0) (v := (nI N)) dX12_isNode_10 rfl gc1 (vp_in_nI (by omega) (by omega)) (by rw [nI_clamp (by omega)]; exact hs) ?_
    refine r_icmp_lt (pc := 11) (tgt := 23) dX12_isNode_11 (by decide) (fun c11 => ?_) (fun c11 => ?_)
    · exact absurd hv (fun h9 => h9.elim c1 (fun h8 => absurd c11 (Int32.not_lt.mpr h8)))
    · refine r_aload_n (pc := 14) dX12_isNode_14 (i := 0) rfl rfl ?_
      refine r_bipush (pc := 15) (v := (-3)) dX12_isNode_15 (by decide) ?_
      refine r_callV (pc := 17) (as := [.int ((-3))]) (st := []) kX12_153 rfl dX12_isNode_17 gc0 (c_X12_refuse (d := d - 1) (y := y) (rf := rf) (cnt := cnt) (mm_sorts := mm_sorts) (mm_sizes := mm_sizes) (mm_directs := mm_directs) (mm_many := mm_many) (mm_from := mm_from) (mm_to := mm_to) (mm_weight := mm_weight) (mm_cost := mm_cost) (mm_numbers := mm_numbers) (mm_state := mm_state) (mm_worth := mm_worth) (mm_long1 := mm_long1) (mm_howMany := mm_howMany) (mm_rows := mm_rows) (mm_inPart := mm_inPart) (mm_partCount := mm_partCount) (mm_nf := mm_nf) (mm_nt := mm_nt) (mm_nw := mm_nw) (mm_nc := mm_nc) (nm := nm) (mm_column := mm_column) (mm_next := mm_next) (mm_inside := mm_inside) (mm_beside := mm_beside) (mm_solid := mm_solid) (mm_below := mm_below) (mm_best := mm_best) (mm_ways1 := mm_ways1) (mm_round := mm_round) (mm_round2 := mm_round2) (mm_label := mm_label) (mm_bridge := mm_bridge) (mm_outs := mm_outs) (mm_ins := mm_ins) (mm_least := mm_least) (mm_spans := mm_spans) (mm_joinedWith := mm_joinedWith) (mm_gone := mm_gone) (mm_dear := mm_dear) (mm_by := mm_by) (mm_ahead := mm_ahead) (mm_image := mm_image) (p1 := (-3)) (by omega) gc0 ) rfl (by omega) (Nat.le_of_ble_eq_true rfl) (by omega) (by omega) rfl (fun r9 hp_6 nn_7 hq_8 => ?_)
      obtain ⟨rfl, hq_8n, h_9, ho_10⟩ := hq_8
      subst nn_7
      change Rn _ _ _ 20 _ [.int ((-3))] _ _ _ _ _
      refine r_pop (pc := 20) dX12_isNode_20 rfl ?_
      refine r_iconst (pc := 21) (v := 0) dX12_isNode_21 (by decide) ?_
      exact r_zret (pc := 22) dX12_isNode_22 rfl (by decide) (⟨rfl, rfl, h_9, fun q e9 h9 n9_0 => (ho_10 q e9 h9 n9_0)⟩)
set_option maxHeartbeats 4000000 in
set_option maxRecDepth 100000 in
theorem c_X12_of_0 {D : va_G} {cI cJ cZ cT : ClassId} {lo b L : Nat} {xs : Nat → Int32} {hp : MH} {n d : Nat} {y mm_sorts mm_sizes mm_directs mm_many mm_from mm_to mm_weight mm_cost mm_numbers mm_state mm_worth mm_long1 mm_howMany mm_rows mm_inPart mm_partCount mm_nf mm_nt mm_nw mm_nc mm_column mm_next mm_inside mm_beside mm_solid mm_below mm_best mm_ways1 mm_round mm_round2 mm_label mm_bridge mm_outs mm_ins mm_least mm_spans mm_joinedWith mm_gone mm_dear mm_by mm_ahead mm_image : Nat} {rf nm p3 : Int32} {c h N m k : Nat} {q : Bool} {f0 f1 f2 f3 g1 g2 g3 g4 : Nat → Int32} (hd0 : 2 ≤ d) (gc0 : hp y = some (.inr (11, [.int rf, .int ((nI c)), .ref mm_sorts, .ref mm_sizes, .ref mm_directs, .ref mm_many, .ref mm_from, .ref mm_to, .ref mm_weight, .ref mm_cost, .ref mm_numbers, .ref mm_state, .ref mm_worth, .ref mm_long1, .ref mm_howMany, .ref mm_rows, .ref mm_inPart, .ref mm_partCount, .ref mm_nf, .ref mm_nt, .ref mm_nw, .ref mm_nc, .int nm, .ref mm_column, .ref mm_next, .ref mm_inside, .ref mm_beside, .ref mm_solid, .ref mm_below, .ref mm_best, .ref mm_ways1, .ref mm_round, .ref mm_round2, .ref mm_label, .ref mm_bridge, .ref mm_outs, .ref mm_ins, .ref mm_least, .ref mm_spans, .ref mm_joinedWith, .ref mm_gone, .ref mm_dear, .ref mm_by, .ref mm_ahead, .ref mm_image]))) (gc1 : hp mm_sorts = some (.inl (cI, 121, .inl (f0)))) (gc2 : hp mm_many = some (.inl (cI, 121, .inl (f3)))) (gc3 : hp mm_sizes = some (.inl (cI, 121, .inl (f1)))) (hh : h < c) (hc : c ≤ 120) (hs : f0 h = 1) (e1 : f1 h = nI N) (e2 : f2 h = bI q) (e3 : f3 h = nI m) (hm : m ≤ 60) : Mt (gG D cI cJ cZ cT lo b L xs) mX12_of d 0 0 [.ref y, .int ((nI h)), .int 0, .int p3] hp n (fun r hp1 n1 => r = some (.int ((nI N))) ∧ n1 = n ∧ hp1 y = some (.inr (11, [.int 0, .int ((nI c)), .ref mm_sorts, .ref mm_sizes, .ref mm_directs, .ref mm_many, .ref mm_from, .ref mm_to, .ref mm_weight, .ref mm_cost, .ref mm_numbers, .ref mm_state, .ref mm_worth, .ref mm_long1, .ref mm_howMany, .ref mm_rows, .ref mm_inPart, .ref mm_partCount, .ref mm_nf, .ref mm_nt, .ref mm_nw, .ref mm_nc, .int nm, .ref mm_column, .ref mm_next, .ref mm_inside, .ref mm_beside, .ref mm_solid, .ref mm_below, .ref mm_best, .ref mm_ways1, .ref mm_round, .ref mm_round2, .ref mm_label, .ref mm_bridge, .ref mm_outs, .ref mm_ins, .ref mm_least, .ref mm_spans, .ref mm_joinedWith, .ref mm_gone, .ref mm_dear, .ref mm_by, .ref mm_ahead, .ref mm_image])) ∧ ∀ (q : Nat) (e9 : va_E), hp q = some e9 → q ≠ y → hp1 q = some e9) := by
  refine Mt.of rfl (Nat.le_of_ble_eq_true rfl) ?_
  refine Rn.pick (lv' := [(0, .ref y), (1, .int ((nI h))), (2, .int 0), (3, .int p3)]) [0, 1, 2, 3] rfl ?_
  refine r_aload_n (pc := 0) dX12_of_0 (i := 0) rfl rfl ?_
  refine r_iload_n (pc := 1) dX12_of_1 (i := 1) rfl rfl ?_
  refine r_iconst (pc := 2) (v := 1) dX12_of_2 (by decide) ?_
  refine r_callV (pc := 3) (as := [.int ((nI h)), .int 1]) (st := []) kX12_183 rfl dX12_of_3 gc0 (c_X12_has_y (d := d - 1) (y := y) (rf := rf) (mm_sorts := mm_sorts) (mm_sizes := mm_sizes) (mm_directs := mm_directs) (mm_many := mm_many) (mm_from := mm_from) (mm_to := mm_to) (mm_weight := mm_weight) (mm_cost := mm_cost) (mm_numbers := mm_numbers) (mm_state := mm_state) (mm_worth := mm_worth) (mm_long1 := mm_long1) (mm_howMany := mm_howMany) (mm_rows := mm_rows) (mm_inPart := mm_inPart) (mm_partCount := mm_partCount) (mm_nf := mm_nf) (mm_nt := mm_nt) (mm_nw := mm_nw) (mm_nc := mm_nc) (nm := nm) (mm_column := mm_column) (mm_next := mm_next) (mm_inside := mm_inside) (mm_beside := mm_beside) (mm_solid := mm_solid) (mm_below := mm_below) (mm_best := mm_best) (mm_ways1 := mm_ways1) (mm_round := mm_round) (mm_round2 := mm_round2) (mm_label := mm_label) (mm_bridge := mm_bridge) (mm_outs := mm_outs) (mm_ins := mm_ins) (mm_least := mm_least) (mm_spans := mm_spans) (mm_joinedWith := mm_joinedWith) (mm_gone := mm_gone) (mm_dear := mm_dear) (mm_by := mm_by) (mm_ahead := mm_ahead) (mm_image := mm_image) (c := c) (h := h) (p2 := 1) (f0 := f0) (by omega) gc0 gc1 (hh) (hc) (hs)) rfl (by omega) (Nat.le_of_ble_eq_true rfl) (by omega) (by omega) rfl (fun r9 hp_1 nn_2 hq_3 => ?_)
  obtain ⟨rfl, hq_3n, h_4, ho_5⟩ := hq_3
  subst nn_2
  change Rn _ _ _ 6 _ [.int 1] _ _ _ _ _
  refine r_if_ne (pc := 6) (tgt := 11) dX12_of_6 (by decide) (fun _ => ?_) (fun c9 => absurd (by decide) c9)
  refine r_iload_n (pc := 11) dX12_of_11 (i := 2) rfl rfl ?_
  refine r_if_lt (pc := 12) (tgt := 40) dX12_of_12 (by decide) (fun c9 => absurd c9 (by decide)) (fun _ => ?_)
  refine r_iload_n (pc := 15) dX12_of_15 (i := 2) rfl rfl ?_
  refine r_bipush (pc := 16) (v := 6) dX12_of_16 (by decide) ?_
  refine r_icmp_gt (pc := 18) (tgt := 40) dX12_of_18 (by decide) (fun c9 => absurd c9 (by decide)) (fun _ => ?_)
  refine r_iload_n (pc := 21) dX12_of_21 (i := 2) rfl rfl ?_
  refine r_iconst (pc := 22) (v := 2) dX12_of_22 (by decide) ?_
  refine r_icmp_le (pc := 23) (tgt := 49) dX12_of_23 (by decide) (fun _ => ?_) (fun c9 => absurd (by decide) c9)
  refine r_iload_n (pc := 49) dX12_of_49 (i := 2) rfl rfl ?_
  refine r_iconst (pc := 50) (v := 2) dX12_of_50 (by decide) ?_
  refine r_icmp_le (pc := 51) (tgt := 62) dX12_of_51 (by decide) (fun _ => ?_) (fun c9 => absurd (by decide) c9)
  refine r_iconst (pc := 62) (v := 0) dX12_of_62 (by decide) ?_
  refine r_istore (pc := 63) (lv' := [(4, .int 0), (0, .ref y), (1, .int ((nI h))), (2, .int 0), (3, .int p3)]) dX12_of_63 (by decide) rfl ?_
  refine r_iload_n (pc := 65) dX12_of_65 (i := 2) rfl rfl ?_
  refine r_if_ne (pc := 66) (tgt := 78) dX12_of_66 (by decide) (fun c9 => absurd c9 (by decide)) (fun _ => ?_)
  refine r_aload_n (pc := 69) dX12_of_69 (i := 0) rfl rfl ?_
  refine r_get (pc := 70) (v := .ref mm_sizes) fX12_13 dX12_of_70 h_4 rfl ?_
  refine r_iload_n (pc := 73) dX12_of_73 (i := 1) rfl rfl ?_
  have h_6 : hp_1 mm_sizes = some (.inl (cI, 121, .inl (f1))) := (ho_5 mm_sizes _ gc3 (ne_c gc3 gc0 (by intro h9; cases h9)))
  refine w_iald (pc := 74) (t0 := 0) (v := (nI N)) dX12_of_74 rfl h_6 (vp_in_nI (by omega) (by omega)) (by rw [nI_clamp (by omega)]; exact e1) ?_
  refine r_goto (pc := 75) (tgt := 166) dX12_of_75 (by decide) ?_
  exact r_iret (pc := 166) dX12_of_166 rfl (⟨rfl, rfl, h_4, fun q e9 h9 n9_0 => (ho_5 q e9 h9 n9_0)⟩)
set_option maxHeartbeats 4000000 in
set_option maxRecDepth 100000 in
theorem c_X12_of_1 {D : va_G} {cI cJ cZ cT : ClassId} {lo b L : Nat} {xs : Nat → Int32} {hp : MH} {n d : Nat} {y mm_sorts mm_sizes mm_directs mm_many mm_from mm_to mm_weight mm_cost mm_numbers mm_state mm_worth mm_long1 mm_howMany mm_rows mm_inPart mm_partCount mm_nf mm_nt mm_nw mm_nc mm_column mm_next mm_inside mm_beside mm_solid mm_below mm_best mm_ways1 mm_round mm_round2 mm_label mm_bridge mm_outs mm_ins mm_least mm_spans mm_joinedWith mm_gone mm_dear mm_by mm_ahead mm_image : Nat} {rf nm p3 : Int32} {c h N m k : Nat} {q : Bool} {f0 f1 f2 f3 g1 g2 g3 g4 : Nat → Int32} (hd0 : 2 ≤ d) (gc0 : hp y = some (.inr (11, [.int rf, .int ((nI c)), .ref mm_sorts, .ref mm_sizes, .ref mm_directs, .ref mm_many, .ref mm_from, .ref mm_to, .ref mm_weight, .ref mm_cost, .ref mm_numbers, .ref mm_state, .ref mm_worth, .ref mm_long1, .ref mm_howMany, .ref mm_rows, .ref mm_inPart, .ref mm_partCount, .ref mm_nf, .ref mm_nt, .ref mm_nw, .ref mm_nc, .int nm, .ref mm_column, .ref mm_next, .ref mm_inside, .ref mm_beside, .ref mm_solid, .ref mm_below, .ref mm_best, .ref mm_ways1, .ref mm_round, .ref mm_round2, .ref mm_label, .ref mm_bridge, .ref mm_outs, .ref mm_ins, .ref mm_least, .ref mm_spans, .ref mm_joinedWith, .ref mm_gone, .ref mm_dear, .ref mm_by, .ref mm_ahead, .ref mm_image]))) (gc1 : hp mm_sorts = some (.inl (cI, 121, .inl (f0)))) (gc2 : hp mm_many = some (.inl (cI, 121, .inl (f3)))) (hh : h < c) (hc : c ≤ 120) (hs : f0 h = 1) (e1 : f1 h = nI N) (e2 : f2 h = bI q) (e3 : f3 h = nI m) (hm : m ≤ 60) : Mt (gG D cI cJ cZ cT lo b L xs) mX12_of d 0 0 [.ref y, .int ((nI h)), .int 1, .int p3] hp n (fun r hp1 n1 => r = some (.int ((nI m))) ∧ n1 = n ∧ hp1 y = some (.inr (11, [.int 0, .int ((nI c)), .ref mm_sorts, .ref mm_sizes, .ref mm_directs, .ref mm_many, .ref mm_from, .ref mm_to, .ref mm_weight, .ref mm_cost, .ref mm_numbers, .ref mm_state, .ref mm_worth, .ref mm_long1, .ref mm_howMany, .ref mm_rows, .ref mm_inPart, .ref mm_partCount, .ref mm_nf, .ref mm_nt, .ref mm_nw, .ref mm_nc, .int nm, .ref mm_column, .ref mm_next, .ref mm_inside, .ref mm_beside, .ref mm_solid, .ref mm_below, .ref mm_best, .ref mm_ways1, .ref mm_round, .ref mm_round2, .ref mm_label, .ref mm_bridge, .ref mm_outs, .ref mm_ins, .ref mm_least, .ref mm_spans, .ref mm_joinedWith, .ref mm_gone, .ref mm_dear, .ref mm_by, .ref mm_ahead, .ref mm_image])) ∧ ∀ (q : Nat) (e9 : va_E), hp q = some e9 → q ≠ y → hp1 q = some e9) := by
  refine Mt.of rfl (Nat.le_of_ble_eq_true rfl) ?_
  refine Rn.pick (lv' := [(0, .ref y), (1, .int ((nI h))), (2, .int 1), (3, .int p3)]) [0, 1, 2, 3] rfl ?_
  refine r_aload_n (pc := 0) dX12_of_0 (i := 0) rfl rfl ?_
  refine r_iload_n (pc := 1) dX12_of_1 (i := 1) rfl rfl ?_
  refine r_iconst (pc := 2) (v := 1) dX12_of_2 (by decide) ?_
  refine r_callV (pc := 3) (as := [.int ((nI h)), .int 1]) (st := []) kX12_183 rfl dX12_of_3 gc0 (c_X12_has_y (d := d - 1) (y := y) (rf := rf) (mm_sorts := mm_sorts) (mm_sizes := mm_sizes) (mm_directs := mm_directs) (mm_many := mm_many) (mm_from := mm_from) (mm_to := mm_to) (mm_weight := mm_weight) (mm_cost := mm_cost) (mm_numbers := mm_numbers) (mm_state := mm_state) (mm_worth := mm_worth) (mm_long1 := mm_long1) (mm_howMany := mm_howMany) (mm_rows := mm_rows) (mm_inPart := mm_inPart) (mm_partCount := mm_partCount) (mm_nf := mm_nf) (mm_nt := mm_nt) (mm_nw := mm_nw) (mm_nc := mm_nc) (nm := nm) (mm_column := mm_column) (mm_next := mm_next) (mm_inside := mm_inside) (mm_beside := mm_beside) (mm_solid := mm_solid) (mm_below := mm_below) (mm_best := mm_best) (mm_ways1 := mm_ways1) (mm_round := mm_round) (mm_round2 := mm_round2) (mm_label := mm_label) (mm_bridge := mm_bridge) (mm_outs := mm_outs) (mm_ins := mm_ins) (mm_least := mm_least) (mm_spans := mm_spans) (mm_joinedWith := mm_joinedWith) (mm_gone := mm_gone) (mm_dear := mm_dear) (mm_by := mm_by) (mm_ahead := mm_ahead) (mm_image := mm_image) (c := c) (h := h) (p2 := 1) (f0 := f0) (by omega) gc0 gc1 (hh) (hc) (hs)) rfl (by omega) (Nat.le_of_ble_eq_true rfl) (by omega) (by omega) rfl (fun r9 hp_1 nn_2 hq_3 => ?_)
  obtain ⟨rfl, hq_3n, h_4, ho_5⟩ := hq_3
  subst nn_2
  change Rn _ _ _ 6 _ [.int 1] _ _ _ _ _
  refine r_if_ne (pc := 6) (tgt := 11) dX12_of_6 (by decide) (fun _ => ?_) (fun c9 => absurd (by decide) c9)
  refine r_iload_n (pc := 11) dX12_of_11 (i := 2) rfl rfl ?_
  refine r_if_lt (pc := 12) (tgt := 40) dX12_of_12 (by decide) (fun c9 => absurd c9 (by decide)) (fun _ => ?_)
  refine r_iload_n (pc := 15) dX12_of_15 (i := 2) rfl rfl ?_
  refine r_bipush (pc := 16) (v := 6) dX12_of_16 (by decide) ?_
  refine r_icmp_gt (pc := 18) (tgt := 40) dX12_of_18 (by decide) (fun c9 => absurd c9 (by decide)) (fun _ => ?_)
  refine r_iload_n (pc := 21) dX12_of_21 (i := 2) rfl rfl ?_
  refine r_iconst (pc := 22) (v := 2) dX12_of_22 (by decide) ?_
  refine r_icmp_le (pc := 23) (tgt := 49) dX12_of_23 (by decide) (fun _ => ?_) (fun c9 => absurd (by decide) c9)
  refine r_iload_n (pc := 49) dX12_of_49 (i := 2) rfl rfl ?_
  refine r_iconst (pc := 50) (v := 2) dX12_of_50 (by decide) ?_
  refine r_icmp_le (pc := 51) (tgt := 62) dX12_of_51 (by decide) (fun _ => ?_) (fun c9 => absurd (by decide) c9)
  refine r_iconst (pc := 62) (v := 0) dX12_of_62 (by decide) ?_
  refine r_istore (pc := 63) (lv' := [(4, .int 0), (0, .ref y), (1, .int ((nI h))), (2, .int 1), (3, .int p3)]) dX12_of_63 (by decide) rfl ?_
  refine r_iload_n (pc := 65) dX12_of_65 (i := 2) rfl rfl ?_
  refine r_if_ne (pc := 66) (tgt := 78) dX12_of_66 (by decide) (fun _ => ?_) (fun c9 => absurd (by decide) c9)
  refine r_iload_n (pc := 78) dX12_of_78 (i := 2) rfl rfl ?_
  refine r_iconst (pc := 79) (v := 1) dX12_of_79 (by decide) ?_
  refine r_icmp_ne (pc := 80) (tgt := 92) dX12_of_80 (by decide) (fun c9 => absurd c9 (by decide)) (fun _ => ?_)
  refine r_aload_n (pc := 83) dX12_of_83 (i := 0) rfl rfl ?_
  refine r_get (pc := 84) (v := .ref mm_many) fX12_20 dX12_of_84 h_4 rfl ?_
  refine r_iload_n (pc := 87) dX12_of_87 (i := 1) rfl rfl ?_
  have h_6 : hp_1 mm_many = some (.inl (cI, 121, .inl (f3))) := (ho_5 mm_many _ gc2 (ne_c gc2 gc0 (by intro h9; cases h9)))
  refine w_iald (pc := 88) (t0 := 0) (v := (nI m)) dX12_of_88 rfl h_6 (vp_in_nI (by omega) (by omega)) (by rw [nI_clamp (by omega)]; exact e3) ?_
  refine r_goto (pc := 89) (tgt := 166) dX12_of_89 (by decide) ?_
  exact r_iret (pc := 166) dX12_of_166 rfl (⟨rfl, rfl, h_4, fun q e9 h9 n9_0 => (ho_5 q e9 h9 n9_0)⟩)
set_option maxHeartbeats 4000000 in
set_option maxRecDepth 100000 in
theorem c_X12_of_2 {D : va_G} {cI cJ cZ cT : ClassId} {lo b L : Nat} {xs : Nat → Int32} {hp : MH} {n d : Nat} {y mm_sorts mm_sizes mm_directs mm_many mm_from mm_to mm_weight mm_cost mm_numbers mm_state mm_worth mm_long1 mm_howMany mm_rows mm_inPart mm_partCount mm_nf mm_nt mm_nw mm_nc mm_column mm_next mm_inside mm_beside mm_solid mm_below mm_best mm_ways1 mm_round mm_round2 mm_label mm_bridge mm_outs mm_ins mm_least mm_spans mm_joinedWith mm_gone mm_dear mm_by mm_ahead mm_image : Nat} {rf nm p3 : Int32} {c h N m k : Nat} {q : Bool} {f0 f1 f2 f3 g1 g2 g3 g4 : Nat → Int32} (hd0 : 2 ≤ d) (gc0 : hp y = some (.inr (11, [.int rf, .int ((nI c)), .ref mm_sorts, .ref mm_sizes, .ref mm_directs, .ref mm_many, .ref mm_from, .ref mm_to, .ref mm_weight, .ref mm_cost, .ref mm_numbers, .ref mm_state, .ref mm_worth, .ref mm_long1, .ref mm_howMany, .ref mm_rows, .ref mm_inPart, .ref mm_partCount, .ref mm_nf, .ref mm_nt, .ref mm_nw, .ref mm_nc, .int nm, .ref mm_column, .ref mm_next, .ref mm_inside, .ref mm_beside, .ref mm_solid, .ref mm_below, .ref mm_best, .ref mm_ways1, .ref mm_round, .ref mm_round2, .ref mm_label, .ref mm_bridge, .ref mm_outs, .ref mm_ins, .ref mm_least, .ref mm_spans, .ref mm_joinedWith, .ref mm_gone, .ref mm_dear, .ref mm_by, .ref mm_ahead, .ref mm_image]))) (gc1 : hp mm_sorts = some (.inl (cI, 121, .inl (f0)))) (gc2 : hp mm_many = some (.inl (cI, 121, .inl (f3)))) (gc3 : hp mm_directs = some (.inl (cZ, 121, .inl (f2)))) (hh : h < c) (hc : c ≤ 120) (hs : f0 h = 1) (e1 : f1 h = nI N) (e2 : f2 h = bI q) (e3 : f3 h = nI m) (hm : m ≤ 60) : Mt (gG D cI cJ cZ cT lo b L xs) mX12_of d 0 0 [.ref y, .int ((nI h)), .int 2, .int p3] hp n (fun r hp1 n1 => r = some (.int ((bI q))) ∧ n1 = n ∧ hp1 y = some (.inr (11, [.int 0, .int ((nI c)), .ref mm_sorts, .ref mm_sizes, .ref mm_directs, .ref mm_many, .ref mm_from, .ref mm_to, .ref mm_weight, .ref mm_cost, .ref mm_numbers, .ref mm_state, .ref mm_worth, .ref mm_long1, .ref mm_howMany, .ref mm_rows, .ref mm_inPart, .ref mm_partCount, .ref mm_nf, .ref mm_nt, .ref mm_nw, .ref mm_nc, .int nm, .ref mm_column, .ref mm_next, .ref mm_inside, .ref mm_beside, .ref mm_solid, .ref mm_below, .ref mm_best, .ref mm_ways1, .ref mm_round, .ref mm_round2, .ref mm_label, .ref mm_bridge, .ref mm_outs, .ref mm_ins, .ref mm_least, .ref mm_spans, .ref mm_joinedWith, .ref mm_gone, .ref mm_dear, .ref mm_by, .ref mm_ahead, .ref mm_image])) ∧ ∀ (q : Nat) (e9 : va_E), hp q = some e9 → q ≠ y → hp1 q = some e9) := by
  refine Mt.of rfl (Nat.le_of_ble_eq_true rfl) ?_
  refine Rn.pick (lv' := [(0, .ref y), (1, .int ((nI h))), (2, .int 2), (3, .int p3)]) [0, 1, 2, 3] rfl ?_
  refine r_aload_n (pc := 0) dX12_of_0 (i := 0) rfl rfl ?_
  refine r_iload_n (pc := 1) dX12_of_1 (i := 1) rfl rfl ?_
  refine r_iconst (pc := 2) (v := 1) dX12_of_2 (by decide) ?_
  refine r_callV (pc := 3) (as := [.int ((nI h)), .int 1]) (st := []) kX12_183 rfl dX12_of_3 gc0 (c_X12_has_y (d := d - 1) (y := y) (rf := rf) (mm_sorts := mm_sorts) (mm_sizes := mm_sizes) (mm_directs := mm_directs) (mm_many := mm_many) (mm_from := mm_from) (mm_to := mm_to) (mm_weight := mm_weight) (mm_cost := mm_cost) (mm_numbers := mm_numbers) (mm_state := mm_state) (mm_worth := mm_worth) (mm_long1 := mm_long1) (mm_howMany := mm_howMany) (mm_rows := mm_rows) (mm_inPart := mm_inPart) (mm_partCount := mm_partCount) (mm_nf := mm_nf) (mm_nt := mm_nt) (mm_nw := mm_nw) (mm_nc := mm_nc) (nm := nm) (mm_column := mm_column) (mm_next := mm_next) (mm_inside := mm_inside) (mm_beside := mm_beside) (mm_solid := mm_solid) (mm_below := mm_below) (mm_best := mm_best) (mm_ways1 := mm_ways1) (mm_round := mm_round) (mm_round2 := mm_round2) (mm_label := mm_label) (mm_bridge := mm_bridge) (mm_outs := mm_outs) (mm_ins := mm_ins) (mm_least := mm_least) (mm_spans := mm_spans) (mm_joinedWith := mm_joinedWith) (mm_gone := mm_gone) (mm_dear := mm_dear) (mm_by := mm_by) (mm_ahead := mm_ahead) (mm_image := mm_image) (c := c) (h := h) (p2 := 1) (f0 := f0) (by omega) gc0 gc1 (hh) (hc) (hs)) rfl (by omega) (Nat.le_of_ble_eq_true rfl) (by omega) (by omega) rfl (fun r9 hp_1 nn_2 hq_3 => ?_)
  obtain ⟨rfl, hq_3n, h_4, ho_5⟩ := hq_3
  subst nn_2
  change Rn _ _ _ 6 _ [.int 1] _ _ _ _ _
  refine r_if_ne (pc := 6) (tgt := 11) dX12_of_6 (by decide) (fun _ => ?_) (fun c9 => absurd (by decide) c9)
  refine r_iload_n (pc := 11) dX12_of_11 (i := 2) rfl rfl ?_
  refine r_if_lt (pc := 12) (tgt := 40) dX12_of_12 (by decide) (fun c9 => absurd c9 (by decide)) (fun _ => ?_)
  refine r_iload_n (pc := 15) dX12_of_15 (i := 2) rfl rfl ?_
  refine r_bipush (pc := 16) (v := 6) dX12_of_16 (by decide) ?_
  refine r_icmp_gt (pc := 18) (tgt := 40) dX12_of_18 (by decide) (fun c9 => absurd c9 (by decide)) (fun _ => ?_)
  refine r_iload_n (pc := 21) dX12_of_21 (i := 2) rfl rfl ?_
  refine r_iconst (pc := 22) (v := 2) dX12_of_22 (by decide) ?_
  refine r_icmp_le (pc := 23) (tgt := 49) dX12_of_23 (by decide) (fun _ => ?_) (fun c9 => absurd (by decide) c9)
  refine r_iload_n (pc := 49) dX12_of_49 (i := 2) rfl rfl ?_
  refine r_iconst (pc := 50) (v := 2) dX12_of_50 (by decide) ?_
  refine r_icmp_le (pc := 51) (tgt := 62) dX12_of_51 (by decide) (fun _ => ?_) (fun c9 => absurd (by decide) c9)
  refine r_iconst (pc := 62) (v := 0) dX12_of_62 (by decide) ?_
  refine r_istore (pc := 63) (lv' := [(4, .int 0), (0, .ref y), (1, .int ((nI h))), (2, .int 2), (3, .int p3)]) dX12_of_63 (by decide) rfl ?_
  refine r_iload_n (pc := 65) dX12_of_65 (i := 2) rfl rfl ?_
  refine r_if_ne (pc := 66) (tgt := 78) dX12_of_66 (by decide) (fun _ => ?_) (fun c9 => absurd (by decide) c9)
  refine r_iload_n (pc := 78) dX12_of_78 (i := 2) rfl rfl ?_
  refine r_iconst (pc := 79) (v := 1) dX12_of_79 (by decide) ?_
  refine r_icmp_ne (pc := 80) (tgt := 92) dX12_of_80 (by decide) (fun _ => ?_) (fun c9 => absurd (by decide) c9)
  refine r_iload_n (pc := 92) dX12_of_92 (i := 2) rfl rfl ?_
  refine r_iconst (pc := 93) (v := 2) dX12_of_93 (by decide) ?_
  refine r_icmp_ne (pc := 94) (tgt := 114) dX12_of_94 (by decide) (fun c9 => absurd c9 (by decide)) (fun _ => ?_)
  refine r_aload_n (pc := 97) dX12_of_97 (i := 0) rfl rfl ?_
  refine r_get (pc := 98) (v := .ref mm_directs) fX12_16 dX12_of_98 h_4 rfl ?_
  refine r_iload_n (pc := 101) dX12_of_101 (i := 1) rfl rfl ?_
  have h_6 : hp_1 mm_directs = some (.inl (cZ, 121, .inl (f2))) := (ho_5 mm_directs _ gc3 (ne_c gc3 gc0 (by intro h9; cases h9)))
  refine w_zald (pc := 102) (t0 := 2) (v := (bI q)) dX12_of_102 rfl h_6 (vp_in_nI (by omega) (by omega)) (by rw [nI_clamp (by omega)]; exact e2) ?_
  refine r_if_eq (pc := 103) (tgt := 110) dX12_of_103 (by decide) (fun c103 => ?_) (fun c103 => ?_)
  · refine r_iconst (pc := 110) (v := 0) dX12_of_110 (by decide) ?_
    refine r_goto (pc := 111) (tgt := 166) dX12_of_111 (by decide) ?_
    exact r_iret (pc := 166) dX12_of_166 rfl (⟨rI (by first | (rw [bI_t (bI_1 ‹_›)]) | (rw [bI_f (bI_0 ‹_›)])), rfl, h_4, fun q e9 h9 n9_0 => (ho_5 q e9 h9 n9_0)⟩)
  · refine r_iconst (pc := 106) (v := 1) dX12_of_106 (by decide) ?_
    refine r_goto (pc := 107) (tgt := 166) dX12_of_107 (by decide) ?_
    exact r_iret (pc := 166) dX12_of_166 rfl (⟨rI (by first | (rw [bI_t (bI_1 ‹_›)]) | (rw [bI_f (bI_0 ‹_›)])), rfl, h_4, fun q e9 h9 n9_0 => (ho_5 q e9 h9 n9_0)⟩)
set_option maxHeartbeats 4000000 in
set_option maxRecDepth 100000 in
theorem c_X12_of_3 {D : va_G} {cI cJ cZ cT : ClassId} {lo b L : Nat} {xs : Nat → Int32} {hp : MH} {n d : Nat} {y mm_sorts mm_sizes mm_directs mm_many mm_from mm_to mm_weight mm_cost mm_numbers mm_state mm_worth mm_long1 mm_howMany mm_rows mm_inPart mm_partCount mm_nf mm_nt mm_nw mm_nc mm_column mm_next mm_inside mm_beside mm_solid mm_below mm_best mm_ways1 mm_round mm_round2 mm_label mm_bridge mm_outs mm_ins mm_least mm_spans mm_joinedWith mm_gone mm_dear mm_by mm_ahead mm_image : Nat} {rf nm p3 : Int32} {c h N m k : Nat} {q : Bool} {f0 f1 f2 f3 g1 g2 g3 g4 : Nat → Int32} (hd0 : 2 ≤ d) (gc0 : hp y = some (.inr (11, [.int rf, .int ((nI c)), .ref mm_sorts, .ref mm_sizes, .ref mm_directs, .ref mm_many, .ref mm_from, .ref mm_to, .ref mm_weight, .ref mm_cost, .ref mm_numbers, .ref mm_state, .ref mm_worth, .ref mm_long1, .ref mm_howMany, .ref mm_rows, .ref mm_inPart, .ref mm_partCount, .ref mm_nf, .ref mm_nt, .ref mm_nw, .ref mm_nc, .int nm, .ref mm_column, .ref mm_next, .ref mm_inside, .ref mm_beside, .ref mm_solid, .ref mm_below, .ref mm_best, .ref mm_ways1, .ref mm_round, .ref mm_round2, .ref mm_label, .ref mm_bridge, .ref mm_outs, .ref mm_ins, .ref mm_least, .ref mm_spans, .ref mm_joinedWith, .ref mm_gone, .ref mm_dear, .ref mm_by, .ref mm_ahead, .ref mm_image]))) (gc1 : hp mm_sorts = some (.inl (cI, 121, .inl (f0)))) (gc2 : hp mm_many = some (.inl (cI, 121, .inl (f3)))) (gc3 : hp mm_from = some (.inl (cI, 7260, .inl (g1)))) (hh : h < c) (hc : c ≤ 120) (hs : f0 h = 1) (e1 : f1 h = nI N) (e2 : f2 h = bI q) (e3 : f3 h = nI m) (hm : m ≤ 60) (hk : k < m) : Mt (gG D cI cJ cZ cT lo b L xs) mX12_of d 0 0 [.ref y, .int ((nI h)), .int 3, .int ((nI k))] hp n (fun r hp1 n1 => r = some (.int ((g1 (60 * h + k)))) ∧ n1 = n ∧ hp1 y = some (.inr (11, [.int 0, .int ((nI c)), .ref mm_sorts, .ref mm_sizes, .ref mm_directs, .ref mm_many, .ref mm_from, .ref mm_to, .ref mm_weight, .ref mm_cost, .ref mm_numbers, .ref mm_state, .ref mm_worth, .ref mm_long1, .ref mm_howMany, .ref mm_rows, .ref mm_inPart, .ref mm_partCount, .ref mm_nf, .ref mm_nt, .ref mm_nw, .ref mm_nc, .int nm, .ref mm_column, .ref mm_next, .ref mm_inside, .ref mm_beside, .ref mm_solid, .ref mm_below, .ref mm_best, .ref mm_ways1, .ref mm_round, .ref mm_round2, .ref mm_label, .ref mm_bridge, .ref mm_outs, .ref mm_ins, .ref mm_least, .ref mm_spans, .ref mm_joinedWith, .ref mm_gone, .ref mm_dear, .ref mm_by, .ref mm_ahead, .ref mm_image])) ∧ ∀ (q : Nat) (e9 : va_E), hp q = some e9 → q ≠ y → hp1 q = some e9) := by
  refine Mt.of rfl (Nat.le_of_ble_eq_true rfl) ?_
  refine Rn.pick (lv' := [(0, .ref y), (1, .int ((nI h))), (2, .int 3), (3, .int ((nI k)))]) [0, 1, 2, 3] rfl ?_
  refine r_aload_n (pc := 0) dX12_of_0 (i := 0) rfl rfl ?_
  refine r_iload_n (pc := 1) dX12_of_1 (i := 1) rfl rfl ?_
  refine r_iconst (pc := 2) (v := 1) dX12_of_2 (by decide) ?_
  refine r_callV (pc := 3) (as := [.int ((nI h)), .int 1]) (st := []) kX12_183 rfl dX12_of_3 gc0 (c_X12_has_y (d := d - 1) (y := y) (rf := rf) (mm_sorts := mm_sorts) (mm_sizes := mm_sizes) (mm_directs := mm_directs) (mm_many := mm_many) (mm_from := mm_from) (mm_to := mm_to) (mm_weight := mm_weight) (mm_cost := mm_cost) (mm_numbers := mm_numbers) (mm_state := mm_state) (mm_worth := mm_worth) (mm_long1 := mm_long1) (mm_howMany := mm_howMany) (mm_rows := mm_rows) (mm_inPart := mm_inPart) (mm_partCount := mm_partCount) (mm_nf := mm_nf) (mm_nt := mm_nt) (mm_nw := mm_nw) (mm_nc := mm_nc) (nm := nm) (mm_column := mm_column) (mm_next := mm_next) (mm_inside := mm_inside) (mm_beside := mm_beside) (mm_solid := mm_solid) (mm_below := mm_below) (mm_best := mm_best) (mm_ways1 := mm_ways1) (mm_round := mm_round) (mm_round2 := mm_round2) (mm_label := mm_label) (mm_bridge := mm_bridge) (mm_outs := mm_outs) (mm_ins := mm_ins) (mm_least := mm_least) (mm_spans := mm_spans) (mm_joinedWith := mm_joinedWith) (mm_gone := mm_gone) (mm_dear := mm_dear) (mm_by := mm_by) (mm_ahead := mm_ahead) (mm_image := mm_image) (c := c) (h := h) (p2 := 1) (f0 := f0) (by omega) gc0 gc1 (hh) (hc) (hs)) rfl (by omega) (Nat.le_of_ble_eq_true rfl) (by omega) (by omega) rfl (fun r9 hp_1 nn_2 hq_3 => ?_)
  obtain ⟨rfl, hq_3n, h_4, ho_5⟩ := hq_3
  subst nn_2
  change Rn _ _ _ 6 _ [.int 1] _ _ _ _ _
  refine r_if_ne (pc := 6) (tgt := 11) dX12_of_6 (by decide) (fun _ => ?_) (fun c9 => absurd (by decide) c9)
  refine r_iload_n (pc := 11) dX12_of_11 (i := 2) rfl rfl ?_
  refine r_if_lt (pc := 12) (tgt := 40) dX12_of_12 (by decide) (fun c9 => absurd c9 (by decide)) (fun _ => ?_)
  refine r_iload_n (pc := 15) dX12_of_15 (i := 2) rfl rfl ?_
  refine r_bipush (pc := 16) (v := 6) dX12_of_16 (by decide) ?_
  refine r_icmp_gt (pc := 18) (tgt := 40) dX12_of_18 (by decide) (fun c9 => absurd c9 (by decide)) (fun _ => ?_)
  refine r_iload_n (pc := 21) dX12_of_21 (i := 2) rfl rfl ?_
  refine r_iconst (pc := 22) (v := 2) dX12_of_22 (by decide) ?_
  refine r_icmp_le (pc := 23) (tgt := 49) dX12_of_23 (by decide) (fun c9 => absurd c9 (by decide)) (fun _ => ?_)
  refine r_iload_n (pc := 26) dX12_of_26 (i := 3) rfl rfl ?_
  refine r_if_lt (pc := 27) (tgt := 40) dX12_of_27 (by decide) (fun c9 => absurd c9 (nI_pos (by omega))) (fun _ => ?_)
  refine r_iload_n (pc := 30) dX12_of_30 (i := 3) rfl rfl ?_
  refine r_aload_n (pc := 31) dX12_of_31 (i := 0) rfl rfl ?_
  refine r_get (pc := 32) (v := .ref mm_many) fX12_20 dX12_of_32 h_4 rfl ?_
  refine r_iload_n (pc := 35) dX12_of_35 (i := 1) rfl rfl ?_
  have h_6 : hp_1 mm_many = some (.inl (cI, 121, .inl (f3))) := (ho_5 mm_many _ gc2 (ne_c gc2 gc0 (by intro h9; cases h9)))
  refine w_iald (pc := 36) (t0 := 0) (v := (nI m)) dX12_of_36 rfl h_6 (vp_in_nI (by omega) (by omega)) (by rw [nI_clamp (by omega)]; exact e3) ?_
  refine r_icmp_lt (pc := 37) (tgt := 49) dX12_of_37 (by decide) (fun _ => ?_) (fun c9 => absurd (nI_lt hk (by omega)) c9)
  refine r_iload_n (pc := 49) dX12_of_49 (i := 2) rfl rfl ?_
  refine r_iconst (pc := 50) (v := 2) dX12_of_50 (by decide) ?_
  refine r_icmp_le (pc := 51) (tgt := 62) dX12_of_51 (by decide) (fun c9 => absurd c9 (by decide)) (fun _ => ?_)
  refine r_iload_n (pc := 54) dX12_of_54 (i := 1) rfl rfl ?_
  refine r_iload_n (pc := 55) dX12_of_55 (i := 3) rfl rfl ?_
  refine r_callS (pc := 56) (as := [.int ((nI h)), .int ((nI k))]) (st := []) kX12_157 dX12_of_56 (c_X12_at1 (d := d - 1) (g := h) (k := k) (by omega)  ) rfl (by omega) (Nat.le_of_ble_eq_true rfl) (by omega) (by omega) rfl (fun r9 hp_7 nn_8 hq_9 => ?_)
  obtain ⟨rfl, hq_9n, ho_10⟩ := hq_9
  subst nn_8
  change Rn _ _ _ 59 _ [.int ((nI (60 * h + k)))] _ _ _ _ _
  refine r_goto (pc := 59) (tgt := 63) dX12_of_59 (by decide) ?_
  refine r_istore (pc := 63) (lv' := [(4, .int ((nI (60 * h + k)))), (0, .ref y), (1, .int ((nI h))), (2, .int 3), (3, .int ((nI k)))]) dX12_of_63 (by decide) rfl ?_
  refine r_iload_n (pc := 65) dX12_of_65 (i := 2) rfl rfl ?_
  refine r_if_ne (pc := 66) (tgt := 78) dX12_of_66 (by decide) (fun _ => ?_) (fun c9 => absurd (by decide) c9)
  refine r_iload_n (pc := 78) dX12_of_78 (i := 2) rfl rfl ?_
  refine r_iconst (pc := 79) (v := 1) dX12_of_79 (by decide) ?_
  refine r_icmp_ne (pc := 80) (tgt := 92) dX12_of_80 (by decide) (fun _ => ?_) (fun c9 => absurd (by decide) c9)
  refine r_iload_n (pc := 92) dX12_of_92 (i := 2) rfl rfl ?_
  refine r_iconst (pc := 93) (v := 2) dX12_of_93 (by decide) ?_
  refine r_icmp_ne (pc := 94) (tgt := 114) dX12_of_94 (by decide) (fun _ => ?_) (fun c9 => absurd (by decide) c9)
  refine r_iload_n (pc := 114) dX12_of_114 (i := 2) rfl rfl ?_
  refine r_iconst (pc := 115) (v := 3) dX12_of_115 (by decide) ?_
  refine r_icmp_ne (pc := 116) (tgt := 129) dX12_of_116 (by decide) (fun c9 => absurd c9 (by decide)) (fun _ => ?_)
  refine r_aload_n (pc := 119) dX12_of_119 (i := 0) rfl rfl ?_
  have h_11 : hp_7 y = some (.inr (11, [.int 0, .int ((nI c)), .ref mm_sorts, .ref mm_sizes, .ref mm_directs, .ref mm_many, .ref mm_from, .ref mm_to, .ref mm_weight, .ref mm_cost, .ref mm_numbers, .ref mm_state, .ref mm_worth, .ref mm_long1, .ref mm_howMany, .ref mm_rows, .ref mm_inPart, .ref mm_partCount, .ref mm_nf, .ref mm_nt, .ref mm_nw, .ref mm_nc, .int nm, .ref mm_column, .ref mm_next, .ref mm_inside, .ref mm_beside, .ref mm_solid, .ref mm_below, .ref mm_best, .ref mm_ways1, .ref mm_round, .ref mm_round2, .ref mm_label, .ref mm_bridge, .ref mm_outs, .ref mm_ins, .ref mm_least, .ref mm_spans, .ref mm_joinedWith, .ref mm_gone, .ref mm_dear, .ref mm_by, .ref mm_ahead, .ref mm_image])) := (ho_10 y _ h_4)
  refine r_get (pc := 120) (v := .ref mm_from) fX12_23 dX12_of_120 h_11 rfl ?_
  refine r_iload (pc := 123) dX12_of_123 rfl ?_
  have h_12 : hp_7 mm_from = some (.inl (cI, 7260, .inl (g1))) := (ho_10 mm_from _ (ho_5 mm_from _ gc3 (ne_c gc3 gc0 (by intro h9; cases h9))))
  refine w_iald (pc := 125) (t0 := 0) (v := (g1 (60 * h + k))) dX12_of_125 rfl h_12 (vp_in_nI (by omega) (by omega)) (by rw [nI_clamp (by omega)]) ?_
  refine r_goto (pc := 126) (tgt := 166) dX12_of_126 (by decide) ?_
  exact r_iret (pc := 166) dX12_of_166 rfl (⟨rfl, rfl, h_11, fun q e9 h9 n9_0 => (ho_10 q e9 (ho_5 q e9 h9 n9_0) )⟩)
set_option maxHeartbeats 4000000 in
set_option maxRecDepth 100000 in
theorem c_X12_of_4 {D : va_G} {cI cJ cZ cT : ClassId} {lo b L : Nat} {xs : Nat → Int32} {hp : MH} {n d : Nat} {y mm_sorts mm_sizes mm_directs mm_many mm_from mm_to mm_weight mm_cost mm_numbers mm_state mm_worth mm_long1 mm_howMany mm_rows mm_inPart mm_partCount mm_nf mm_nt mm_nw mm_nc mm_column mm_next mm_inside mm_beside mm_solid mm_below mm_best mm_ways1 mm_round mm_round2 mm_label mm_bridge mm_outs mm_ins mm_least mm_spans mm_joinedWith mm_gone mm_dear mm_by mm_ahead mm_image : Nat} {rf nm p3 : Int32} {c h N m k : Nat} {q : Bool} {f0 f1 f2 f3 g1 g2 g3 g4 : Nat → Int32} (hd0 : 2 ≤ d) (gc0 : hp y = some (.inr (11, [.int rf, .int ((nI c)), .ref mm_sorts, .ref mm_sizes, .ref mm_directs, .ref mm_many, .ref mm_from, .ref mm_to, .ref mm_weight, .ref mm_cost, .ref mm_numbers, .ref mm_state, .ref mm_worth, .ref mm_long1, .ref mm_howMany, .ref mm_rows, .ref mm_inPart, .ref mm_partCount, .ref mm_nf, .ref mm_nt, .ref mm_nw, .ref mm_nc, .int nm, .ref mm_column, .ref mm_next, .ref mm_inside, .ref mm_beside, .ref mm_solid, .ref mm_below, .ref mm_best, .ref mm_ways1, .ref mm_round, .ref mm_round2, .ref mm_label, .ref mm_bridge, .ref mm_outs, .ref mm_ins, .ref mm_least, .ref mm_spans, .ref mm_joinedWith, .ref mm_gone, .ref mm_dear, .ref mm_by, .ref mm_ahead, .ref mm_image]))) (gc1 : hp mm_sorts = some (.inl (cI, 121, .inl (f0)))) (gc2 : hp mm_many = some (.inl (cI, 121, .inl (f3)))) (gc3 : hp mm_to = some (.inl (cI, 7260, .inl (g2)))) (hh : h < c) (hc : c ≤ 120) (hs : f0 h = 1) (e1 : f1 h = nI N) (e2 : f2 h = bI q) (e3 : f3 h = nI m) (hm : m ≤ 60) (hk : k < m) : Mt (gG D cI cJ cZ cT lo b L xs) mX12_of d 0 0 [.ref y, .int ((nI h)), .int 4, .int ((nI k))] hp n (fun r hp1 n1 => r = some (.int ((g2 (60 * h + k)))) ∧ n1 = n ∧ hp1 y = some (.inr (11, [.int 0, .int ((nI c)), .ref mm_sorts, .ref mm_sizes, .ref mm_directs, .ref mm_many, .ref mm_from, .ref mm_to, .ref mm_weight, .ref mm_cost, .ref mm_numbers, .ref mm_state, .ref mm_worth, .ref mm_long1, .ref mm_howMany, .ref mm_rows, .ref mm_inPart, .ref mm_partCount, .ref mm_nf, .ref mm_nt, .ref mm_nw, .ref mm_nc, .int nm, .ref mm_column, .ref mm_next, .ref mm_inside, .ref mm_beside, .ref mm_solid, .ref mm_below, .ref mm_best, .ref mm_ways1, .ref mm_round, .ref mm_round2, .ref mm_label, .ref mm_bridge, .ref mm_outs, .ref mm_ins, .ref mm_least, .ref mm_spans, .ref mm_joinedWith, .ref mm_gone, .ref mm_dear, .ref mm_by, .ref mm_ahead, .ref mm_image])) ∧ ∀ (q : Nat) (e9 : va_E), hp q = some e9 → q ≠ y → hp1 q = some e9) := by
  refine Mt.of rfl (Nat.le_of_ble_eq_true rfl) ?_
  refine Rn.pick (lv' := [(0, .ref y), (1, .int ((nI h))), (2, .int 4), (3, .int ((nI k)))]) [0, 1, 2, 3] rfl ?_
  refine r_aload_n (pc := 0) dX12_of_0 (i := 0) rfl rfl ?_
  refine r_iload_n (pc := 1) dX12_of_1 (i := 1) rfl rfl ?_
  refine r_iconst (pc := 2) (v := 1) dX12_of_2 (by decide) ?_
  refine r_callV (pc := 3) (as := [.int ((nI h)), .int 1]) (st := []) kX12_183 rfl dX12_of_3 gc0 (c_X12_has_y (d := d - 1) (y := y) (rf := rf) (mm_sorts := mm_sorts) (mm_sizes := mm_sizes) (mm_directs := mm_directs) (mm_many := mm_many) (mm_from := mm_from) (mm_to := mm_to) (mm_weight := mm_weight) (mm_cost := mm_cost) (mm_numbers := mm_numbers) (mm_state := mm_state) (mm_worth := mm_worth) (mm_long1 := mm_long1) (mm_howMany := mm_howMany) (mm_rows := mm_rows) (mm_inPart := mm_inPart) (mm_partCount := mm_partCount) (mm_nf := mm_nf) (mm_nt := mm_nt) (mm_nw := mm_nw) (mm_nc := mm_nc) (nm := nm) (mm_column := mm_column) (mm_next := mm_next) (mm_inside := mm_inside) (mm_beside := mm_beside) (mm_solid := mm_solid) (mm_below := mm_below) (mm_best := mm_best) (mm_ways1 := mm_ways1) (mm_round := mm_round) (mm_round2 := mm_round2) (mm_label := mm_label) (mm_bridge := mm_bridge) (mm_outs := mm_outs) (mm_ins := mm_ins) (mm_least := mm_least) (mm_spans := mm_spans) (mm_joinedWith := mm_joinedWith) (mm_gone := mm_gone) (mm_dear := mm_dear) (mm_by := mm_by) (mm_ahead := mm_ahead) (mm_image := mm_image) (c := c) (h := h) (p2 := 1) (f0 := f0) (by omega) gc0 gc1 (hh) (hc) (hs)) rfl (by omega) (Nat.le_of_ble_eq_true rfl) (by omega) (by omega) rfl (fun r9 hp_1 nn_2 hq_3 => ?_)
  obtain ⟨rfl, hq_3n, h_4, ho_5⟩ := hq_3
  subst nn_2
  change Rn _ _ _ 6 _ [.int 1] _ _ _ _ _
  refine r_if_ne (pc := 6) (tgt := 11) dX12_of_6 (by decide) (fun _ => ?_) (fun c9 => absurd (by decide) c9)
  refine r_iload_n (pc := 11) dX12_of_11 (i := 2) rfl rfl ?_
  refine r_if_lt (pc := 12) (tgt := 40) dX12_of_12 (by decide) (fun c9 => absurd c9 (by decide)) (fun _ => ?_)
  refine r_iload_n (pc := 15) dX12_of_15 (i := 2) rfl rfl ?_
  refine r_bipush (pc := 16) (v := 6) dX12_of_16 (by decide) ?_
  refine r_icmp_gt (pc := 18) (tgt := 40) dX12_of_18 (by decide) (fun c9 => absurd c9 (by decide)) (fun _ => ?_)
  refine r_iload_n (pc := 21) dX12_of_21 (i := 2) rfl rfl ?_
  refine r_iconst (pc := 22) (v := 2) dX12_of_22 (by decide) ?_
  refine r_icmp_le (pc := 23) (tgt := 49) dX12_of_23 (by decide) (fun c9 => absurd c9 (by decide)) (fun _ => ?_)
  refine r_iload_n (pc := 26) dX12_of_26 (i := 3) rfl rfl ?_
  refine r_if_lt (pc := 27) (tgt := 40) dX12_of_27 (by decide) (fun c9 => absurd c9 (nI_pos (by omega))) (fun _ => ?_)
  refine r_iload_n (pc := 30) dX12_of_30 (i := 3) rfl rfl ?_
  refine r_aload_n (pc := 31) dX12_of_31 (i := 0) rfl rfl ?_
  refine r_get (pc := 32) (v := .ref mm_many) fX12_20 dX12_of_32 h_4 rfl ?_
  refine r_iload_n (pc := 35) dX12_of_35 (i := 1) rfl rfl ?_
  have h_6 : hp_1 mm_many = some (.inl (cI, 121, .inl (f3))) := (ho_5 mm_many _ gc2 (ne_c gc2 gc0 (by intro h9; cases h9)))
  refine w_iald (pc := 36) (t0 := 0) (v := (nI m)) dX12_of_36 rfl h_6 (vp_in_nI (by omega) (by omega)) (by rw [nI_clamp (by omega)]; exact e3) ?_
  refine r_icmp_lt (pc := 37) (tgt := 49) dX12_of_37 (by decide) (fun _ => ?_) (fun c9 => absurd (nI_lt hk (by omega)) c9)
  refine r_iload_n (pc := 49) dX12_of_49 (i := 2) rfl rfl ?_
  refine r_iconst (pc := 50) (v := 2) dX12_of_50 (by decide) ?_
  refine r_icmp_le (pc := 51) (tgt := 62) dX12_of_51 (by decide) (fun c9 => absurd c9 (by decide)) (fun _ => ?_)
  refine r_iload_n (pc := 54) dX12_of_54 (i := 1) rfl rfl ?_
  refine r_iload_n (pc := 55) dX12_of_55 (i := 3) rfl rfl ?_
  refine r_callS (pc := 56) (as := [.int ((nI h)), .int ((nI k))]) (st := []) kX12_157 dX12_of_56 (c_X12_at1 (d := d - 1) (g := h) (k := k) (by omega)  ) rfl (by omega) (Nat.le_of_ble_eq_true rfl) (by omega) (by omega) rfl (fun r9 hp_7 nn_8 hq_9 => ?_)
  obtain ⟨rfl, hq_9n, ho_10⟩ := hq_9
  subst nn_8
  change Rn _ _ _ 59 _ [.int ((nI (60 * h + k)))] _ _ _ _ _
  refine r_goto (pc := 59) (tgt := 63) dX12_of_59 (by decide) ?_
  refine r_istore (pc := 63) (lv' := [(4, .int ((nI (60 * h + k)))), (0, .ref y), (1, .int ((nI h))), (2, .int 4), (3, .int ((nI k)))]) dX12_of_63 (by decide) rfl ?_
  refine r_iload_n (pc := 65) dX12_of_65 (i := 2) rfl rfl ?_
  refine r_if_ne (pc := 66) (tgt := 78) dX12_of_66 (by decide) (fun _ => ?_) (fun c9 => absurd (by decide) c9)
  refine r_iload_n (pc := 78) dX12_of_78 (i := 2) rfl rfl ?_
  refine r_iconst (pc := 79) (v := 1) dX12_of_79 (by decide) ?_
  refine r_icmp_ne (pc := 80) (tgt := 92) dX12_of_80 (by decide) (fun _ => ?_) (fun c9 => absurd (by decide) c9)
  refine r_iload_n (pc := 92) dX12_of_92 (i := 2) rfl rfl ?_
  refine r_iconst (pc := 93) (v := 2) dX12_of_93 (by decide) ?_
  refine r_icmp_ne (pc := 94) (tgt := 114) dX12_of_94 (by decide) (fun _ => ?_) (fun c9 => absurd (by decide) c9)
  refine r_iload_n (pc := 114) dX12_of_114 (i := 2) rfl rfl ?_
  refine r_iconst (pc := 115) (v := 3) dX12_of_115 (by decide) ?_
  refine r_icmp_ne (pc := 116) (tgt := 129) dX12_of_116 (by decide) (fun _ => ?_) (fun c9 => absurd (by decide) c9)
  refine r_iload_n (pc := 129) dX12_of_129 (i := 2) rfl rfl ?_
  refine r_iconst (pc := 130) (v := 4) dX12_of_130 (by decide) ?_
  refine r_icmp_ne (pc := 131) (tgt := 144) dX12_of_131 (by decide) (fun c9 => absurd c9 (by decide)) (fun _ => ?_)
  refine r_aload_n (pc := 134) dX12_of_134 (i := 0) rfl rfl ?_
  have h_11 : hp_7 y = some (.inr (11, [.int 0, .int ((nI c)), .ref mm_sorts, .ref mm_sizes, .ref mm_directs, .ref mm_many, .ref mm_from, .ref mm_to, .ref mm_weight, .ref mm_cost, .ref mm_numbers, .ref mm_state, .ref mm_worth, .ref mm_long1, .ref mm_howMany, .ref mm_rows, .ref mm_inPart, .ref mm_partCount, .ref mm_nf, .ref mm_nt, .ref mm_nw, .ref mm_nc, .int nm, .ref mm_column, .ref mm_next, .ref mm_inside, .ref mm_beside, .ref mm_solid, .ref mm_below, .ref mm_best, .ref mm_ways1, .ref mm_round, .ref mm_round2, .ref mm_label, .ref mm_bridge, .ref mm_outs, .ref mm_ins, .ref mm_least, .ref mm_spans, .ref mm_joinedWith, .ref mm_gone, .ref mm_dear, .ref mm_by, .ref mm_ahead, .ref mm_image])) := (ho_10 y _ h_4)
  refine r_get (pc := 135) (v := .ref mm_to) fX12_26 dX12_of_135 h_11 rfl ?_
  refine r_iload (pc := 138) dX12_of_138 rfl ?_
  have h_12 : hp_7 mm_to = some (.inl (cI, 7260, .inl (g2))) := (ho_10 mm_to _ (ho_5 mm_to _ gc3 (ne_c gc3 gc0 (by intro h9; cases h9))))
  refine w_iald (pc := 140) (t0 := 0) (v := (g2 (60 * h + k))) dX12_of_140 rfl h_12 (vp_in_nI (by omega) (by omega)) (by rw [nI_clamp (by omega)]) ?_
  refine r_goto (pc := 141) (tgt := 166) dX12_of_141 (by decide) ?_
  exact r_iret (pc := 166) dX12_of_166 rfl (⟨rfl, rfl, h_11, fun q e9 h9 n9_0 => (ho_10 q e9 (ho_5 q e9 h9 n9_0) )⟩)
set_option maxHeartbeats 4000000 in
set_option maxRecDepth 100000 in
theorem c_X12_of_5 {D : va_G} {cI cJ cZ cT : ClassId} {lo b L : Nat} {xs : Nat → Int32} {hp : MH} {n d : Nat} {y mm_sorts mm_sizes mm_directs mm_many mm_from mm_to mm_weight mm_cost mm_numbers mm_state mm_worth mm_long1 mm_howMany mm_rows mm_inPart mm_partCount mm_nf mm_nt mm_nw mm_nc mm_column mm_next mm_inside mm_beside mm_solid mm_below mm_best mm_ways1 mm_round mm_round2 mm_label mm_bridge mm_outs mm_ins mm_least mm_spans mm_joinedWith mm_gone mm_dear mm_by mm_ahead mm_image : Nat} {rf nm p3 : Int32} {c h N m k : Nat} {q : Bool} {f0 f1 f2 f3 g1 g2 g3 g4 : Nat → Int32} (hd0 : 2 ≤ d) (gc0 : hp y = some (.inr (11, [.int rf, .int ((nI c)), .ref mm_sorts, .ref mm_sizes, .ref mm_directs, .ref mm_many, .ref mm_from, .ref mm_to, .ref mm_weight, .ref mm_cost, .ref mm_numbers, .ref mm_state, .ref mm_worth, .ref mm_long1, .ref mm_howMany, .ref mm_rows, .ref mm_inPart, .ref mm_partCount, .ref mm_nf, .ref mm_nt, .ref mm_nw, .ref mm_nc, .int nm, .ref mm_column, .ref mm_next, .ref mm_inside, .ref mm_beside, .ref mm_solid, .ref mm_below, .ref mm_best, .ref mm_ways1, .ref mm_round, .ref mm_round2, .ref mm_label, .ref mm_bridge, .ref mm_outs, .ref mm_ins, .ref mm_least, .ref mm_spans, .ref mm_joinedWith, .ref mm_gone, .ref mm_dear, .ref mm_by, .ref mm_ahead, .ref mm_image]))) (gc1 : hp mm_sorts = some (.inl (cI, 121, .inl (f0)))) (gc2 : hp mm_many = some (.inl (cI, 121, .inl (f3)))) (gc3 : hp mm_weight = some (.inl (cI, 7260, .inl (g3)))) (hh : h < c) (hc : c ≤ 120) (hs : f0 h = 1) (e1 : f1 h = nI N) (e2 : f2 h = bI q) (e3 : f3 h = nI m) (hm : m ≤ 60) (hk : k < m) : Mt (gG D cI cJ cZ cT lo b L xs) mX12_of d 0 0 [.ref y, .int ((nI h)), .int 5, .int ((nI k))] hp n (fun r hp1 n1 => r = some (.int ((g3 (60 * h + k)))) ∧ n1 = n ∧ hp1 y = some (.inr (11, [.int 0, .int ((nI c)), .ref mm_sorts, .ref mm_sizes, .ref mm_directs, .ref mm_many, .ref mm_from, .ref mm_to, .ref mm_weight, .ref mm_cost, .ref mm_numbers, .ref mm_state, .ref mm_worth, .ref mm_long1, .ref mm_howMany, .ref mm_rows, .ref mm_inPart, .ref mm_partCount, .ref mm_nf, .ref mm_nt, .ref mm_nw, .ref mm_nc, .int nm, .ref mm_column, .ref mm_next, .ref mm_inside, .ref mm_beside, .ref mm_solid, .ref mm_below, .ref mm_best, .ref mm_ways1, .ref mm_round, .ref mm_round2, .ref mm_label, .ref mm_bridge, .ref mm_outs, .ref mm_ins, .ref mm_least, .ref mm_spans, .ref mm_joinedWith, .ref mm_gone, .ref mm_dear, .ref mm_by, .ref mm_ahead, .ref mm_image])) ∧ ∀ (q : Nat) (e9 : va_E), hp q = some e9 → q ≠ y → hp1 q = some e9) := by
  refine Mt.of rfl (Nat.le_of_ble_eq_true rfl) ?_
  refine Rn.pick (lv' := [(0, .ref y), (1, .int ((nI h))), (2, .int 5), (3, .int ((nI k)))]) [0, 1, 2, 3] rfl ?_
  refine r_aload_n (pc := 0) dX12_of_0 (i := 0) rfl rfl ?_
  refine r_iload_n (pc := 1) dX12_of_1 (i := 1) rfl rfl ?_
  refine r_iconst (pc := 2) (v := 1) dX12_of_2 (by decide) ?_
  refine r_callV (pc := 3) (as := [.int ((nI h)), .int 1]) (st := []) kX12_183 rfl dX12_of_3 gc0 (c_X12_has_y (d := d - 1) (y := y) (rf := rf) (mm_sorts := mm_sorts) (mm_sizes := mm_sizes) (mm_directs := mm_directs) (mm_many := mm_many) (mm_from := mm_from) (mm_to := mm_to) (mm_weight := mm_weight) (mm_cost := mm_cost) (mm_numbers := mm_numbers) (mm_state := mm_state) (mm_worth := mm_worth) (mm_long1 := mm_long1) (mm_howMany := mm_howMany) (mm_rows := mm_rows) (mm_inPart := mm_inPart) (mm_partCount := mm_partCount) (mm_nf := mm_nf) (mm_nt := mm_nt) (mm_nw := mm_nw) (mm_nc := mm_nc) (nm := nm) (mm_column := mm_column) (mm_next := mm_next) (mm_inside := mm_inside) (mm_beside := mm_beside) (mm_solid := mm_solid) (mm_below := mm_below) (mm_best := mm_best) (mm_ways1 := mm_ways1) (mm_round := mm_round) (mm_round2 := mm_round2) (mm_label := mm_label) (mm_bridge := mm_bridge) (mm_outs := mm_outs) (mm_ins := mm_ins) (mm_least := mm_least) (mm_spans := mm_spans) (mm_joinedWith := mm_joinedWith) (mm_gone := mm_gone) (mm_dear := mm_dear) (mm_by := mm_by) (mm_ahead := mm_ahead) (mm_image := mm_image) (c := c) (h := h) (p2 := 1) (f0 := f0) (by omega) gc0 gc1 (hh) (hc) (hs)) rfl (by omega) (Nat.le_of_ble_eq_true rfl) (by omega) (by omega) rfl (fun r9 hp_1 nn_2 hq_3 => ?_)
  obtain ⟨rfl, hq_3n, h_4, ho_5⟩ := hq_3
  subst nn_2
  change Rn _ _ _ 6 _ [.int 1] _ _ _ _ _
  refine r_if_ne (pc := 6) (tgt := 11) dX12_of_6 (by decide) (fun _ => ?_) (fun c9 => absurd (by decide) c9)
  refine r_iload_n (pc := 11) dX12_of_11 (i := 2) rfl rfl ?_
  refine r_if_lt (pc := 12) (tgt := 40) dX12_of_12 (by decide) (fun c9 => absurd c9 (by decide)) (fun _ => ?_)
  refine r_iload_n (pc := 15) dX12_of_15 (i := 2) rfl rfl ?_
  refine r_bipush (pc := 16) (v := 6) dX12_of_16 (by decide) ?_
  refine r_icmp_gt (pc := 18) (tgt := 40) dX12_of_18 (by decide) (fun c9 => absurd c9 (by decide)) (fun _ => ?_)
  refine r_iload_n (pc := 21) dX12_of_21 (i := 2) rfl rfl ?_
  refine r_iconst (pc := 22) (v := 2) dX12_of_22 (by decide) ?_
  refine r_icmp_le (pc := 23) (tgt := 49) dX12_of_23 (by decide) (fun c9 => absurd c9 (by decide)) (fun _ => ?_)
  refine r_iload_n (pc := 26) dX12_of_26 (i := 3) rfl rfl ?_
  refine r_if_lt (pc := 27) (tgt := 40) dX12_of_27 (by decide) (fun c9 => absurd c9 (nI_pos (by omega))) (fun _ => ?_)
  refine r_iload_n (pc := 30) dX12_of_30 (i := 3) rfl rfl ?_
  refine r_aload_n (pc := 31) dX12_of_31 (i := 0) rfl rfl ?_
  refine r_get (pc := 32) (v := .ref mm_many) fX12_20 dX12_of_32 h_4 rfl ?_
  refine r_iload_n (pc := 35) dX12_of_35 (i := 1) rfl rfl ?_
  have h_6 : hp_1 mm_many = some (.inl (cI, 121, .inl (f3))) := (ho_5 mm_many _ gc2 (ne_c gc2 gc0 (by intro h9; cases h9)))
  refine w_iald (pc := 36) (t0 := 0) (v := (nI m)) dX12_of_36 rfl h_6 (vp_in_nI (by omega) (by omega)) (by rw [nI_clamp (by omega)]; exact e3) ?_
  refine r_icmp_lt (pc := 37) (tgt := 49) dX12_of_37 (by decide) (fun _ => ?_) (fun c9 => absurd (nI_lt hk (by omega)) c9)
  refine r_iload_n (pc := 49) dX12_of_49 (i := 2) rfl rfl ?_
  refine r_iconst (pc := 50) (v := 2) dX12_of_50 (by decide) ?_
  refine r_icmp_le (pc := 51) (tgt := 62) dX12_of_51 (by decide) (fun c9 => absurd c9 (by decide)) (fun _ => ?_)
  refine r_iload_n (pc := 54) dX12_of_54 (i := 1) rfl rfl ?_
  refine r_iload_n (pc := 55) dX12_of_55 (i := 3) rfl rfl ?_
  refine r_callS (pc := 56) (as := [.int ((nI h)), .int ((nI k))]) (st := []) kX12_157 dX12_of_56 (c_X12_at1 (d := d - 1) (g := h) (k := k) (by omega)  ) rfl (by omega) (Nat.le_of_ble_eq_true rfl) (by omega) (by omega) rfl (fun r9 hp_7 nn_8 hq_9 => ?_)
  obtain ⟨rfl, hq_9n, ho_10⟩ := hq_9
  subst nn_8
  change Rn _ _ _ 59 _ [.int ((nI (60 * h + k)))] _ _ _ _ _
  refine r_goto (pc := 59) (tgt := 63) dX12_of_59 (by decide) ?_
  refine r_istore (pc := 63) (lv' := [(4, .int ((nI (60 * h + k)))), (0, .ref y), (1, .int ((nI h))), (2, .int 5), (3, .int ((nI k)))]) dX12_of_63 (by decide) rfl ?_
  refine r_iload_n (pc := 65) dX12_of_65 (i := 2) rfl rfl ?_
  refine r_if_ne (pc := 66) (tgt := 78) dX12_of_66 (by decide) (fun _ => ?_) (fun c9 => absurd (by decide) c9)
  refine r_iload_n (pc := 78) dX12_of_78 (i := 2) rfl rfl ?_
  refine r_iconst (pc := 79) (v := 1) dX12_of_79 (by decide) ?_
  refine r_icmp_ne (pc := 80) (tgt := 92) dX12_of_80 (by decide) (fun _ => ?_) (fun c9 => absurd (by decide) c9)
  refine r_iload_n (pc := 92) dX12_of_92 (i := 2) rfl rfl ?_
  refine r_iconst (pc := 93) (v := 2) dX12_of_93 (by decide) ?_
  refine r_icmp_ne (pc := 94) (tgt := 114) dX12_of_94 (by decide) (fun _ => ?_) (fun c9 => absurd (by decide) c9)
  refine r_iload_n (pc := 114) dX12_of_114 (i := 2) rfl rfl ?_
  refine r_iconst (pc := 115) (v := 3) dX12_of_115 (by decide) ?_
  refine r_icmp_ne (pc := 116) (tgt := 129) dX12_of_116 (by decide) (fun _ => ?_) (fun c9 => absurd (by decide) c9)
  refine r_iload_n (pc := 129) dX12_of_129 (i := 2) rfl rfl ?_
  refine r_iconst (pc := 130) (v := 4) dX12_of_130 (by decide) ?_
  refine r_icmp_ne (pc := 131) (tgt := 144) dX12_of_131 (by decide) (fun _ => ?_) (fun c9 => absurd (by decide) c9)
  refine r_iload_n (pc := 144) dX12_of_144 (i := 2) rfl rfl ?_
  refine r_iconst (pc := 145) (v := 5) dX12_of_145 (by decide) ?_
  refine r_icmp_ne (pc := 146) (tgt := 159) dX12_of_146 (by decide) (fun c9 => absurd c9 (by decide)) (fun _ => ?_)
  refine r_aload_n (pc := 149) dX12_of_149 (i := 0) rfl rfl ?_
  have h_11 : hp_7 y = some (.inr (11, [.int 0, .int ((nI c)), .ref mm_sorts, .ref mm_sizes, .ref mm_directs, .ref mm_many, .ref mm_from, .ref mm_to, .ref mm_weight, .ref mm_cost, .ref mm_numbers, .ref mm_state, .ref mm_worth, .ref mm_long1, .ref mm_howMany, .ref mm_rows, .ref mm_inPart, .ref mm_partCount, .ref mm_nf, .ref mm_nt, .ref mm_nw, .ref mm_nc, .int nm, .ref mm_column, .ref mm_next, .ref mm_inside, .ref mm_beside, .ref mm_solid, .ref mm_below, .ref mm_best, .ref mm_ways1, .ref mm_round, .ref mm_round2, .ref mm_label, .ref mm_bridge, .ref mm_outs, .ref mm_ins, .ref mm_least, .ref mm_spans, .ref mm_joinedWith, .ref mm_gone, .ref mm_dear, .ref mm_by, .ref mm_ahead, .ref mm_image])) := (ho_10 y _ h_4)
  refine r_get (pc := 150) (v := .ref mm_weight) fX12_29 dX12_of_150 h_11 rfl ?_
  refine r_iload (pc := 153) dX12_of_153 rfl ?_
  have h_12 : hp_7 mm_weight = some (.inl (cI, 7260, .inl (g3))) := (ho_10 mm_weight _ (ho_5 mm_weight _ gc3 (ne_c gc3 gc0 (by intro h9; cases h9))))
  refine w_iald (pc := 155) (t0 := 0) (v := (g3 (60 * h + k))) dX12_of_155 rfl h_12 (vp_in_nI (by omega) (by omega)) (by rw [nI_clamp (by omega)]) ?_
  refine r_goto (pc := 156) (tgt := 166) dX12_of_156 (by decide) ?_
  exact r_iret (pc := 166) dX12_of_166 rfl (⟨rfl, rfl, h_11, fun q e9 h9 n9_0 => (ho_10 q e9 (ho_5 q e9 h9 n9_0) )⟩)
set_option maxHeartbeats 4000000 in
set_option maxRecDepth 100000 in
theorem c_X12_of_6 {D : va_G} {cI cJ cZ cT : ClassId} {lo b L : Nat} {xs : Nat → Int32} {hp : MH} {n d : Nat} {y mm_sorts mm_sizes mm_directs mm_many mm_from mm_to mm_weight mm_cost mm_numbers mm_state mm_worth mm_long1 mm_howMany mm_rows mm_inPart mm_partCount mm_nf mm_nt mm_nw mm_nc mm_column mm_next mm_inside mm_beside mm_solid mm_below mm_best mm_ways1 mm_round mm_round2 mm_label mm_bridge mm_outs mm_ins mm_least mm_spans mm_joinedWith mm_gone mm_dear mm_by mm_ahead mm_image : Nat} {rf nm p3 : Int32} {c h N m k : Nat} {q : Bool} {f0 f1 f2 f3 g1 g2 g3 g4 : Nat → Int32} (hd0 : 2 ≤ d) (gc0 : hp y = some (.inr (11, [.int rf, .int ((nI c)), .ref mm_sorts, .ref mm_sizes, .ref mm_directs, .ref mm_many, .ref mm_from, .ref mm_to, .ref mm_weight, .ref mm_cost, .ref mm_numbers, .ref mm_state, .ref mm_worth, .ref mm_long1, .ref mm_howMany, .ref mm_rows, .ref mm_inPart, .ref mm_partCount, .ref mm_nf, .ref mm_nt, .ref mm_nw, .ref mm_nc, .int nm, .ref mm_column, .ref mm_next, .ref mm_inside, .ref mm_beside, .ref mm_solid, .ref mm_below, .ref mm_best, .ref mm_ways1, .ref mm_round, .ref mm_round2, .ref mm_label, .ref mm_bridge, .ref mm_outs, .ref mm_ins, .ref mm_least, .ref mm_spans, .ref mm_joinedWith, .ref mm_gone, .ref mm_dear, .ref mm_by, .ref mm_ahead, .ref mm_image]))) (gc1 : hp mm_sorts = some (.inl (cI, 121, .inl (f0)))) (gc2 : hp mm_many = some (.inl (cI, 121, .inl (f3)))) (gc3 : hp mm_cost = some (.inl (cI, 7260, .inl (g4)))) (hh : h < c) (hc : c ≤ 120) (hs : f0 h = 1) (e1 : f1 h = nI N) (e2 : f2 h = bI q) (e3 : f3 h = nI m) (hm : m ≤ 60) (hk : k < m) : Mt (gG D cI cJ cZ cT lo b L xs) mX12_of d 0 0 [.ref y, .int ((nI h)), .int 6, .int ((nI k))] hp n (fun r hp1 n1 => r = some (.int ((g4 (60 * h + k)))) ∧ n1 = n ∧ hp1 y = some (.inr (11, [.int 0, .int ((nI c)), .ref mm_sorts, .ref mm_sizes, .ref mm_directs, .ref mm_many, .ref mm_from, .ref mm_to, .ref mm_weight, .ref mm_cost, .ref mm_numbers, .ref mm_state, .ref mm_worth, .ref mm_long1, .ref mm_howMany, .ref mm_rows, .ref mm_inPart, .ref mm_partCount, .ref mm_nf, .ref mm_nt, .ref mm_nw, .ref mm_nc, .int nm, .ref mm_column, .ref mm_next, .ref mm_inside, .ref mm_beside, .ref mm_solid, .ref mm_below, .ref mm_best, .ref mm_ways1, .ref mm_round, .ref mm_round2, .ref mm_label, .ref mm_bridge, .ref mm_outs, .ref mm_ins, .ref mm_least, .ref mm_spans, .ref mm_joinedWith, .ref mm_gone, .ref mm_dear, .ref mm_by, .ref mm_ahead, .ref mm_image])) ∧ ∀ (q : Nat) (e9 : va_E), hp q = some e9 → q ≠ y → hp1 q = some e9) := by
  refine Mt.of rfl (Nat.le_of_ble_eq_true rfl) ?_
  refine Rn.pick (lv' := [(0, .ref y), (1, .int ((nI h))), (2, .int 6), (3, .int ((nI k)))]) [0, 1, 2, 3] rfl ?_
  refine r_aload_n (pc := 0) dX12_of_0 (i := 0) rfl rfl ?_
  refine r_iload_n (pc := 1) dX12_of_1 (i := 1) rfl rfl ?_
  refine r_iconst (pc := 2) (v := 1) dX12_of_2 (by decide) ?_
  refine r_callV (pc := 3) (as := [.int ((nI h)), .int 1]) (st := []) kX12_183 rfl dX12_of_3 gc0 (c_X12_has_y (d := d - 1) (y := y) (rf := rf) (mm_sorts := mm_sorts) (mm_sizes := mm_sizes) (mm_directs := mm_directs) (mm_many := mm_many) (mm_from := mm_from) (mm_to := mm_to) (mm_weight := mm_weight) (mm_cost := mm_cost) (mm_numbers := mm_numbers) (mm_state := mm_state) (mm_worth := mm_worth) (mm_long1 := mm_long1) (mm_howMany := mm_howMany) (mm_rows := mm_rows) (mm_inPart := mm_inPart) (mm_partCount := mm_partCount) (mm_nf := mm_nf) (mm_nt := mm_nt) (mm_nw := mm_nw) (mm_nc := mm_nc) (nm := nm) (mm_column := mm_column) (mm_next := mm_next) (mm_inside := mm_inside) (mm_beside := mm_beside) (mm_solid := mm_solid) (mm_below := mm_below) (mm_best := mm_best) (mm_ways1 := mm_ways1) (mm_round := mm_round) (mm_round2 := mm_round2) (mm_label := mm_label) (mm_bridge := mm_bridge) (mm_outs := mm_outs) (mm_ins := mm_ins) (mm_least := mm_least) (mm_spans := mm_spans) (mm_joinedWith := mm_joinedWith) (mm_gone := mm_gone) (mm_dear := mm_dear) (mm_by := mm_by) (mm_ahead := mm_ahead) (mm_image := mm_image) (c := c) (h := h) (p2 := 1) (f0 := f0) (by omega) gc0 gc1 (hh) (hc) (hs)) rfl (by omega) (Nat.le_of_ble_eq_true rfl) (by omega) (by omega) rfl (fun r9 hp_1 nn_2 hq_3 => ?_)
  obtain ⟨rfl, hq_3n, h_4, ho_5⟩ := hq_3
  subst nn_2
  change Rn _ _ _ 6 _ [.int 1] _ _ _ _ _
  refine r_if_ne (pc := 6) (tgt := 11) dX12_of_6 (by decide) (fun _ => ?_) (fun c9 => absurd (by decide) c9)
  refine r_iload_n (pc := 11) dX12_of_11 (i := 2) rfl rfl ?_
  refine r_if_lt (pc := 12) (tgt := 40) dX12_of_12 (by decide) (fun c9 => absurd c9 (by decide)) (fun _ => ?_)
  refine r_iload_n (pc := 15) dX12_of_15 (i := 2) rfl rfl ?_
  refine r_bipush (pc := 16) (v := 6) dX12_of_16 (by decide) ?_
  refine r_icmp_gt (pc := 18) (tgt := 40) dX12_of_18 (by decide) (fun c9 => absurd c9 (by decide)) (fun _ => ?_)
  refine r_iload_n (pc := 21) dX12_of_21 (i := 2) rfl rfl ?_
  refine r_iconst (pc := 22) (v := 2) dX12_of_22 (by decide) ?_
  refine r_icmp_le (pc := 23) (tgt := 49) dX12_of_23 (by decide) (fun c9 => absurd c9 (by decide)) (fun _ => ?_)
  refine r_iload_n (pc := 26) dX12_of_26 (i := 3) rfl rfl ?_
  refine r_if_lt (pc := 27) (tgt := 40) dX12_of_27 (by decide) (fun c9 => absurd c9 (nI_pos (by omega))) (fun _ => ?_)
  refine r_iload_n (pc := 30) dX12_of_30 (i := 3) rfl rfl ?_
  refine r_aload_n (pc := 31) dX12_of_31 (i := 0) rfl rfl ?_
  refine r_get (pc := 32) (v := .ref mm_many) fX12_20 dX12_of_32 h_4 rfl ?_
  refine r_iload_n (pc := 35) dX12_of_35 (i := 1) rfl rfl ?_
  have h_6 : hp_1 mm_many = some (.inl (cI, 121, .inl (f3))) := (ho_5 mm_many _ gc2 (ne_c gc2 gc0 (by intro h9; cases h9)))
  refine w_iald (pc := 36) (t0 := 0) (v := (nI m)) dX12_of_36 rfl h_6 (vp_in_nI (by omega) (by omega)) (by rw [nI_clamp (by omega)]; exact e3) ?_
  refine r_icmp_lt (pc := 37) (tgt := 49) dX12_of_37 (by decide) (fun _ => ?_) (fun c9 => absurd (nI_lt hk (by omega)) c9)
  refine r_iload_n (pc := 49) dX12_of_49 (i := 2) rfl rfl ?_
  refine r_iconst (pc := 50) (v := 2) dX12_of_50 (by decide) ?_
  refine r_icmp_le (pc := 51) (tgt := 62) dX12_of_51 (by decide) (fun c9 => absurd c9 (by decide)) (fun _ => ?_)
  refine r_iload_n (pc := 54) dX12_of_54 (i := 1) rfl rfl ?_
  refine r_iload_n (pc := 55) dX12_of_55 (i := 3) rfl rfl ?_
  refine r_callS (pc := 56) (as := [.int ((nI h)), .int ((nI k))]) (st := []) kX12_157 dX12_of_56 (c_X12_at1 (d := d - 1) (g := h) (k := k) (by omega)  ) rfl (by omega) (Nat.le_of_ble_eq_true rfl) (by omega) (by omega) rfl (fun r9 hp_7 nn_8 hq_9 => ?_)
  obtain ⟨rfl, hq_9n, ho_10⟩ := hq_9
  subst nn_8
  change Rn _ _ _ 59 _ [.int ((nI (60 * h + k)))] _ _ _ _ _
  refine r_goto (pc := 59) (tgt := 63) dX12_of_59 (by decide) ?_
  refine r_istore (pc := 63) (lv' := [(4, .int ((nI (60 * h + k)))), (0, .ref y), (1, .int ((nI h))), (2, .int 6), (3, .int ((nI k)))]) dX12_of_63 (by decide) rfl ?_
  refine r_iload_n (pc := 65) dX12_of_65 (i := 2) rfl rfl ?_
  refine r_if_ne (pc := 66) (tgt := 78) dX12_of_66 (by decide) (fun _ => ?_) (fun c9 => absurd (by decide) c9)
  refine r_iload_n (pc := 78) dX12_of_78 (i := 2) rfl rfl ?_
  refine r_iconst (pc := 79) (v := 1) dX12_of_79 (by decide) ?_
  refine r_icmp_ne (pc := 80) (tgt := 92) dX12_of_80 (by decide) (fun _ => ?_) (fun c9 => absurd (by decide) c9)
  refine r_iload_n (pc := 92) dX12_of_92 (i := 2) rfl rfl ?_
  refine r_iconst (pc := 93) (v := 2) dX12_of_93 (by decide) ?_
  refine r_icmp_ne (pc := 94) (tgt := 114) dX12_of_94 (by decide) (fun _ => ?_) (fun c9 => absurd (by decide) c9)
  refine r_iload_n (pc := 114) dX12_of_114 (i := 2) rfl rfl ?_
  refine r_iconst (pc := 115) (v := 3) dX12_of_115 (by decide) ?_
  refine r_icmp_ne (pc := 116) (tgt := 129) dX12_of_116 (by decide) (fun _ => ?_) (fun c9 => absurd (by decide) c9)
  refine r_iload_n (pc := 129) dX12_of_129 (i := 2) rfl rfl ?_
  refine r_iconst (pc := 130) (v := 4) dX12_of_130 (by decide) ?_
  refine r_icmp_ne (pc := 131) (tgt := 144) dX12_of_131 (by decide) (fun _ => ?_) (fun c9 => absurd (by decide) c9)
  refine r_iload_n (pc := 144) dX12_of_144 (i := 2) rfl rfl ?_
  refine r_iconst (pc := 145) (v := 5) dX12_of_145 (by decide) ?_
  refine r_icmp_ne (pc := 146) (tgt := 159) dX12_of_146 (by decide) (fun _ => ?_) (fun c9 => absurd (by decide) c9)
  refine r_aload_n (pc := 159) dX12_of_159 (i := 0) rfl rfl ?_
  have h_11 : hp_7 y = some (.inr (11, [.int 0, .int ((nI c)), .ref mm_sorts, .ref mm_sizes, .ref mm_directs, .ref mm_many, .ref mm_from, .ref mm_to, .ref mm_weight, .ref mm_cost, .ref mm_numbers, .ref mm_state, .ref mm_worth, .ref mm_long1, .ref mm_howMany, .ref mm_rows, .ref mm_inPart, .ref mm_partCount, .ref mm_nf, .ref mm_nt, .ref mm_nw, .ref mm_nc, .int nm, .ref mm_column, .ref mm_next, .ref mm_inside, .ref mm_beside, .ref mm_solid, .ref mm_below, .ref mm_best, .ref mm_ways1, .ref mm_round, .ref mm_round2, .ref mm_label, .ref mm_bridge, .ref mm_outs, .ref mm_ins, .ref mm_least, .ref mm_spans, .ref mm_joinedWith, .ref mm_gone, .ref mm_dear, .ref mm_by, .ref mm_ahead, .ref mm_image])) := (ho_10 y _ h_4)
  refine r_get (pc := 160) (v := .ref mm_cost) fX12_32 dX12_of_160 h_11 rfl ?_
  refine r_iload (pc := 163) dX12_of_163 rfl ?_
  have h_12 : hp_7 mm_cost = some (.inl (cI, 7260, .inl (g4))) := (ho_10 mm_cost _ (ho_5 mm_cost _ gc3 (ne_c gc3 gc0 (by intro h9; cases h9))))
  refine w_iald (pc := 165) (t0 := 0) (v := (g4 (60 * h + k))) dX12_of_165 rfl h_12 (vp_in_nI (by omega) (by omega)) (by rw [nI_clamp (by omega)]) ?_
  exact r_iret (pc := 166) dX12_of_166 rfl (⟨rfl, rfl, h_11, fun q e9 h9 n9_0 => (ho_10 q e9 (ho_5 q e9 h9 n9_0) )⟩)
