set_option maxHeartbeats 4000000 in
set_option maxRecDepth 100000 in
theorem c_X12_way_0 {D : va_G} {cI cJ cZ cT : ClassId} {lo b L : Nat} {xs : Nat → Int32} {hp : MH} {n d : Nat} {y mm_sorts mm_sizes mm_directs mm_many mm_from mm_to mm_weight mm_cost mm_numbers mm_state mm_worth mm_long1 mm_howMany mm_rows mm_inPart mm_partCount mm_nf mm_nt mm_nw mm_nc mm_column mm_next mm_inside mm_beside mm_solid mm_below mm_best mm_ways1 mm_round mm_round2 mm_label mm_bridge mm_outs mm_ins mm_least mm_spans mm_joinedWith mm_gone mm_dear mm_by mm_ahead mm_image : Nat} {rf nm : Int32} {c h N : Nat} {f0 f1 : Nat → Int32} {v : Nat} {st : Nat → Int32} (hd0 : 2 ≤ d) (gc0 : hp y = some (.inr (11, [.int rf, .int ((nI c)), .ref mm_sorts, .ref mm_sizes, .ref mm_directs, .ref mm_many, .ref mm_from, .ref mm_to, .ref mm_weight, .ref mm_cost, .ref mm_numbers, .ref mm_state, .ref mm_worth, .ref mm_long1, .ref mm_howMany, .ref mm_rows, .ref mm_inPart, .ref mm_partCount, .ref mm_nf, .ref mm_nt, .ref mm_nw, .ref mm_nc, .int nm, .ref mm_column, .ref mm_next, .ref mm_inside, .ref mm_beside, .ref mm_solid, .ref mm_below, .ref mm_best, .ref mm_ways1, .ref mm_round, .ref mm_round2, .ref mm_label, .ref mm_bridge, .ref mm_outs, .ref mm_ins, .ref mm_least, .ref mm_spans, .ref mm_joinedWith, .ref mm_gone, .ref mm_dear, .ref mm_by, .ref mm_ahead, .ref mm_image]))) (gc1 : hp mm_sorts = some (.inl (cI, 121, .inl (f0)))) (gc2 : hp mm_sizes = some (.inl (cI, 121, .inl (f1)))) (gc3 : hp mm_state = some (.inl (cI, 1936, .inl (st)))) (hh : h < c) (hc : c ≤ 120) (hs : f0 h = 3) (e1 : f1 h = nI N) (hN : N ≤ 16) (hv : v < N) : Mt (gG D cI cJ cZ cT lo b L xs) mX12_way d 0 0 [.ref y, .int ((nI h)), .int ((nI v)), .int 0] hp n (fun r hp1 n1 => r = some (.long (((st (16 * h + v)).toInt64))) ∧ n1 = n ∧ hp1 y = some (.inr (11, [.int 0, .int ((nI c)), .ref mm_sorts, .ref mm_sizes, .ref mm_directs, .ref mm_many, .ref mm_from, .ref mm_to, .ref mm_weight, .ref mm_cost, .ref mm_numbers, .ref mm_state, .ref mm_worth, .ref mm_long1, .ref mm_howMany, .ref mm_rows, .ref mm_inPart, .ref mm_partCount, .ref mm_nf, .ref mm_nt, .ref mm_nw, .ref mm_nc, .int nm, .ref mm_column, .ref mm_next, .ref mm_inside, .ref mm_beside, .ref mm_solid, .ref mm_below, .ref mm_best, .ref mm_ways1, .ref mm_round, .ref mm_round2, .ref mm_label, .ref mm_bridge, .ref mm_outs, .ref mm_ins, .ref mm_least, .ref mm_spans, .ref mm_joinedWith, .ref mm_gone, .ref mm_dear, .ref mm_by, .ref mm_ahead, .ref mm_image])) ∧ ∀ (q : Nat) (e9 : va_E), hp q = some e9 → q ≠ y → hp1 q = some e9) := by
  refine Mt.of rfl (Nat.le_of_ble_eq_true rfl) ?_
  refine Rn.pick (lv' := [(0, .ref y), (1, .int ((nI h))), (2, .int ((nI v))), (3, .int 0)]) [0, 1, 2, 3] rfl ?_
  refine r_aload_n (pc := 0) dX12_way_0 (i := 0) rfl rfl ?_
  refine r_iload_n (pc := 1) dX12_way_1 (i := 1) rfl rfl ?_
  refine r_iconst (pc := 2) (v := 3) dX12_way_2 (by decide) ?_
  refine r_callV (pc := 3) (as := [.int ((nI h)), .int 3]) (st := []) kX12_183 rfl dX12_way_3 gc0 (c_X12_has_y (d := d - 1) (y := y) (rf := rf) (mm_sorts := mm_sorts) (mm_sizes := mm_sizes) (mm_directs := mm_directs) (mm_many := mm_many) (mm_from := mm_from) (mm_to := mm_to) (mm_weight := mm_weight) (mm_cost := mm_cost) (mm_numbers := mm_numbers) (mm_state := mm_state) (mm_worth := mm_worth) (mm_long1 := mm_long1) (mm_howMany := mm_howMany) (mm_rows := mm_rows) (mm_inPart := mm_inPart) (mm_partCount := mm_partCount) (mm_nf := mm_nf) (mm_nt := mm_nt) (mm_nw := mm_nw) (mm_nc := mm_nc) (nm := nm) (mm_column := mm_column) (mm_next := mm_next) (mm_inside := mm_inside) (mm_beside := mm_beside) (mm_solid := mm_solid) (mm_below := mm_below) (mm_best := mm_best) (mm_ways1 := mm_ways1) (mm_round := mm_round) (mm_round2 := mm_round2) (mm_label := mm_label) (mm_bridge := mm_bridge) (mm_outs := mm_outs) (mm_ins := mm_ins) (mm_least := mm_least) (mm_spans := mm_spans) (mm_joinedWith := mm_joinedWith) (mm_gone := mm_gone) (mm_dear := mm_dear) (mm_by := mm_by) (mm_ahead := mm_ahead) (mm_image := mm_image) (c := c) (h := h) (p2 := 3) (f0 := f0) (by omega) gc0 gc1 (hh) (hc) (hs)) rfl (by omega) (Nat.le_of_ble_eq_true rfl) (by omega) (by omega) rfl (fun r9 hp_1 nn_2 hq_3 => ?_)
  obtain ⟨rfl, hq_3n, h_4, ho_5⟩ := hq_3
  subst nn_2
  change Rn _ _ _ 6 _ [.int 1] _ _ _ _ _
  refine r_if_ne (pc := 6) (tgt := 11) dX12_way_6 (by decide) (fun _ => ?_) (fun c9 => absurd (by decide) c9)
  refine r_iload_n (pc := 11) dX12_way_11 (i := 3) rfl rfl ?_
  refine r_if_lt (pc := 12) (tgt := 34) dX12_way_12 (by decide) (fun c9 => absurd c9 (by decide)) (fun _ => ?_)
  refine r_iload_n (pc := 15) dX12_way_15 (i := 3) rfl rfl ?_
  refine r_iconst (pc := 16) (v := 3) dX12_way_16 (by decide) ?_
  refine r_icmp_gt (pc := 17) (tgt := 34) dX12_way_17 (by decide) (fun c9 => absurd c9 (by decide)) (fun _ => ?_)
  refine r_iload_n (pc := 20) dX12_way_20 (i := 2) rfl rfl ?_
  refine r_if_lt (pc := 21) (tgt := 34) dX12_way_21 (by decide) (fun c9 => absurd c9 (nI_pos (by omega))) (fun _ => ?_)
  refine r_iload_n (pc := 24) dX12_way_24 (i := 2) rfl rfl ?_
  refine r_aload_n (pc := 25) dX12_way_25 (i := 0) rfl rfl ?_
  refine r_get (pc := 26) (v := .ref mm_sizes) fX12_13 dX12_way_26 h_4 rfl ?_
  refine r_iload_n (pc := 29) dX12_way_29 (i := 1) rfl rfl ?_
  have h_6 : hp_1 mm_sizes = some (.inl (cI, 121, .inl (f1))) := (ho_5 mm_sizes _ gc2 (ne_c gc2 gc0 (by intro h9; cases h9)))
  refine w_iald (pc := 30) (t0 := 0) (v := (nI N)) dX12_way_30 rfl h_6 (vp_in_nI (by omega) (by omega)) (by rw [nI_clamp (by omega)]; exact e1) ?_
  refine r_icmp_lt (pc := 31) (tgt := 43) dX12_way_31 (by decide) (fun _ => ?_) (fun c9 => absurd (nI_lt hv (by omega)) c9)
  refine r_bipush (pc := 43) (v := (nI 16)) dX12_way_43 (by decide) ?_
  refine r_iload_n (pc := 45) dX12_way_45 (i := 1) rfl rfl ?_
  refine r_imul (pc := 46) (v := (nI (16 * h))) dX12_way_46 (pk_mul 16 h) ?_
  refine r_iload_n (pc := 47) dX12_way_47 (i := 2) rfl rfl ?_
  refine r_iadd (pc := 48) (v := (nI (16 * h + v))) dX12_way_48 (nI_add _ _) ?_
  refine r_istore (pc := 49) (lv' := [(4, .int ((nI (16 * h + v)))), (0, .ref y), (1, .int ((nI h))), (2, .int ((nI v))), (3, .int 0)]) dX12_way_49 (by decide) rfl ?_
  refine r_iload_n (pc := 51) dX12_way_51 (i := 3) rfl rfl ?_
  refine r_if_ne (pc := 52) (tgt := 66) dX12_way_52 (by decide) (fun c9 => absurd c9 (by decide)) (fun _ => ?_)
  refine r_aload_n (pc := 55) dX12_way_55 (i := 0) rfl rfl ?_
  refine r_get (pc := 56) (v := .ref mm_state) fX12_39 dX12_way_56 h_4 rfl ?_
  refine r_iload (pc := 59) dX12_way_59 rfl ?_
  have h_7 : hp_1 mm_state = some (.inl (cI, 1936, .inl (st))) := (ho_5 mm_state _ gc3 (ne_c gc3 gc0 (by intro h9; cases h9)))
  refine w_iald (pc := 61) (t0 := 0) (v := (st (16 * h + v))) dX12_way_61 rfl h_7 (vp_in_nI (by omega) (by omega)) (congrArg st (nI_clamp (by omega))) ?_
  refine r_i2l (pc := 62) (v := ((st (16 * h + v)).toInt64)) dX12_way_62 (rfl) ?_
  refine r_goto (pc := 63) (tgt := 104) dX12_way_63 (by decide) ?_
  exact r_lret (pc := 104) dX12_way_104 rfl (⟨rfl, rfl, h_4, fun q e9 h9 n9_0 => (ho_5 q e9 h9 n9_0)⟩)
set_option maxHeartbeats 4000000 in
set_option maxRecDepth 100000 in
theorem c_X12_way_1 {D : va_G} {cI cJ cZ cT : ClassId} {lo b L : Nat} {xs : Nat → Int32} {hp : MH} {n d : Nat} {y mm_sorts mm_sizes mm_directs mm_many mm_from mm_to mm_weight mm_cost mm_numbers mm_state mm_worth mm_long1 mm_howMany mm_rows mm_inPart mm_partCount mm_nf mm_nt mm_nw mm_nc mm_column mm_next mm_inside mm_beside mm_solid mm_below mm_best mm_ways1 mm_round mm_round2 mm_label mm_bridge mm_outs mm_ins mm_least mm_spans mm_joinedWith mm_gone mm_dear mm_by mm_ahead mm_image : Nat} {rf nm : Int32} {c h N : Nat} {f0 f1 : Nat → Int32} {v : Nat} {wo : Nat → Int64} (hd0 : 2 ≤ d) (gc0 : hp y = some (.inr (11, [.int rf, .int ((nI c)), .ref mm_sorts, .ref mm_sizes, .ref mm_directs, .ref mm_many, .ref mm_from, .ref mm_to, .ref mm_weight, .ref mm_cost, .ref mm_numbers, .ref mm_state, .ref mm_worth, .ref mm_long1, .ref mm_howMany, .ref mm_rows, .ref mm_inPart, .ref mm_partCount, .ref mm_nf, .ref mm_nt, .ref mm_nw, .ref mm_nc, .int nm, .ref mm_column, .ref mm_next, .ref mm_inside, .ref mm_beside, .ref mm_solid, .ref mm_below, .ref mm_best, .ref mm_ways1, .ref mm_round, .ref mm_round2, .ref mm_label, .ref mm_bridge, .ref mm_outs, .ref mm_ins, .ref mm_least, .ref mm_spans, .ref mm_joinedWith, .ref mm_gone, .ref mm_dear, .ref mm_by, .ref mm_ahead, .ref mm_image]))) (gc1 : hp mm_sorts = some (.inl (cI, 121, .inl (f0)))) (gc2 : hp mm_sizes = some (.inl (cI, 121, .inl (f1)))) (gc3 : hp mm_worth = some (.inl (cJ, 1936, .inr (.inl (wo))))) (hh : h < c) (hc : c ≤ 120) (hs : f0 h = 3) (e1 : f1 h = nI N) (hN : N ≤ 16) (hv : v < N) : Mt (gG D cI cJ cZ cT lo b L xs) mX12_way d 0 0 [.ref y, .int ((nI h)), .int ((nI v)), .int 1] hp n (fun r hp1 n1 => r = some (.long ((wo (16 * h + v)))) ∧ n1 = n ∧ hp1 y = some (.inr (11, [.int 0, .int ((nI c)), .ref mm_sorts, .ref mm_sizes, .ref mm_directs, .ref mm_many, .ref mm_from, .ref mm_to, .ref mm_weight, .ref mm_cost, .ref mm_numbers, .ref mm_state, .ref mm_worth, .ref mm_long1, .ref mm_howMany, .ref mm_rows, .ref mm_inPart, .ref mm_partCount, .ref mm_nf, .ref mm_nt, .ref mm_nw, .ref mm_nc, .int nm, .ref mm_column, .ref mm_next, .ref mm_inside, .ref mm_beside, .ref mm_solid, .ref mm_below, .ref mm_best, .ref mm_ways1, .ref mm_round, .ref mm_round2, .ref mm_label, .ref mm_bridge, .ref mm_outs, .ref mm_ins, .ref mm_least, .ref mm_spans, .ref mm_joinedWith, .ref mm_gone, .ref mm_dear, .ref mm_by, .ref mm_ahead, .ref mm_image])) ∧ ∀ (q : Nat) (e9 : va_E), hp q = some e9 → q ≠ y → hp1 q = some e9) := by
  refine Mt.of rfl (Nat.le_of_ble_eq_true rfl) ?_
  refine Rn.pick (lv' := [(0, .ref y), (1, .int ((nI h))), (2, .int ((nI v))), (3, .int 1)]) [0, 1, 2, 3] rfl ?_
  refine r_aload_n (pc := 0) dX12_way_0 (i := 0) rfl rfl ?_
  refine r_iload_n (pc := 1) dX12_way_1 (i := 1) rfl rfl ?_
  refine r_iconst (pc := 2) (v := 3) dX12_way_2 (by decide) ?_
  refine r_callV (pc := 3) (as := [.int ((nI h)), .int 3]) (st := []) kX12_183 rfl dX12_way_3 gc0 (c_X12_has_y (d := d - 1) (y := y) (rf := rf) (mm_sorts := mm_sorts) (mm_sizes := mm_sizes) (mm_directs := mm_directs) (mm_many := mm_many) (mm_from := mm_from) (mm_to := mm_to) (mm_weight := mm_weight) (mm_cost := mm_cost) (mm_numbers := mm_numbers) (mm_state := mm_state) (mm_worth := mm_worth) (mm_long1 := mm_long1) (mm_howMany := mm_howMany) (mm_rows := mm_rows) (mm_inPart := mm_inPart) (mm_partCount := mm_partCount) (mm_nf := mm_nf) (mm_nt := mm_nt) (mm_nw := mm_nw) (mm_nc := mm_nc) (nm := nm) (mm_column := mm_column) (mm_next := mm_next) (mm_inside := mm_inside) (mm_beside := mm_beside) (mm_solid := mm_solid) (mm_below := mm_below) (mm_best := mm_best) (mm_ways1 := mm_ways1) (mm_round := mm_round) (mm_round2 := mm_round2) (mm_label := mm_label) (mm_bridge := mm_bridge) (mm_outs := mm_outs) (mm_ins := mm_ins) (mm_least := mm_least) (mm_spans := mm_spans) (mm_joinedWith := mm_joinedWith) (mm_gone := mm_gone) (mm_dear := mm_dear) (mm_by := mm_by) (mm_ahead := mm_ahead) (mm_image := mm_image) (c := c) (h := h) (p2 := 3) (f0 := f0) (by omega) gc0 gc1 (hh) (hc) (hs)) rfl (by omega) (Nat.le_of_ble_eq_true rfl) (by omega) (by omega) rfl (fun r9 hp_1 nn_2 hq_3 => ?_)
  obtain ⟨rfl, hq_3n, h_4, ho_5⟩ := hq_3
  subst nn_2
  change Rn _ _ _ 6 _ [.int 1] _ _ _ _ _
  refine r_if_ne (pc := 6) (tgt := 11) dX12_way_6 (by decide) (fun _ => ?_) (fun c9 => absurd (by decide) c9)
  refine r_iload_n (pc := 11) dX12_way_11 (i := 3) rfl rfl ?_
  refine r_if_lt (pc := 12) (tgt := 34) dX12_way_12 (by decide) (fun c9 => absurd c9 (by decide)) (fun _ => ?_)
  refine r_iload_n (pc := 15) dX12_way_15 (i := 3) rfl rfl ?_
  refine r_iconst (pc := 16) (v := 3) dX12_way_16 (by decide) ?_
  refine r_icmp_gt (pc := 17) (tgt := 34) dX12_way_17 (by decide) (fun c9 => absurd c9 (by decide)) (fun _ => ?_)
  refine r_iload_n (pc := 20) dX12_way_20 (i := 2) rfl rfl ?_
  refine r_if_lt (pc := 21) (tgt := 34) dX12_way_21 (by decide) (fun c9 => absurd c9 (nI_pos (by omega))) (fun _ => ?_)
  refine r_iload_n (pc := 24) dX12_way_24 (i := 2) rfl rfl ?_
  refine r_aload_n (pc := 25) dX12_way_25 (i := 0) rfl rfl ?_
  refine r_get (pc := 26) (v := .ref mm_sizes) fX12_13 dX12_way_26 h_4 rfl ?_
  refine r_iload_n (pc := 29) dX12_way_29 (i := 1) rfl rfl ?_
  have h_6 : hp_1 mm_sizes = some (.inl (cI, 121, .inl (f1))) := (ho_5 mm_sizes _ gc2 (ne_c gc2 gc0 (by intro h9; cases h9)))
  refine w_iald (pc := 30) (t0 := 0) (v := (nI N)) dX12_way_30 rfl h_6 (vp_in_nI (by omega) (by omega)) (by rw [nI_clamp (by omega)]; exact e1) ?_
  refine r_icmp_lt (pc := 31) (tgt := 43) dX12_way_31 (by decide) (fun _ => ?_) (fun c9 => absurd (nI_lt hv (by omega)) c9)
  refine r_bipush (pc := 43) (v := (nI 16)) dX12_way_43 (by decide) ?_
  refine r_iload_n (pc := 45) dX12_way_45 (i := 1) rfl rfl ?_
  refine r_imul (pc := 46) (v := (nI (16 * h))) dX12_way_46 (pk_mul 16 h) ?_
  refine r_iload_n (pc := 47) dX12_way_47 (i := 2) rfl rfl ?_
  refine r_iadd (pc := 48) (v := (nI (16 * h + v))) dX12_way_48 (nI_add _ _) ?_
  refine r_istore (pc := 49) (lv' := [(4, .int ((nI (16 * h + v)))), (0, .ref y), (1, .int ((nI h))), (2, .int ((nI v))), (3, .int 1)]) dX12_way_49 (by decide) rfl ?_
  refine r_iload_n (pc := 51) dX12_way_51 (i := 3) rfl rfl ?_
  refine r_if_ne (pc := 52) (tgt := 66) dX12_way_52 (by decide) (fun _ => ?_) (fun c9 => absurd (by decide) c9)
  refine r_iload_n (pc := 66) dX12_way_66 (i := 3) rfl rfl ?_
  refine r_iconst (pc := 67) (v := 1) dX12_way_67 (by decide) ?_
  refine r_icmp_ne (pc := 68) (tgt := 81) dX12_way_68 (by decide) (fun c9 => absurd c9 (by decide)) (fun _ => ?_)
  refine r_aload_n (pc := 71) dX12_way_71 (i := 0) rfl rfl ?_
  refine r_get (pc := 72) (v := .ref mm_worth) fX12_42 dX12_way_72 h_4 rfl ?_
  refine r_iload (pc := 75) dX12_way_75 rfl ?_
  have h_7 : hp_1 mm_worth = some (.inl (cJ, 1936, .inr (.inl (wo)))) := (ho_5 mm_worth _ gc3 (ne_c gc3 gc0 (by intro h9; cases h9)))
  refine w_lald (pc := 77) (t0 := 1) (v := (wo (16 * h + v))) dX12_way_77 rfl h_7 (vp_in_nI (by omega) (by omega)) (congrArg wo (nI_clamp (by omega))) ?_
  refine r_goto (pc := 78) (tgt := 104) dX12_way_78 (by decide) ?_
  exact r_lret (pc := 104) dX12_way_104 rfl (⟨rfl, rfl, h_4, fun q e9 h9 n9_0 => (ho_5 q e9 h9 n9_0)⟩)
set_option maxHeartbeats 4000000 in
set_option maxRecDepth 100000 in
theorem c_X12_way_2 {D : va_G} {cI cJ cZ cT : ClassId} {lo b L : Nat} {xs : Nat → Int32} {hp : MH} {n d : Nat} {y mm_sorts mm_sizes mm_directs mm_many mm_from mm_to mm_weight mm_cost mm_numbers mm_state mm_worth mm_long1 mm_howMany mm_rows mm_inPart mm_partCount mm_nf mm_nt mm_nw mm_nc mm_column mm_next mm_inside mm_beside mm_solid mm_below mm_best mm_ways1 mm_round mm_round2 mm_label mm_bridge mm_outs mm_ins mm_least mm_spans mm_joinedWith mm_gone mm_dear mm_by mm_ahead mm_image : Nat} {rf nm : Int32} {c h N : Nat} {f0 f1 : Nat → Int32} {v : Nat} {lo1 : Nat → Int32} (hd0 : 2 ≤ d) (gc0 : hp y = some (.inr (11, [.int rf, .int ((nI c)), .ref mm_sorts, .ref mm_sizes, .ref mm_directs, .ref mm_many, .ref mm_from, .ref mm_to, .ref mm_weight, .ref mm_cost, .ref mm_numbers, .ref mm_state, .ref mm_worth, .ref mm_long1, .ref mm_howMany, .ref mm_rows, .ref mm_inPart, .ref mm_partCount, .ref mm_nf, .ref mm_nt, .ref mm_nw, .ref mm_nc, .int nm, .ref mm_column, .ref mm_next, .ref mm_inside, .ref mm_beside, .ref mm_solid, .ref mm_below, .ref mm_best, .ref mm_ways1, .ref mm_round, .ref mm_round2, .ref mm_label, .ref mm_bridge, .ref mm_outs, .ref mm_ins, .ref mm_least, .ref mm_spans, .ref mm_joinedWith, .ref mm_gone, .ref mm_dear, .ref mm_by, .ref mm_ahead, .ref mm_image]))) (gc1 : hp mm_sorts = some (.inl (cI, 121, .inl (f0)))) (gc2 : hp mm_sizes = some (.inl (cI, 121, .inl (f1)))) (gc3 : hp mm_long1 = some (.inl (cI, 1936, .inl (lo1)))) (hh : h < c) (hc : c ≤ 120) (hs : f0 h = 3) (e1 : f1 h = nI N) (hN : N ≤ 16) (hv : v < N) : Mt (gG D cI cJ cZ cT lo b L xs) mX12_way d 0 0 [.ref y, .int ((nI h)), .int ((nI v)), .int 2] hp n (fun r hp1 n1 => r = some (.long (((lo1 (16 * h + v)).toInt64))) ∧ n1 = n ∧ hp1 y = some (.inr (11, [.int 0, .int ((nI c)), .ref mm_sorts, .ref mm_sizes, .ref mm_directs, .ref mm_many, .ref mm_from, .ref mm_to, .ref mm_weight, .ref mm_cost, .ref mm_numbers, .ref mm_state, .ref mm_worth, .ref mm_long1, .ref mm_howMany, .ref mm_rows, .ref mm_inPart, .ref mm_partCount, .ref mm_nf, .ref mm_nt, .ref mm_nw, .ref mm_nc, .int nm, .ref mm_column, .ref mm_next, .ref mm_inside, .ref mm_beside, .ref mm_solid, .ref mm_below, .ref mm_best, .ref mm_ways1, .ref mm_round, .ref mm_round2, .ref mm_label, .ref mm_bridge, .ref mm_outs, .ref mm_ins, .ref mm_least, .ref mm_spans, .ref mm_joinedWith, .ref mm_gone, .ref mm_dear, .ref mm_by, .ref mm_ahead, .ref mm_image])) ∧ ∀ (q : Nat) (e9 : va_E), hp q = some e9 → q ≠ y → hp1 q = some e9) := by
  refine Mt.of rfl (Nat.le_of_ble_eq_true rfl) ?_
  refine Rn.pick (lv' := [(0, .ref y), (1, .int ((nI h))), (2, .int ((nI v))), (3, .int 2)]) [0, 1, 2, 3] rfl ?_
  refine r_aload_n (pc := 0) dX12_way_0 (i := 0) rfl rfl ?_
  refine r_iload_n (pc := 1) dX12_way_1 (i := 1) rfl rfl ?_
  refine r_iconst (pc := 2) (v := 3) dX12_way_2 (by decide) ?_
  refine r_callV (pc := 3) (as := [.int ((nI h)), .int 3]) (st := []) kX12_183 rfl dX12_way_3 gc0 (c_X12_has_y (d := d - 1) (y := y) (rf := rf) (mm_sorts := mm_sorts) (mm_sizes := mm_sizes) (mm_directs := mm_directs) (mm_many := mm_many) (mm_from := mm_from) (mm_to := mm_to) (mm_weight := mm_weight) (mm_cost := mm_cost) (mm_numbers := mm_numbers) (mm_state := mm_state) (mm_worth := mm_worth) (mm_long1 := mm_long1) (mm_howMany := mm_howMany) (mm_rows := mm_rows) (mm_inPart := mm_inPart) (mm_partCount := mm_partCount) (mm_nf := mm_nf) (mm_nt := mm_nt) (mm_nw := mm_nw) (mm_nc := mm_nc) (nm := nm) (mm_column := mm_column) (mm_next := mm_next) (mm_inside := mm_inside) (mm_beside := mm_beside) (mm_solid := mm_solid) (mm_below := mm_below) (mm_best := mm_best) (mm_ways1 := mm_ways1) (mm_round := mm_round) (mm_round2 := mm_round2) (mm_label := mm_label) (mm_bridge := mm_bridge) (mm_outs := mm_outs) (mm_ins := mm_ins) (mm_least := mm_least) (mm_spans := mm_spans) (mm_joinedWith := mm_joinedWith) (mm_gone := mm_gone) (mm_dear := mm_dear) (mm_by := mm_by) (mm_ahead := mm_ahead) (mm_image := mm_image) (c := c) (h := h) (p2 := 3) (f0 := f0) (by omega) gc0 gc1 (hh) (hc) (hs)) rfl (by omega) (Nat.le_of_ble_eq_true rfl) (by omega) (by omega) rfl (fun r9 hp_1 nn_2 hq_3 => ?_)
  obtain ⟨rfl, hq_3n, h_4, ho_5⟩ := hq_3
  subst nn_2
  change Rn _ _ _ 6 _ [.int 1] _ _ _ _ _
  refine r_if_ne (pc := 6) (tgt := 11) dX12_way_6 (by decide) (fun _ => ?_) (fun c9 => absurd (by decide) c9)
  refine r_iload_n (pc := 11) dX12_way_11 (i := 3) rfl rfl ?_
  refine r_if_lt (pc := 12) (tgt := 34) dX12_way_12 (by decide) (fun c9 => absurd c9 (by decide)) (fun _ => ?_)
  refine r_iload_n (pc := 15) dX12_way_15 (i := 3) rfl rfl ?_
  refine r_iconst (pc := 16) (v := 3) dX12_way_16 (by decide) ?_
  refine r_icmp_gt (pc := 17) (tgt := 34) dX12_way_17 (by decide) (fun c9 => absurd c9 (by decide)) (fun _ => ?_)
  refine r_iload_n (pc := 20) dX12_way_20 (i := 2) rfl rfl ?_
  refine r_if_lt (pc := 21) (tgt := 34) dX12_way_21 (by decide) (fun c9 => absurd c9 (nI_pos (by omega))) (fun _ => ?_)
  refine r_iload_n (pc := 24) dX12_way_24 (i := 2) rfl rfl ?_
  refine r_aload_n (pc := 25) dX12_way_25 (i := 0) rfl rfl ?_
  refine r_get (pc := 26) (v := .ref mm_sizes) fX12_13 dX12_way_26 h_4 rfl ?_
  refine r_iload_n (pc := 29) dX12_way_29 (i := 1) rfl rfl ?_
  have h_6 : hp_1 mm_sizes = some (.inl (cI, 121, .inl (f1))) := (ho_5 mm_sizes _ gc2 (ne_c gc2 gc0 (by intro h9; cases h9)))
  refine w_iald (pc := 30) (t0 := 0) (v := (nI N)) dX12_way_30 rfl h_6 (vp_in_nI (by omega) (by omega)) (by rw [nI_clamp (by omega)]; exact e1) ?_
  refine r_icmp_lt (pc := 31) (tgt := 43) dX12_way_31 (by decide) (fun _ => ?_) (fun c9 => absurd (nI_lt hv (by omega)) c9)
  refine r_bipush (pc := 43) (v := (nI 16)) dX12_way_43 (by decide) ?_
  refine r_iload_n (pc := 45) dX12_way_45 (i := 1) rfl rfl ?_
  refine r_imul (pc := 46) (v := (nI (16 * h))) dX12_way_46 (pk_mul 16 h) ?_
  refine r_iload_n (pc := 47) dX12_way_47 (i := 2) rfl rfl ?_
  refine r_iadd (pc := 48) (v := (nI (16 * h + v))) dX12_way_48 (nI_add _ _) ?_
  refine r_istore (pc := 49) (lv' := [(4, .int ((nI (16 * h + v)))), (0, .ref y), (1, .int ((nI h))), (2, .int ((nI v))), (3, .int 2)]) dX12_way_49 (by decide) rfl ?_
  refine r_iload_n (pc := 51) dX12_way_51 (i := 3) rfl rfl ?_
  refine r_if_ne (pc := 52) (tgt := 66) dX12_way_52 (by decide) (fun _ => ?_) (fun c9 => absurd (by decide) c9)
  refine r_iload_n (pc := 66) dX12_way_66 (i := 3) rfl rfl ?_
  refine r_iconst (pc := 67) (v := 1) dX12_way_67 (by decide) ?_
  refine r_icmp_ne (pc := 68) (tgt := 81) dX12_way_68 (by decide) (fun _ => ?_) (fun c9 => absurd (by decide) c9)
  refine r_iload_n (pc := 81) dX12_way_81 (i := 3) rfl rfl ?_
  refine r_iconst (pc := 82) (v := 2) dX12_way_82 (by decide) ?_
  refine r_icmp_ne (pc := 83) (tgt := 97) dX12_way_83 (by decide) (fun c9 => absurd c9 (by decide)) (fun _ => ?_)
  refine r_aload_n (pc := 86) dX12_way_86 (i := 0) rfl rfl ?_
  refine r_get (pc := 87) (v := .ref mm_long1) fX12_45 dX12_way_87 h_4 rfl ?_
  refine r_iload (pc := 90) dX12_way_90 rfl ?_
  have h_7 : hp_1 mm_long1 = some (.inl (cI, 1936, .inl (lo1))) := (ho_5 mm_long1 _ gc3 (ne_c gc3 gc0 (by intro h9; cases h9)))
  refine w_iald (pc := 92) (t0 := 0) (v := (lo1 (16 * h + v))) dX12_way_92 rfl h_7 (vp_in_nI (by omega) (by omega)) (congrArg lo1 (nI_clamp (by omega))) ?_
  refine r_i2l (pc := 93) (v := ((lo1 (16 * h + v)).toInt64)) dX12_way_93 (rfl) ?_
  refine r_goto (pc := 94) (tgt := 104) dX12_way_94 (by decide) ?_
  exact r_lret (pc := 104) dX12_way_104 rfl (⟨rfl, rfl, h_4, fun q e9 h9 n9_0 => (ho_5 q e9 h9 n9_0)⟩)
set_option maxHeartbeats 4000000 in
set_option maxRecDepth 100000 in
theorem c_X12_way_3 {D : va_G} {cI cJ cZ cT : ClassId} {lo b L : Nat} {xs : Nat → Int32} {hp : MH} {n d : Nat} {y mm_sorts mm_sizes mm_directs mm_many mm_from mm_to mm_weight mm_cost mm_numbers mm_state mm_worth mm_long1 mm_howMany mm_rows mm_inPart mm_partCount mm_nf mm_nt mm_nw mm_nc mm_column mm_next mm_inside mm_beside mm_solid mm_below mm_best mm_ways1 mm_round mm_round2 mm_label mm_bridge mm_outs mm_ins mm_least mm_spans mm_joinedWith mm_gone mm_dear mm_by mm_ahead mm_image : Nat} {rf nm : Int32} {c h N : Nat} {f0 f1 : Nat → Int32} {v : Nat} {hm : Nat → Int64} (hd0 : 2 ≤ d) (gc0 : hp y = some (.inr (11, [.int rf, .int ((nI c)), .ref mm_sorts, .ref mm_sizes, .ref mm_directs, .ref mm_many, .ref mm_from, .ref mm_to, .ref mm_weight, .ref mm_cost, .ref mm_numbers, .ref mm_state, .ref mm_worth, .ref mm_long1, .ref mm_howMany, .ref mm_rows, .ref mm_inPart, .ref mm_partCount, .ref mm_nf, .ref mm_nt, .ref mm_nw, .ref mm_nc, .int nm, .ref mm_column, .ref mm_next, .ref mm_inside, .ref mm_beside, .ref mm_solid, .ref mm_below, .ref mm_best, .ref mm_ways1, .ref mm_round, .ref mm_round2, .ref mm_label, .ref mm_bridge, .ref mm_outs, .ref mm_ins, .ref mm_least, .ref mm_spans, .ref mm_joinedWith, .ref mm_gone, .ref mm_dear, .ref mm_by, .ref mm_ahead, .ref mm_image]))) (gc1 : hp mm_sorts = some (.inl (cI, 121, .inl (f0)))) (gc2 : hp mm_sizes = some (.inl (cI, 121, .inl (f1)))) (gc3 : hp mm_howMany = some (.inl (cJ, 1936, .inr (.inl (hm))))) (hh : h < c) (hc : c ≤ 120) (hs : f0 h = 3) (e1 : f1 h = nI N) (hN : N ≤ 16) (hv : v < N) : Mt (gG D cI cJ cZ cT lo b L xs) mX12_way d 0 0 [.ref y, .int ((nI h)), .int ((nI v)), .int 3] hp n (fun r hp1 n1 => r = some (.long ((hm (16 * h + v)))) ∧ n1 = n ∧ hp1 y = some (.inr (11, [.int 0, .int ((nI c)), .ref mm_sorts, .ref mm_sizes, .ref mm_directs, .ref mm_many, .ref mm_from, .ref mm_to, .ref mm_weight, .ref mm_cost, .ref mm_numbers, .ref mm_state, .ref mm_worth, .ref mm_long1, .ref mm_howMany, .ref mm_rows, .ref mm_inPart, .ref mm_partCount, .ref mm_nf, .ref mm_nt, .ref mm_nw, .ref mm_nc, .int nm, .ref mm_column, .ref mm_next, .ref mm_inside, .ref mm_beside, .ref mm_solid, .ref mm_below, .ref mm_best, .ref mm_ways1, .ref mm_round, .ref mm_round2, .ref mm_label, .ref mm_bridge, .ref mm_outs, .ref mm_ins, .ref mm_least, .ref mm_spans, .ref mm_joinedWith, .ref mm_gone, .ref mm_dear, .ref mm_by, .ref mm_ahead, .ref mm_image])) ∧ ∀ (q : Nat) (e9 : va_E), hp q = some e9 → q ≠ y → hp1 q = some e9) := by
  refine Mt.of rfl (Nat.le_of_ble_eq_true rfl) ?_
  refine Rn.pick (lv' := [(0, .ref y), (1, .int ((nI h))), (2, .int ((nI v))), (3, .int 3)]) [0, 1, 2, 3] rfl ?_
  refine r_aload_n (pc := 0) dX12_way_0 (i := 0) rfl rfl ?_
  refine r_iload_n (pc := 1) dX12_way_1 (i := 1) rfl rfl ?_
  refine r_iconst (pc := 2) (v := 3) dX12_way_2 (by decide) ?_
  refine r_callV (pc := 3) (as := [.int ((nI h)), .int 3]) (st := []) kX12_183 rfl dX12_way_3 gc0 (c_X12_has_y (d := d - 1) (y := y) (rf := rf) (mm_sorts := mm_sorts) (mm_sizes := mm_sizes) (mm_directs := mm_directs) (mm_many := mm_many) (mm_from := mm_from) (mm_to := mm_to) (mm_weight := mm_weight) (mm_cost := mm_cost) (mm_numbers := mm_numbers) (mm_state := mm_state) (mm_worth := mm_worth) (mm_long1 := mm_long1) (mm_howMany := mm_howMany) (mm_rows := mm_rows) (mm_inPart := mm_inPart) (mm_partCount := mm_partCount) (mm_nf := mm_nf) (mm_nt := mm_nt) (mm_nw := mm_nw) (mm_nc := mm_nc) (nm := nm) (mm_column := mm_column) (mm_next := mm_next) (mm_inside := mm_inside) (mm_beside := mm_beside) (mm_solid := mm_solid) (mm_below := mm_below) (mm_best := mm_best) (mm_ways1 := mm_ways1) (mm_round := mm_round) (mm_round2 := mm_round2) (mm_label := mm_label) (mm_bridge := mm_bridge) (mm_outs := mm_outs) (mm_ins := mm_ins) (mm_least := mm_least) (mm_spans := mm_spans) (mm_joinedWith := mm_joinedWith) (mm_gone := mm_gone) (mm_dear := mm_dear) (mm_by := mm_by) (mm_ahead := mm_ahead) (mm_image := mm_image) (c := c) (h := h) (p2 := 3) (f0 := f0) (by omega) gc0 gc1 (hh) (hc) (hs)) rfl (by omega) (Nat.le_of_ble_eq_true rfl) (by omega) (by omega) rfl (fun r9 hp_1 nn_2 hq_3 => ?_)
  obtain ⟨rfl, hq_3n, h_4, ho_5⟩ := hq_3
  subst nn_2
  change Rn _ _ _ 6 _ [.int 1] _ _ _ _ _
  refine r_if_ne (pc := 6) (tgt := 11) dX12_way_6 (by decide) (fun _ => ?_) (fun c9 => absurd (by decide) c9)
  refine r_iload_n (pc := 11) dX12_way_11 (i := 3) rfl rfl ?_
  refine r_if_lt (pc := 12) (tgt := 34) dX12_way_12 (by decide) (fun c9 => absurd c9 (by decide)) (fun _ => ?_)
  refine r_iload_n (pc := 15) dX12_way_15 (i := 3) rfl rfl ?_
  refine r_iconst (pc := 16) (v := 3) dX12_way_16 (by decide) ?_
  refine r_icmp_gt (pc := 17) (tgt := 34) dX12_way_17 (by decide) (fun c9 => absurd c9 (by decide)) (fun _ => ?_)
  refine r_iload_n (pc := 20) dX12_way_20 (i := 2) rfl rfl ?_
  refine r_if_lt (pc := 21) (tgt := 34) dX12_way_21 (by decide) (fun c9 => absurd c9 (nI_pos (by omega))) (fun _ => ?_)
  refine r_iload_n (pc := 24) dX12_way_24 (i := 2) rfl rfl ?_
  refine r_aload_n (pc := 25) dX12_way_25 (i := 0) rfl rfl ?_
  refine r_get (pc := 26) (v := .ref mm_sizes) fX12_13 dX12_way_26 h_4 rfl ?_
  refine r_iload_n (pc := 29) dX12_way_29 (i := 1) rfl rfl ?_
  have h_6 : hp_1 mm_sizes = some (.inl (cI, 121, .inl (f1))) := (ho_5 mm_sizes _ gc2 (ne_c gc2 gc0 (by intro h9; cases h9)))
  refine w_iald (pc := 30) (t0 := 0) (v := (nI N)) dX12_way_30 rfl h_6 (vp_in_nI (by omega) (by omega)) (by rw [nI_clamp (by omega)]; exact e1) ?_
  refine r_icmp_lt (pc := 31) (tgt := 43) dX12_way_31 (by decide) (fun _ => ?_) (fun c9 => absurd (nI_lt hv (by omega)) c9)
  refine r_bipush (pc := 43) (v := (nI 16)) dX12_way_43 (by decide) ?_
  refine r_iload_n (pc := 45) dX12_way_45 (i := 1) rfl rfl ?_
  refine r_imul (pc := 46) (v := (nI (16 * h))) dX12_way_46 (pk_mul 16 h) ?_
  refine r_iload_n (pc := 47) dX12_way_47 (i := 2) rfl rfl ?_
  refine r_iadd (pc := 48) (v := (nI (16 * h + v))) dX12_way_48 (nI_add _ _) ?_
  refine r_istore (pc := 49) (lv' := [(4, .int ((nI (16 * h + v)))), (0, .ref y), (1, .int ((nI h))), (2, .int ((nI v))), (3, .int 3)]) dX12_way_49 (by decide) rfl ?_
  refine r_iload_n (pc := 51) dX12_way_51 (i := 3) rfl rfl ?_
  refine r_if_ne (pc := 52) (tgt := 66) dX12_way_52 (by decide) (fun _ => ?_) (fun c9 => absurd (by decide) c9)
  refine r_iload_n (pc := 66) dX12_way_66 (i := 3) rfl rfl ?_
  refine r_iconst (pc := 67) (v := 1) dX12_way_67 (by decide) ?_
  refine r_icmp_ne (pc := 68) (tgt := 81) dX12_way_68 (by decide) (fun _ => ?_) (fun c9 => absurd (by decide) c9)
  refine r_iload_n (pc := 81) dX12_way_81 (i := 3) rfl rfl ?_
  refine r_iconst (pc := 82) (v := 2) dX12_way_82 (by decide) ?_
  refine r_icmp_ne (pc := 83) (tgt := 97) dX12_way_83 (by decide) (fun _ => ?_) (fun c9 => absurd (by decide) c9)
  refine r_aload_n (pc := 97) dX12_way_97 (i := 0) rfl rfl ?_
  refine r_get (pc := 98) (v := .ref mm_howMany) fX12_48 dX12_way_98 h_4 rfl ?_
  refine r_iload (pc := 101) dX12_way_101 rfl ?_
  have h_7 : hp_1 mm_howMany = some (.inl (cJ, 1936, .inr (.inl (hm)))) := (ho_5 mm_howMany _ gc3 (ne_c gc3 gc0 (by intro h9; cases h9)))
  refine w_lald (pc := 103) (t0 := 1) (v := (hm (16 * h + v))) dX12_way_103 rfl h_7 (vp_in_nI (by omega) (by omega)) (congrArg hm (nI_clamp (by omega))) ?_
  exact r_lret (pc := 104) dX12_way_104 rfl (⟨rfl, rfl, h_4, fun q e9 h9 n9_0 => (ho_5 q e9 h9 n9_0)⟩)
set_option maxHeartbeats 4000000 in
set_option maxRecDepth 100000 in
theorem c_X12_way_no {D : va_G} {cI cJ cZ cT : ClassId} {lo b L : Nat} {xs : Nat → Int32} {hp : MH} {n d : Nat} {y mm_sorts mm_sizes mm_directs mm_many mm_from mm_to mm_weight mm_cost mm_numbers mm_state mm_worth mm_long1 mm_howMany mm_rows mm_inPart mm_partCount mm_nf mm_nt mm_nw mm_nc mm_column mm_next mm_inside mm_beside mm_solid mm_below mm_best mm_ways1 mm_round mm_round2 mm_label mm_bridge mm_outs mm_ins mm_least mm_spans mm_joinedWith mm_gone mm_dear mm_by mm_ahead mm_image : Nat} {rf nm : Int32} {c h N : Nat} {f0 f1 : Nat → Int32} {p2 p3 : Int32} (hd0 : 2 ≤ d) (gc0 : hp y = some (.inr (11, [.int rf, .int ((nI c)), .ref mm_sorts, .ref mm_sizes, .ref mm_directs, .ref mm_many, .ref mm_from, .ref mm_to, .ref mm_weight, .ref mm_cost, .ref mm_numbers, .ref mm_state, .ref mm_worth, .ref mm_long1, .ref mm_howMany, .ref mm_rows, .ref mm_inPart, .ref mm_partCount, .ref mm_nf, .ref mm_nt, .ref mm_nw, .ref mm_nc, .int nm, .ref mm_column, .ref mm_next, .ref mm_inside, .ref mm_beside, .ref mm_solid, .ref mm_below, .ref mm_best, .ref mm_ways1, .ref mm_round, .ref mm_round2, .ref mm_label, .ref mm_bridge, .ref mm_outs, .ref mm_ins, .ref mm_least, .ref mm_spans, .ref mm_joinedWith, .ref mm_gone, .ref mm_dear, .ref mm_by, .ref mm_ahead, .ref mm_image]))) (gc1 : hp mm_sorts = some (.inl (cI, 121, .inl (f0)))) (gc2 : hp mm_sizes = some (.inl (cI, 121, .inl (f1)))) (hh : h < c) (hc : c ≤ 120) (hs : f0 h = 3) (e1 : f1 h = nI N) (hN : N ≤ 16) (hv : ¬ (¬ p3 < 0 ∧ ¬ 3 < p3 ∧ ¬ p2 < 0 ∧ p2 < nI N)) : Mt (gG D cI cJ cZ cT lo b L xs) mX12_way d 0 0 [.ref y, .int ((nI h)), .int p2, .int p3] hp n (fun r hp1 n1 => r = some (.long 0) ∧ n1 = n ∧ hp1 y = some (.inr (11, [.int ((-3)), .int ((nI c)), .ref mm_sorts, .ref mm_sizes, .ref mm_directs, .ref mm_many, .ref mm_from, .ref mm_to, .ref mm_weight, .ref mm_cost, .ref mm_numbers, .ref mm_state, .ref mm_worth, .ref mm_long1, .ref mm_howMany, .ref mm_rows, .ref mm_inPart, .ref mm_partCount, .ref mm_nf, .ref mm_nt, .ref mm_nw, .ref mm_nc, .int nm, .ref mm_column, .ref mm_next, .ref mm_inside, .ref mm_beside, .ref mm_solid, .ref mm_below, .ref mm_best, .ref mm_ways1, .ref mm_round, .ref mm_round2, .ref mm_label, .ref mm_bridge, .ref mm_outs, .ref mm_ins, .ref mm_least, .ref mm_spans, .ref mm_joinedWith, .ref mm_gone, .ref mm_dear, .ref mm_by, .ref mm_ahead, .ref mm_image])) ∧ ∀ (q : Nat) (e9 : va_E), hp q = some e9 → q ≠ y → hp1 q = some e9) := by
  refine Mt.of rfl (Nat.le_of_ble_eq_true rfl) ?_
  refine Rn.pick (lv' := [(0, .ref y), (1, .int ((nI h))), (2, .int p2), (3, .int p3)]) [0, 1, 2, 3] rfl ?_
  refine r_aload_n (pc := 0) dX12_way_0 (i := 0) rfl rfl ?_
  refine r_iload_n (pc := 1) dX12_way_1 (i := 1) rfl rfl ?_
  refine r_iconst (pc := 2) (v := 3) dX12_way_2 (by decide) ?_
  refine r_callV (pc := 3) (as := [.int ((nI h)), .int 3]) (st := []) kX12_183 rfl dX12_way_3 gc0 (c_X12_has_y (d := d - 1) (y := y) (rf := rf) (mm_sorts := mm_sorts) (mm_sizes := mm_sizes) (mm_directs := mm_directs) (mm_many := mm_many) (mm_from := mm_from) (mm_to := mm_to) (mm_weight := mm_weight) (mm_cost := mm_cost) (mm_numbers := mm_numbers) (mm_state := mm_state) (mm_worth := mm_worth) (mm_long1 := mm_long1) (mm_howMany := mm_howMany) (mm_rows := mm_rows) (mm_inPart := mm_inPart) (mm_partCount := mm_partCount) (mm_nf := mm_nf) (mm_nt := mm_nt) (mm_nw := mm_nw) (mm_nc := mm_nc) (nm := nm) (mm_column := mm_column) (mm_next := mm_next) (mm_inside := mm_inside) (mm_beside := mm_beside) (mm_solid := mm_solid) (mm_below := mm_below) (mm_best := mm_best) (mm_ways1 := mm_ways1) (mm_round := mm_round) (mm_round2 := mm_round2) (mm_label := mm_label) (mm_bridge := mm_bridge) (mm_outs := mm_outs) (mm_ins := mm_ins) (mm_least := mm_least) (mm_spans := mm_spans) (mm_joinedWith := mm_joinedWith) (mm_gone := mm_gone) (mm_dear := mm_dear) (mm_by := mm_by) (mm_ahead := mm_ahead) (mm_image := mm_image) (c := c) (h := h) (p2 := 3) (f0 := f0) (by omega) gc0 gc1 (hh) (hc) (hs)) rfl (by omega) (Nat.le_of_ble_eq_true rfl) (by omega) (by omega) rfl (fun r9 hp_1 nn_2 hq_3 => ?_)
  obtain ⟨rfl, hq_3n, h_4, ho_5⟩ := hq_3
  subst nn_2
  change Rn _ _ _ 6 _ [.int 1] _ _ _ _ _
  refine r_if_ne (pc := 6) (tgt := 11) dX12_way_6 (by decide) (fun _ => ?_) (fun c9 => absurd (by decide) c9)
  refine r_iload_n (pc := 11) dX12_way_11 (i := 3) rfl rfl ?_
  refine r_if_lt (pc := 12) (tgt := 34) dX12_way_12 (by decide) (fun c12 => ?_) (fun c12 => ?_)
  · refine r_aload_n (pc := 34) dX12_way_34 (i := 0) rfl rfl ?_
    refine r_bipush (pc := 35) (v := (-3)) dX12_way_35 (by decide) ?_
    refine r_callV (pc := 37) (as := [.int ((-3))]) (st := []) kX12_153 rfl dX12_way_37 h_4 (c_X12_refuse (d := d - 1) (y := y) (rf := 0) (cnt := (nI c)) (mm_sorts := mm_sorts) (mm_sizes := mm_sizes) (mm_directs := mm_directs) (mm_many := mm_many) (mm_from := mm_from) (mm_to := mm_to) (mm_weight := mm_weight) (mm_cost := mm_cost) (mm_numbers := mm_numbers) (mm_state := mm_state) (mm_worth := mm_worth) (mm_long1 := mm_long1) (mm_howMany := mm_howMany) (mm_rows := mm_rows) (mm_inPart := mm_inPart) (mm_partCount := mm_partCount) (mm_nf := mm_nf) (mm_nt := mm_nt) (mm_nw := mm_nw) (mm_nc := mm_nc) (nm := nm) (mm_column := mm_column) (mm_next := mm_next) (mm_inside := mm_inside) (mm_beside := mm_beside) (mm_solid := mm_solid) (mm_below := mm_below) (mm_best := mm_best) (mm_ways1 := mm_ways1) (mm_round := mm_round) (mm_round2 := mm_round2) (mm_label := mm_label) (mm_bridge := mm_bridge) (mm_outs := mm_outs) (mm_ins := mm_ins) (mm_least := mm_least) (mm_spans := mm_spans) (mm_joinedWith := mm_joinedWith) (mm_gone := mm_gone) (mm_dear := mm_dear) (mm_by := mm_by) (mm_ahead := mm_ahead) (mm_image := mm_image) (p1 := (-3)) (by omega) h_4 ) rfl (by omega) (Nat.le_of_ble_eq_true rfl) (by omega) (by omega) rfl (fun r9 hp_6 nn_7 hq_8 => ?_)
    obtain ⟨rfl, hq_8n, h_9, ho_10⟩ := hq_8
    subst nn_7
    change Rn _ _ _ 40 _ [.int ((-3))] _ _ _ _ _
    refine r_pop (pc := 40) dX12_way_40 rfl ?_
    refine r_lconst (pc := 41) (v := 0) dX12_way_41 (by decide) ?_
    exact r_lret (pc := 42) dX12_way_42 rfl (⟨rfl, rfl, h_9, fun q e9 h9 n9_0 => (ho_10 q e9 (ho_5 q e9 h9 n9_0) n9_0)⟩)
  · refine r_iload_n (pc := 15) dX12_way_15 (i := 3) rfl rfl ?_
    refine r_iconst (pc := 16) (v := 3) dX12_way_16 (by decide) ?_
    refine r_icmp_gt (pc := 17) (tgt := 34) dX12_way_17 (by decide) (fun c17 => ?_) (fun c17 => ?_)
    · refine r_aload_n (pc := 34) dX12_way_34 (i := 0) rfl rfl ?_
      refine r_bipush (pc := 35) (v := (-3)) dX12_way_35 (by decide) ?_
      refine r_callV (pc := 37) (as := [.int ((-3))]) (st := []) kX12_153 rfl dX12_way_37 h_4 (c_X12_refuse (d := d - 1) (y := y) (rf := 0) (cnt := (nI c)) (mm_sorts := mm_sorts) (mm_sizes := mm_sizes) (mm_directs := mm_directs) (mm_many := mm_many) (mm_from := mm_from) (mm_to := mm_to) (mm_weight := mm_weight) (mm_cost := mm_cost) (mm_numbers := mm_numbers) (mm_state := mm_state) (mm_worth := mm_worth) (mm_long1 := mm_long1) (mm_howMany := mm_howMany) (mm_rows := mm_rows) (mm_inPart := mm_inPart) (mm_partCount := mm_partCount) (mm_nf := mm_nf) (mm_nt := mm_nt) (mm_nw := mm_nw) (mm_nc := mm_nc) (nm := nm) (mm_column := mm_column) (mm_next := mm_next) (mm_inside := mm_inside) (mm_beside := mm_beside) (mm_solid := mm_solid) (mm_below := mm_below) (mm_best := mm_best) (mm_ways1 := mm_ways1) (mm_round := mm_round) (mm_round2 := mm_round2) (mm_label := mm_label) (mm_bridge := mm_bridge) (mm_outs := mm_outs) (mm_ins := mm_ins) (mm_least := mm_least) (mm_spans := mm_spans) (mm_joinedWith := mm_joinedWith) (mm_gone := mm_gone) (mm_dear := mm_dear) (mm_by := mm_by) (mm_ahead := mm_ahead) (mm_image := mm_image) (p1 := (-3)) (by omega) h_4 ) rfl (by omega) (Nat.le_of_ble_eq_true rfl) (by omega) (by omega) rfl (fun r9 hp_11 nn_12 hq_13 => ?_)
      obtain ⟨rfl, hq_13n, h_14, ho_15⟩ := hq_13
      subst nn_12
      change Rn _ _ _ 40 _ [.int ((-3))] _ _ _ _ _
      refine r_pop (pc := 40) dX12_way_40 rfl ?_
      refine r_lconst (pc := 41) (v := 0) dX12_way_41 (by decide) ?_
      exact r_lret (pc := 42) dX12_way_42 rfl (⟨rfl, rfl, h_14, fun q e9 h9 n9_0 => (ho_15 q e9 (ho_5 q e9 h9 n9_0) n9_0)⟩)
    · refine r_iload_n (pc := 20) dX12_way_20 (i := 2) rfl rfl ?_
      refine r_if_lt (pc := 21) (tgt := 34) dX12_way_21 (by decide) (fun c21 => ?_) (fun c21 => ?_)
      · refine r_aload_n (pc := 34) dX12_way_34 (i := 0) rfl rfl ?_
        refine r_bipush (pc := 35) (v := (-3)) dX12_way_35 (by decide) ?_
        refine r_callV (pc := 37) (as := [.int ((-3))]) (st := []) kX12_153 rfl dX12_way_37 h_4 (c_X12_refuse (d := d - 1) (y := y) (rf := 0) (cnt := (nI c)) (mm_sorts := mm_sorts) (mm_sizes := mm_sizes) (mm_directs := mm_directs) (mm_many := mm_many) (mm_from := mm_from) (mm_to := mm_to) (mm_weight := mm_weight) (mm_cost := mm_cost) (mm_numbers := mm_numbers) (mm_state := mm_state) (mm_worth := mm_worth) (mm_long1 := mm_long1) (mm_howMany := mm_howMany) (mm_rows := mm_rows) (mm_inPart := mm_inPart) (mm_partCount := mm_partCount) (mm_nf := mm_nf) (mm_nt := mm_nt) (mm_nw := mm_nw) (mm_nc := mm_nc) (nm := nm) (mm_column := mm_column) (mm_next := mm_next) (mm_inside := mm_inside) (mm_beside := mm_beside) (mm_solid := mm_solid) (mm_below := mm_below) (mm_best := mm_best) (mm_ways1 := mm_ways1) (mm_round := mm_round) (mm_round2 := mm_round2) (mm_label := mm_label) (mm_bridge := mm_bridge) (mm_outs := mm_outs) (mm_ins := mm_ins) (mm_least := mm_least) (mm_spans := mm_spans) (mm_joinedWith := mm_joinedWith) (mm_gone := mm_gone) (mm_dear := mm_dear) (mm_by := mm_by) (mm_ahead := mm_ahead) (mm_image := mm_image) (p1 := (-3)) (by omega) h_4 ) rfl (by omega) (Nat.le_of_ble_eq_true rfl) (by omega) (by omega) rfl (fun r9 hp_16 nn_17 hq_18 => ?_)
        obtain ⟨rfl, hq_18n, h_19, ho_20⟩ := hq_18
        subst nn_17
        change Rn _ _ _ 40 _ [.int ((-3))] _ _ _ _ _
        refine r_pop (pc := 40) dX12_way_40 rfl ?_
        refine r_lconst (pc := 41) (v := 0) dX12_way_41 (by decide) ?_
        exact r_lret (pc := 42) dX12_way_42 rfl (⟨rfl, rfl, h_19, fun q e9 h9 n9_0 => (ho_20 q e9 (ho_5 q e9 h9 n9_0) n9_0)⟩)
      · refine r_iload_n (pc := 24) dX12_way_24 (i := 2) rfl rfl ?_
        refine r_aload_n (pc := 25) dX12_way_25 (i := 0) rfl rfl ?_
        refine r_get (pc := 26) (v := .ref mm_sizes) fX12_13 dX12_way_26 h_4 rfl ?_
        refine r_iload_n (pc := 29) dX12_way_29 (i := 1) rfl rfl ?_
        have h_21 : hp_1 mm_sizes = some (.inl (cI, 121, .inl (f1))) := (ho_5 mm_sizes _ gc2 (ne_c gc2 gc0 (by intro h9; cases h9)))
        refine w_iald (pc := 30) (t0 := 0) (v := (nI N)) dX12_way_30 rfl h_21 (vp_in_nI (by omega) (by omega)) (by rw [nI_clamp (by omega)]; exact e1) ?_
        refine r_icmp_lt (pc := 31) (tgt := 43) dX12_way_31 (by decide) (fun c31 => ?_) (fun c31 => ?_)
        · exact absurd ⟨c12, c17, c21, c31⟩ hv
        · refine r_aload_n (pc := 34) dX12_way_34 (i := 0) rfl rfl ?_
          refine r_bipush (pc := 35) (v := (-3)) dX12_way_35 (by decide) ?_
          refine r_callV (pc := 37) (as := [.int ((-3))]) (st := []) kX12_153 rfl dX12_way_37 h_4 (c_X12_refuse (d := d - 1) (y := y) (rf := 0) (cnt := (nI c)) (mm_sorts := mm_sorts) (mm_sizes := mm_sizes) (mm_directs := mm_directs) (mm_many := mm_many) (mm_from := mm_from) (mm_to := mm_to) (mm_weight := mm_weight) (mm_cost := mm_cost) (mm_numbers := mm_numbers) (mm_state := mm_state) (mm_worth := mm_worth) (mm_long1 := mm_long1) (mm_howMany := mm_howMany) (mm_rows := mm_rows) (mm_inPart := mm_inPart) (mm_partCount := mm_partCount) (mm_nf := mm_nf) (mm_nt := mm_nt) (mm_nw := mm_nw) (mm_nc := mm_nc) (nm := nm) (mm_column := mm_column) (mm_next := mm_next) (mm_inside := mm_inside) (mm_beside := mm_beside) (mm_solid := mm_solid) (mm_below := mm_below) (mm_best := mm_best) (mm_ways1 := mm_ways1) (mm_round := mm_round) (mm_round2 := mm_round2) (mm_label := mm_label) (mm_bridge := mm_bridge) (mm_outs := mm_outs) (mm_ins := mm_ins) (mm_least := mm_least) (mm_spans := mm_spans) (mm_joinedWith := mm_joinedWith) (mm_gone := mm_gone) (mm_dear := mm_dear) (mm_by := mm_by) (mm_ahead := mm_ahead) (mm_image := mm_image) (p1 := (-3)) (by omega) h_4 ) rfl (by omega) (Nat.le_of_ble_eq_true rfl) (by omega) (by omega) rfl (fun r9 hp_22 nn_23 hq_24 => ?_)
          obtain ⟨rfl, hq_24n, h_25, ho_26⟩ := hq_24
          subst nn_23
          change Rn _ _ _ 40 _ [.int ((-3))] _ _ _ _ _
          refine r_pop (pc := 40) dX12_way_40 rfl ?_
          refine r_lconst (pc := 41) (v := 0) dX12_way_41 (by decide) ?_
          exact r_lret (pc := 42) dX12_way_42 rfl (⟨rfl, rfl, h_25, fun q e9 h9 n9_0 => (ho_26 q e9 (ho_5 q e9 h9 n9_0) n9_0)⟩)
set_option maxHeartbeats 4000000 in
set_option maxRecDepth 100000 in
theorem c_X12_step {D : va_G} {cI cJ cZ cT : ClassId} {lo b L : Nat} {xs : Nat → Int32} {hp : MH} {n d : Nat} {y mm_sorts mm_sizes mm_directs mm_many mm_from mm_to mm_weight mm_cost mm_numbers mm_state mm_worth mm_long1 mm_howMany mm_rows mm_inPart mm_partCount mm_nf mm_nt mm_nw mm_nc mm_column mm_next mm_inside mm_beside mm_solid mm_below mm_best mm_ways1 mm_round mm_round2 mm_label mm_bridge mm_outs mm_ins mm_least mm_spans mm_joinedWith mm_gone mm_dear mm_by mm_ahead mm_image : Nat} {rf nm : Int32} {c h N : Nat} {f0 f1 : Nat → Int32} {v : Nat} {l1 : Nat → Int32} {j : Nat} {rw_ : Nat → Int32} (hd0 : 2 ≤ d) (gc0 : hp y = some (.inr (11, [.int rf, .int ((nI c)), .ref mm_sorts, .ref mm_sizes, .ref mm_directs, .ref mm_many, .ref mm_from, .ref mm_to, .ref mm_weight, .ref mm_cost, .ref mm_numbers, .ref mm_state, .ref mm_worth, .ref mm_long1, .ref mm_howMany, .ref mm_rows, .ref mm_inPart, .ref mm_partCount, .ref mm_nf, .ref mm_nt, .ref mm_nw, .ref mm_nc, .int nm, .ref mm_column, .ref mm_next, .ref mm_inside, .ref mm_beside, .ref mm_solid, .ref mm_below, .ref mm_best, .ref mm_ways1, .ref mm_round, .ref mm_round2, .ref mm_label, .ref mm_bridge, .ref mm_outs, .ref mm_ins, .ref mm_least, .ref mm_spans, .ref mm_joinedWith, .ref mm_gone, .ref mm_dear, .ref mm_by, .ref mm_ahead, .ref mm_image]))) (gc1 : hp mm_sorts = some (.inl (cI, 121, .inl (f0)))) (gc2 : hp mm_sizes = some (.inl (cI, 121, .inl (f1)))) (gc3 : hp mm_long1 = some (.inl (cI, 1936, .inl (l1)))) (gc4 : hp mm_rows = some (.inl (cI, 30976, .inl (rw_)))) (hh : h < c) (hc : c ≤ 120) (hs : f0 h = 3) (e1 : f1 h = nI N) (hN : N ≤ 16) (hv : v < N) (hj : nI j < l1 (16 * h + v)) (hj2 : j < 16) : Mt (gG D cI cJ cZ cT lo b L xs) mX12_step d 0 0 [.ref y, .int ((nI h)), .int ((nI v)), .int ((nI j))] hp n (fun r hp1 n1 => r = some (.int ((rw_ (256 * h + 16 * v + j)))) ∧ n1 = n ∧ hp1 y = some (.inr (11, [.int 0, .int ((nI c)), .ref mm_sorts, .ref mm_sizes, .ref mm_directs, .ref mm_many, .ref mm_from, .ref mm_to, .ref mm_weight, .ref mm_cost, .ref mm_numbers, .ref mm_state, .ref mm_worth, .ref mm_long1, .ref mm_howMany, .ref mm_rows, .ref mm_inPart, .ref mm_partCount, .ref mm_nf, .ref mm_nt, .ref mm_nw, .ref mm_nc, .int nm, .ref mm_column, .ref mm_next, .ref mm_inside, .ref mm_beside, .ref mm_solid, .ref mm_below, .ref mm_best, .ref mm_ways1, .ref mm_round, .ref mm_round2, .ref mm_label, .ref mm_bridge, .ref mm_outs, .ref mm_ins, .ref mm_least, .ref mm_spans, .ref mm_joinedWith, .ref mm_gone, .ref mm_dear, .ref mm_by, .ref mm_ahead, .ref mm_image])) ∧ ∀ (q : Nat) (e9 : va_E), hp q = some e9 → q ≠ y → hp1 q = some e9) := by
  refine Mt.of rfl (Nat.le_of_ble_eq_true rfl) ?_
  refine Rn.pick (lv' := [(0, .ref y), (1, .int ((nI h))), (2, .int ((nI v))), (3, .int ((nI j)))]) [0, 1, 2, 3] rfl ?_
  refine r_aload_n (pc := 0) dX12_step_0 (i := 0) rfl rfl ?_
  refine r_iload_n (pc := 1) dX12_step_1 (i := 1) rfl rfl ?_
  refine r_iconst (pc := 2) (v := 3) dX12_step_2 (by decide) ?_
  refine r_callV (pc := 3) (as := [.int ((nI h)), .int 3]) (st := []) kX12_183 rfl dX12_step_3 gc0 (c_X12_has_y (d := d - 1) (y := y) (rf := rf) (mm_sorts := mm_sorts) (mm_sizes := mm_sizes) (mm_directs := mm_directs) (mm_many := mm_many) (mm_from := mm_from) (mm_to := mm_to) (mm_weight := mm_weight) (mm_cost := mm_cost) (mm_numbers := mm_numbers) (mm_state := mm_state) (mm_worth := mm_worth) (mm_long1 := mm_long1) (mm_howMany := mm_howMany) (mm_rows := mm_rows) (mm_inPart := mm_inPart) (mm_partCount := mm_partCount) (mm_nf := mm_nf) (mm_nt := mm_nt) (mm_nw := mm_nw) (mm_nc := mm_nc) (nm := nm) (mm_column := mm_column) (mm_next := mm_next) (mm_inside := mm_inside) (mm_beside := mm_beside) (mm_solid := mm_solid) (mm_below := mm_below) (mm_best := mm_best) (mm_ways1 := mm_ways1) (mm_round := mm_round) (mm_round2 := mm_round2) (mm_label := mm_label) (mm_bridge := mm_bridge) (mm_outs := mm_outs) (mm_ins := mm_ins) (mm_least := mm_least) (mm_spans := mm_spans) (mm_joinedWith := mm_joinedWith) (mm_gone := mm_gone) (mm_dear := mm_dear) (mm_by := mm_by) (mm_ahead := mm_ahead) (mm_image := mm_image) (c := c) (h := h) (p2 := 3) (f0 := f0) (by omega) gc0 gc1 (hh) (hc) (hs)) rfl (by omega) (Nat.le_of_ble_eq_true rfl) (by omega) (by omega) rfl (fun r9 hp_1 nn_2 hq_3 => ?_)
  obtain ⟨rfl, hq_3n, h_4, ho_5⟩ := hq_3
  subst nn_2
  change Rn _ _ _ 6 _ [.int 1] _ _ _ _ _
  refine r_if_eq (pc := 6) (tgt := 18) dX12_step_6 (by decide) (fun c9 => absurd c9 (by decide)) (fun _ => ?_)
  refine r_aload_n (pc := 9) dX12_step_9 (i := 0) rfl rfl ?_
  refine r_iload_n (pc := 10) dX12_step_10 (i := 1) rfl rfl ?_
  refine r_iload_n (pc := 11) dX12_step_11 (i := 2) rfl rfl ?_
  have h_9 : hp_1 mm_sizes = some (.inl (cI, 121, .inl (f1))) := (ho_5 mm_sizes _ gc2 (ne_c gc2 gc0 (by intro h9; cases h9)))
  refine r_callV (pc := 12) (as := [.int ((nI h)), .int ((nI v))]) (st := []) kX12_307 rfl dX12_step_12 h_4 (c_X12_isNode (d := d - 1) (y := y) (rf := 0) (cnt := (nI c)) (mm_sorts := mm_sorts) (mm_sizes := mm_sizes) (mm_directs := mm_directs) (mm_many := mm_many) (mm_from := mm_from) (mm_to := mm_to) (mm_weight := mm_weight) (mm_cost := mm_cost) (mm_numbers := mm_numbers) (mm_state := mm_state) (mm_worth := mm_worth) (mm_long1 := mm_long1) (mm_howMany := mm_howMany) (mm_rows := mm_rows) (mm_inPart := mm_inPart) (mm_partCount := mm_partCount) (mm_nf := mm_nf) (mm_nt := mm_nt) (mm_nw := mm_nw) (mm_nc := mm_nc) (nm := nm) (mm_column := mm_column) (mm_next := mm_next) (mm_inside := mm_inside) (mm_beside := mm_beside) (mm_solid := mm_solid) (mm_below := mm_below) (mm_best := mm_best) (mm_ways1 := mm_ways1) (mm_round := mm_round) (mm_round2 := mm_round2) (mm_label := mm_label) (mm_bridge := mm_bridge) (mm_outs := mm_outs) (mm_ins := mm_ins) (mm_least := mm_least) (mm_spans := mm_spans) (mm_joinedWith := mm_joinedWith) (mm_gone := mm_gone) (mm_dear := mm_dear) (mm_by := mm_by) (mm_ahead := mm_ahead) (mm_image := mm_image) (h := h) (N := N) (v := v) (f1 := f1) (by omega) h_4 h_9 (by omega) (hN) (e1) (hv)) rfl (by omega) (Nat.le_of_ble_eq_true rfl) (by omega) (by omega) rfl (fun r9 hp_6 nn_7 hq_8 => ?_)
  obtain ⟨rfl, hq_8n, ho_10⟩ := hq_8
  subst nn_7
  change Rn _ _ _ 15 _ [.int 1] _ _ _ _ _
  refine r_if_ne (pc := 15) (tgt := 20) dX12_step_15 (by decide) (fun _ => ?_) (fun c9 => absurd (by decide) c9)
  refine r_iload_n (pc := 20) dX12_step_20 (i := 3) rfl rfl ?_
  refine r_if_lt (pc := 21) (tgt := 39) dX12_step_21 (by decide) (fun c9 => absurd c9 (nI_pos (by omega))) (fun _ => ?_)
  refine r_iload_n (pc := 24) dX12_step_24 (i := 3) rfl rfl ?_
  refine r_aload_n (pc := 25) dX12_step_25 (i := 0) rfl rfl ?_
  have h_11 : hp_6 y = some (.inr (11, [.int 0, .int ((nI c)), .ref mm_sorts, .ref mm_sizes, .ref mm_directs, .ref mm_many, .ref mm_from, .ref mm_to, .ref mm_weight, .ref mm_cost, .ref mm_numbers, .ref mm_state, .ref mm_worth, .ref mm_long1, .ref mm_howMany, .ref mm_rows, .ref mm_inPart, .ref mm_partCount, .ref mm_nf, .ref mm_nt, .ref mm_nw, .ref mm_nc, .int nm, .ref mm_column, .ref mm_next, .ref mm_inside, .ref mm_beside, .ref mm_solid, .ref mm_below, .ref mm_best, .ref mm_ways1, .ref mm_round, .ref mm_round2, .ref mm_label, .ref mm_bridge, .ref mm_outs, .ref mm_ins, .ref mm_least, .ref mm_spans, .ref mm_joinedWith, .ref mm_gone, .ref mm_dear, .ref mm_by, .ref mm_ahead, .ref mm_image])) := (ho_10 y _ h_4)
  refine r_get (pc := 26) (v := .ref mm_long1) fX12_45 dX12_step_26 h_11 rfl ?_
  refine r_bipush (pc := 29) (v := (nI 16)) dX12_step_29 (by decide) ?_
  refine r_iload_n (pc := 31) dX12_step_31 (i := 1) rfl rfl ?_
  refine r_imul (pc := 32) (v := (nI (16 * h))) dX12_step_32 (pk_mul 16 h) ?_
  refine r_iload_n (pc := 33) dX12_step_33 (i := 2) rfl rfl ?_
  refine r_iadd (pc := 34) (v := (nI (16 * h + v))) dX12_step_34 (nI_add _ _) ?_
  have h_12 : hp_6 mm_long1 = some (.inl (cI, 1936, .inl (l1))) := (ho_10 mm_long1 _ (ho_5 mm_long1 _ gc3 (ne_c gc3 gc0 (by intro h9; cases h9))))
  refine w_iald (pc := 35) (t0 := 0) (v := (l1 (16 * h + v))) dX12_step_35 rfl h_12 (vp_in_nI (by omega) (by omega)) (congrArg l1 (nI_clamp (by omega))) ?_
  refine r_icmp_lt (pc := 36) (tgt := 43) dX12_step_36 (by decide) (fun _ => ?_) (fun c9 => absurd (hj) c9)
  refine r_aload_n (pc := 43) dX12_step_43 (i := 0) rfl rfl ?_
  refine r_get (pc := 44) (v := .ref mm_rows) fX12_51 dX12_step_44 h_11 rfl ?_
  refine r_sipush (pc := 47) (v := (nI 256)) dX12_step_47 (by decide) ?_
  refine r_iload_n (pc := 50) dX12_step_50 (i := 1) rfl rfl ?_
  refine r_imul (pc := 51) (v := (nI (256 * h))) dX12_step_51 (pk_mul 256 h) ?_
  refine r_bipush (pc := 52) (v := (nI 16)) dX12_step_52 (by decide) ?_
  refine r_iload_n (pc := 54) dX12_step_54 (i := 2) rfl rfl ?_
  refine r_imul (pc := 55) (v := (nI (16 * v))) dX12_step_55 (pk_mul 16 v) ?_
  refine r_iadd (pc := 56) (v := (nI (256 * h + 16 * v))) dX12_step_56 (nI_add _ _) ?_
  refine r_iload_n (pc := 57) dX12_step_57 (i := 3) rfl rfl ?_
  refine r_iadd (pc := 58) (v := (nI (256 * h + 16 * v + j))) dX12_step_58 (nI_add _ _) ?_
  have h_13 : hp_6 mm_rows = some (.inl (cI, 30976, .inl (rw_))) := (ho_10 mm_rows _ (ho_5 mm_rows _ gc4 (ne_c gc4 gc0 (by intro h9; cases h9))))
  refine w_iald (pc := 59) (t0 := 0) (v := (rw_ (256 * h + 16 * v + j))) dX12_step_59 rfl h_13 (vp_in_nI (by omega) (by omega)) (congrArg rw_ (nI_clamp (by omega))) ?_
  exact r_iret (pc := 60) dX12_step_60 rfl (⟨rfl, rfl, h_11, fun q e9 h9 n9_0 => (ho_10 q e9 (ho_5 q e9 h9 n9_0) )⟩)
set_option maxHeartbeats 4000000 in
set_option maxRecDepth 100000 in
theorem c_X12_step_none {D : va_G} {cI cJ cZ cT : ClassId} {lo b L : Nat} {xs : Nat → Int32} {hp : MH} {n d : Nat} {y mm_sorts mm_sizes mm_directs mm_many mm_from mm_to mm_weight mm_cost mm_numbers mm_state mm_worth mm_long1 mm_howMany mm_rows mm_inPart mm_partCount mm_nf mm_nt mm_nw mm_nc mm_column mm_next mm_inside mm_beside mm_solid mm_below mm_best mm_ways1 mm_round mm_round2 mm_label mm_bridge mm_outs mm_ins mm_least mm_spans mm_joinedWith mm_gone mm_dear mm_by mm_ahead mm_image : Nat} {rf nm : Int32} {c h N : Nat} {f0 f1 : Nat → Int32} {v : Nat} {l1 : Nat → Int32} {p3 : Int32} (hd0 : 2 ≤ d) (gc0 : hp y = some (.inr (11, [.int rf, .int ((nI c)), .ref mm_sorts, .ref mm_sizes, .ref mm_directs, .ref mm_many, .ref mm_from, .ref mm_to, .ref mm_weight, .ref mm_cost, .ref mm_numbers, .ref mm_state, .ref mm_worth, .ref mm_long1, .ref mm_howMany, .ref mm_rows, .ref mm_inPart, .ref mm_partCount, .ref mm_nf, .ref mm_nt, .ref mm_nw, .ref mm_nc, .int nm, .ref mm_column, .ref mm_next, .ref mm_inside, .ref mm_beside, .ref mm_solid, .ref mm_below, .ref mm_best, .ref mm_ways1, .ref mm_round, .ref mm_round2, .ref mm_label, .ref mm_bridge, .ref mm_outs, .ref mm_ins, .ref mm_least, .ref mm_spans, .ref mm_joinedWith, .ref mm_gone, .ref mm_dear, .ref mm_by, .ref mm_ahead, .ref mm_image]))) (gc1 : hp mm_sorts = some (.inl (cI, 121, .inl (f0)))) (gc2 : hp mm_sizes = some (.inl (cI, 121, .inl (f1)))) (gc3 : hp mm_long1 = some (.inl (cI, 1936, .inl (l1)))) (hh : h < c) (hc : c ≤ 120) (hs : f0 h = 3) (e1 : f1 h = nI N) (hN : N ≤ 16) (hv : v < N) (hj : p3 < 0 ∨ l1 (16 * h + v) ≤ p3) : Mt (gG D cI cJ cZ cT lo b L xs) mX12_step d 0 0 [.ref y, .int ((nI h)), .int ((nI v)), .int p3] hp n (fun r hp1 n1 => r = some (.int ((-1))) ∧ n1 = n ∧ hp1 y = some (.inr (11, [.int 0, .int ((nI c)), .ref mm_sorts, .ref mm_sizes, .ref mm_directs, .ref mm_many, .ref mm_from, .ref mm_to, .ref mm_weight, .ref mm_cost, .ref mm_numbers, .ref mm_state, .ref mm_worth, .ref mm_long1, .ref mm_howMany, .ref mm_rows, .ref mm_inPart, .ref mm_partCount, .ref mm_nf, .ref mm_nt, .ref mm_nw, .ref mm_nc, .int nm, .ref mm_column, .ref mm_next, .ref mm_inside, .ref mm_beside, .ref mm_solid, .ref mm_below, .ref mm_best, .ref mm_ways1, .ref mm_round, .ref mm_round2, .ref mm_label, .ref mm_bridge, .ref mm_outs, .ref mm_ins, .ref mm_least, .ref mm_spans, .ref mm_joinedWith, .ref mm_gone, .ref mm_dear, .ref mm_by, .ref mm_ahead, .ref mm_image])) ∧ ∀ (q : Nat) (e9 : va_E), hp q = some e9 → q ≠ y → hp1 q = some e9) := by
  refine Mt.of rfl (Nat.le_of_ble_eq_true rfl) ?_
  refine Rn.pick (lv' := [(0, .ref y), (1, .int ((nI h))), (2, .int ((nI v))), (3, .int p3)]) [0, 1, 2, 3] rfl ?_
  refine r_aload_n (pc := 0) dX12_step_0 (i := 0) rfl rfl ?_
  refine r_iload_n (pc := 1) dX12_step_1 (i := 1) rfl rfl ?_
  refine r_iconst (pc := 2) (v := 3) dX12_step_2 (by decide) ?_
  refine r_callV (pc := 3) (as := [.int ((nI h)), .int 3]) (st := []) kX12_183 rfl dX12_step_3 gc0 (c_X12_has_y (d := d - 1) (y := y) (rf := rf) (mm_sorts := mm_sorts) (mm_sizes := mm_sizes) (mm_directs := mm_directs) (mm_many := mm_many) (mm_from := mm_from) (mm_to := mm_to) (mm_weight := mm_weight) (mm_cost := mm_cost) (mm_numbers := mm_numbers) (mm_state := mm_state) (mm_worth := mm_worth) (mm_long1 := mm_long1) (mm_howMany := mm_howMany) (mm_rows := mm_rows) (mm_inPart := mm_inPart) (mm_partCount := mm_partCount) (mm_nf := mm_nf) (mm_nt := mm_nt) (mm_nw := mm_nw) (mm_nc := mm_nc) (nm := nm) (mm_column := mm_column) (mm_next := mm_next) (mm_inside := mm_inside) (mm_beside := mm_beside) (mm_solid := mm_solid) (mm_below := mm_below) (mm_best := mm_best) (mm_ways1 := mm_ways1) (mm_round := mm_round) (mm_round2 := mm_round2) (mm_label := mm_label) (mm_bridge := mm_bridge) (mm_outs := mm_outs) (mm_ins := mm_ins) (mm_least := mm_least) (mm_spans := mm_spans) (mm_joinedWith := mm_joinedWith) (mm_gone := mm_gone) (mm_dear := mm_dear) (mm_by := mm_by) (mm_ahead := mm_ahead) (mm_image := mm_image) (c := c) (h := h) (p2 := 3) (f0 := f0) (by omega) gc0 gc1 (hh) (hc) (hs)) rfl (by omega) (Nat.le_of_ble_eq_true rfl) (by omega) (by omega) rfl (fun r9 hp_1 nn_2 hq_3 => ?_)
  obtain ⟨rfl, hq_3n, h_4, ho_5⟩ := hq_3
  subst nn_2
  change Rn _ _ _ 6 _ [.int 1] _ _ _ _ _
  refine r_if_eq (pc := 6) (tgt := 18) dX12_step_6 (by decide) (fun c9 => absurd c9 (by decide)) (fun _ => ?_)
  refine r_aload_n (pc := 9) dX12_step_9 (i := 0) rfl rfl ?_
  refine r_iload_n (pc := 10) dX12_step_10 (i := 1) rfl rfl ?_
  refine r_iload_n (pc := 11) dX12_step_11 (i := 2) rfl rfl ?_
  have h_9 : hp_1 mm_sizes = some (.inl (cI, 121, .inl (f1))) := (ho_5 mm_sizes _ gc2 (ne_c gc2 gc0 (by intro h9; cases h9)))
  refine r_callV (pc := 12) (as := [.int ((nI h)), .int ((nI v))]) (st := []) kX12_307 rfl dX12_step_12 h_4 (c_X12_isNode (d := d - 1) (y := y) (rf := 0) (cnt := (nI c)) (mm_sorts := mm_sorts) (mm_sizes := mm_sizes) (mm_directs := mm_directs) (mm_many := mm_many) (mm_from := mm_from) (mm_to := mm_to) (mm_weight := mm_weight) (mm_cost := mm_cost) (mm_numbers := mm_numbers) (mm_state := mm_state) (mm_worth := mm_worth) (mm_long1 := mm_long1) (mm_howMany := mm_howMany) (mm_rows := mm_rows) (mm_inPart := mm_inPart) (mm_partCount := mm_partCount) (mm_nf := mm_nf) (mm_nt := mm_nt) (mm_nw := mm_nw) (mm_nc := mm_nc) (nm := nm) (mm_column := mm_column) (mm_next := mm_next) (mm_inside := mm_inside) (mm_beside := mm_beside) (mm_solid := mm_solid) (mm_below := mm_below) (mm_best := mm_best) (mm_ways1 := mm_ways1) (mm_round := mm_round) (mm_round2 := mm_round2) (mm_label := mm_label) (mm_bridge := mm_bridge) (mm_outs := mm_outs) (mm_ins := mm_ins) (mm_least := mm_least) (mm_spans := mm_spans) (mm_joinedWith := mm_joinedWith) (mm_gone := mm_gone) (mm_dear := mm_dear) (mm_by := mm_by) (mm_ahead := mm_ahead) (mm_image := mm_image) (h := h) (N := N) (v := v) (f1 := f1) (by omega) h_4 h_9 (by omega) (hN) (e1) (hv)) rfl (by omega) (Nat.le_of_ble_eq_true rfl) (by omega) (by omega) rfl (fun r9 hp_6 nn_7 hq_8 => ?_)
  obtain ⟨rfl, hq_8n, ho_10⟩ := hq_8
  subst nn_7
  change Rn _ _ _ 15 _ [.int 1] _ _ _ _ _
  refine r_if_ne (pc := 15) (tgt := 20) dX12_step_15 (by decide) (fun _ => ?_) (fun c9 => absurd (by decide) c9)
  refine r_iload_n (pc := 20) dX12_step_20 (i := 3) rfl rfl ?_
  refine r_if_lt (pc := 21) (tgt := 39) dX12_step_21 (by decide) (fun c21 => ?_) (fun c21 => ?_)
  · refine r_iconst (pc := 39) (v := (-1)) dX12_step_39 (by decide) ?_
    refine r_goto (pc := 40) (tgt := 60) dX12_step_40 (by decide) ?_
    have h_11 : hp_6 y = some (.inr (11, [.int 0, .int ((nI c)), .ref mm_sorts, .ref mm_sizes, .ref mm_directs, .ref mm_many, .ref mm_from, .ref mm_to, .ref mm_weight, .ref mm_cost, .ref mm_numbers, .ref mm_state, .ref mm_worth, .ref mm_long1, .ref mm_howMany, .ref mm_rows, .ref mm_inPart, .ref mm_partCount, .ref mm_nf, .ref mm_nt, .ref mm_nw, .ref mm_nc, .int nm, .ref mm_column, .ref mm_next, .ref mm_inside, .ref mm_beside, .ref mm_solid, .ref mm_below, .ref mm_best, .ref mm_ways1, .ref mm_round, .ref mm_round2, .ref mm_label, .ref mm_bridge, .ref mm_outs, .ref mm_ins, .ref mm_least, .ref mm_spans, .ref mm_joinedWith, .ref mm_gone, .ref mm_dear, .ref mm_by, .ref mm_ahead, .ref mm_image])) := (ho_10 y _ h_4)
    exact r_iret (pc := 60) dX12_step_60 rfl (⟨rfl, rfl, h_11, fun q e9 h9 n9_0 => (ho_10 q e9 (ho_5 q e9 h9 n9_0) )⟩)
  · refine r_iload_n (pc := 24) dX12_step_24 (i := 3) rfl rfl ?_
    refine r_aload_n (pc := 25) dX12_step_25 (i := 0) rfl rfl ?_
    have h_12 : hp_6 y = some (.inr (11, [.int 0, .int ((nI c)), .ref mm_sorts, .ref mm_sizes, .ref mm_directs, .ref mm_many, .ref mm_from, .ref mm_to, .ref mm_weight, .ref mm_cost, .ref mm_numbers, .ref mm_state, .ref mm_worth, .ref mm_long1, .ref mm_howMany, .ref mm_rows, .ref mm_inPart, .ref mm_partCount, .ref mm_nf, .ref mm_nt, .ref mm_nw, .ref mm_nc, .int nm, .ref mm_column, .ref mm_next, .ref mm_inside, .ref mm_beside, .ref mm_solid, .ref mm_below, .ref mm_best, .ref mm_ways1, .ref mm_round, .ref mm_round2, .ref mm_label, .ref mm_bridge, .ref mm_outs, .ref mm_ins, .ref mm_least, .ref mm_spans, .ref mm_joinedWith, .ref mm_gone, .ref mm_dear, .ref mm_by, .ref mm_ahead, .ref mm_image])) := (ho_10 y _ h_4)
    refine r_get (pc := 26) (v := .ref mm_long1) fX12_45 dX12_step_26 h_12 rfl ?_
    refine r_bipush (pc := 29) (v := (nI 16)) dX12_step_29 (by decide) ?_
    refine r_iload_n (pc := 31) dX12_step_31 (i := 1) rfl rfl ?_
    refine r_imul (pc := 32) (v := (nI (16 * h))) dX12_step_32 (pk_mul 16 h) ?_
    refine r_iload_n (pc := 33) dX12_step_33 (i := 2) rfl rfl ?_
    refine r_iadd (pc := 34) (v := (nI (16 * h + v))) dX12_step_34 (nI_add _ _) ?_
    have h_13 : hp_6 mm_long1 = some (.inl (cI, 1936, .inl (l1))) := (ho_10 mm_long1 _ (ho_5 mm_long1 _ gc3 (ne_c gc3 gc0 (by intro h9; cases h9))))
    refine w_iald (pc := 35) (t0 := 0) (v := (l1 (16 * h + v))) dX12_step_35 rfl h_13 (vp_in_nI (by omega) (by omega)) (congrArg l1 (nI_clamp (by omega))) ?_
    refine r_icmp_lt (pc := 36) (tgt := 43) dX12_step_36 (by decide) (fun c36 => ?_) (fun c36 => ?_)
    · exact absurd hj (fun h9 => h9.elim c21 (fun h8 => absurd c36 (Int32.not_lt.mpr h8)))
    · refine r_iconst (pc := 39) (v := (-1)) dX12_step_39 (by decide) ?_
      refine r_goto (pc := 40) (tgt := 60) dX12_step_40 (by decide) ?_
      exact r_iret (pc := 60) dX12_step_60 rfl (⟨rfl, rfl, h_12, fun q e9 h9 n9_0 => (ho_10 q e9 (ho_5 q e9 h9 n9_0) )⟩)
set_option maxHeartbeats 4000000 in
set_option maxRecDepth 100000 in
theorem c_X12_step_no {D : va_G} {cI cJ cZ cT : ClassId} {lo b L : Nat} {xs : Nat → Int32} {hp : MH} {n d : Nat} {y mm_sorts mm_sizes mm_directs mm_many mm_from mm_to mm_weight mm_cost mm_numbers mm_state mm_worth mm_long1 mm_howMany mm_rows mm_inPart mm_partCount mm_nf mm_nt mm_nw mm_nc mm_column mm_next mm_inside mm_beside mm_solid mm_below mm_best mm_ways1 mm_round mm_round2 mm_label mm_bridge mm_outs mm_ins mm_least mm_spans mm_joinedWith mm_gone mm_dear mm_by mm_ahead mm_image : Nat} {rf nm : Int32} {c h N : Nat} {f0 f1 : Nat → Int32} {p2 p3 : Int32} (hd0 : 2 ≤ d) (gc0 : hp y = some (.inr (11, [.int rf, .int ((nI c)), .ref mm_sorts, .ref mm_sizes, .ref mm_directs, .ref mm_many, .ref mm_from, .ref mm_to, .ref mm_weight, .ref mm_cost, .ref mm_numbers, .ref mm_state, .ref mm_worth, .ref mm_long1, .ref mm_howMany, .ref mm_rows, .ref mm_inPart, .ref mm_partCount, .ref mm_nf, .ref mm_nt, .ref mm_nw, .ref mm_nc, .int nm, .ref mm_column, .ref mm_next, .ref mm_inside, .ref mm_beside, .ref mm_solid, .ref mm_below, .ref mm_best, .ref mm_ways1, .ref mm_round, .ref mm_round2, .ref mm_label, .ref mm_bridge, .ref mm_outs, .ref mm_ins, .ref mm_least, .ref mm_spans, .ref mm_joinedWith, .ref mm_gone, .ref mm_dear, .ref mm_by, .ref mm_ahead, .ref mm_image]))) (gc1 : hp mm_sorts = some (.inl (cI, 121, .inl (f0)))) (gc2 : hp mm_sizes = some (.inl (cI, 121, .inl (f1)))) (hh : h < c) (hc : c ≤ 120) (hs : f0 h = 3) (e1 : f1 h = nI N) (hN : N ≤ 16) (hv : p2 < 0 ∨ nI N ≤ p2) : Mt (gG D cI cJ cZ cT lo b L xs) mX12_step d 0 0 [.ref y, .int ((nI h)), .int p2, .int p3] hp n (fun r hp1 n1 => r = some (.int 0) ∧ n1 = n ∧ hp1 y = some (.inr (11, [.int ((-3)), .int ((nI c)), .ref mm_sorts, .ref mm_sizes, .ref mm_directs, .ref mm_many, .ref mm_from, .ref mm_to, .ref mm_weight, .ref mm_cost, .ref mm_numbers, .ref mm_state, .ref mm_worth, .ref mm_long1, .ref mm_howMany, .ref mm_rows, .ref mm_inPart, .ref mm_partCount, .ref mm_nf, .ref mm_nt, .ref mm_nw, .ref mm_nc, .int nm, .ref mm_column, .ref mm_next, .ref mm_inside, .ref mm_beside, .ref mm_solid, .ref mm_below, .ref mm_best, .ref mm_ways1, .ref mm_round, .ref mm_round2, .ref mm_label, .ref mm_bridge, .ref mm_outs, .ref mm_ins, .ref mm_least, .ref mm_spans, .ref mm_joinedWith, .ref mm_gone, .ref mm_dear, .ref mm_by, .ref mm_ahead, .ref mm_image])) ∧ ∀ (q : Nat) (e9 : va_E), hp q = some e9 → q ≠ y → hp1 q = some e9) := by
  refine Mt.of rfl (Nat.le_of_ble_eq_true rfl) ?_
  refine Rn.pick (lv' := [(0, .ref y), (1, .int ((nI h))), (2, .int p2), (3, .int p3)]) [0, 1, 2, 3] rfl ?_
  refine r_aload_n (pc := 0) dX12_step_0 (i := 0) rfl rfl ?_
  refine r_iload_n (pc := 1) dX12_step_1 (i := 1) rfl rfl ?_
  refine r_iconst (pc := 2) (v := 3) dX12_step_2 (by decide) ?_
  refine r_callV (pc := 3) (as := [.int ((nI h)), .int 3]) (st := []) kX12_183 rfl dX12_step_3 gc0 (c_X12_has_y (d := d - 1) (y := y) (rf := rf) (mm_sorts := mm_sorts) (mm_sizes := mm_sizes) (mm_directs := mm_directs) (mm_many := mm_many) (mm_from := mm_from) (mm_to := mm_to) (mm_weight := mm_weight) (mm_cost := mm_cost) (mm_numbers := mm_numbers) (mm_state := mm_state) (mm_worth := mm_worth) (mm_long1 := mm_long1) (mm_howMany := mm_howMany) (mm_rows := mm_rows) (mm_inPart := mm_inPart) (mm_partCount := mm_partCount) (mm_nf := mm_nf) (mm_nt := mm_nt) (mm_nw := mm_nw) (mm_nc := mm_nc) (nm := nm) (mm_column := mm_column) (mm_next := mm_next) (mm_inside := mm_inside) (mm_beside := mm_beside) (mm_solid := mm_solid) (mm_below := mm_below) (mm_best := mm_best) (mm_ways1 := mm_ways1) (mm_round := mm_round) (mm_round2 := mm_round2) (mm_label := mm_label) (mm_bridge := mm_bridge) (mm_outs := mm_outs) (mm_ins := mm_ins) (mm_least := mm_least) (mm_spans := mm_spans) (mm_joinedWith := mm_joinedWith) (mm_gone := mm_gone) (mm_dear := mm_dear) (mm_by := mm_by) (mm_ahead := mm_ahead) (mm_image := mm_image) (c := c) (h := h) (p2 := 3) (f0 := f0) (by omega) gc0 gc1 (hh) (hc) (hs)) rfl (by omega) (Nat.le_of_ble_eq_true rfl) (by omega) (by omega) rfl (fun r9 hp_1 nn_2 hq_3 => ?_)
  obtain ⟨rfl, hq_3n, h_4, ho_5⟩ := hq_3
  subst nn_2
  change Rn _ _ _ 6 _ [.int 1] _ _ _ _ _
  refine r_if_eq (pc := 6) (tgt := 18) dX12_step_6 (by decide) (fun c9 => absurd c9 (by decide)) (fun _ => ?_)
  refine r_aload_n (pc := 9) dX12_step_9 (i := 0) rfl rfl ?_
  refine r_iload_n (pc := 10) dX12_step_10 (i := 1) rfl rfl ?_
  refine r_iload_n (pc := 11) dX12_step_11 (i := 2) rfl rfl ?_
  have h_9 : hp_1 mm_sizes = some (.inl (cI, 121, .inl (f1))) := (ho_5 mm_sizes _ gc2 (ne_c gc2 gc0 (by intro h9; cases h9)))
  refine r_callV (pc := 12) (as := [.int ((nI h)), .int p2]) (st := []) kX12_307 rfl dX12_step_12 h_4 (c_X12_isNode_no (d := d - 1) (y := y) (rf := 0) (cnt := (nI c)) (mm_sorts := mm_sorts) (mm_sizes := mm_sizes) (mm_directs := mm_directs) (mm_many := mm_many) (mm_from := mm_from) (mm_to := mm_to) (mm_weight := mm_weight) (mm_cost := mm_cost) (mm_numbers := mm_numbers) (mm_state := mm_state) (mm_worth := mm_worth) (mm_long1 := mm_long1) (mm_howMany := mm_howMany) (mm_rows := mm_rows) (mm_inPart := mm_inPart) (mm_partCount := mm_partCount) (mm_nf := mm_nf) (mm_nt := mm_nt) (mm_nw := mm_nw) (mm_nc := mm_nc) (nm := nm) (mm_column := mm_column) (mm_next := mm_next) (mm_inside := mm_inside) (mm_beside := mm_beside) (mm_solid := mm_solid) (mm_below := mm_below) (mm_best := mm_best) (mm_ways1 := mm_ways1) (mm_round := mm_round) (mm_round2 := mm_round2) (mm_label := mm_label) (mm_bridge := mm_bridge) (mm_outs := mm_outs) (mm_ins := mm_ins) (mm_least := mm_least) (mm_spans := mm_spans) (mm_joinedWith := mm_joinedWith) (mm_gone := mm_gone) (mm_dear := mm_dear) (mm_by := mm_by) (mm_ahead := mm_ahead) (mm_image := mm_image) (h := h) (N := N) (p2 := p2) (f1 := f1) (by omega) h_4 h_9 (by omega) (e1) (hv)) rfl (by omega) (Nat.le_of_ble_eq_true rfl) (by omega) (by omega) rfl (fun r9 hp_6 nn_7 hq_8 => ?_)
  obtain ⟨rfl, hq_8n, h_10, ho_11⟩ := hq_8
  subst nn_7
  change Rn _ _ _ 15 _ [.int 0] _ _ _ _ _
  refine r_if_ne (pc := 15) (tgt := 20) dX12_step_15 (by decide) (fun c9 => absurd c9 (by decide)) (fun _ => ?_)
  refine r_iconst (pc := 18) (v := 0) dX12_step_18 (by decide) ?_
  exact r_iret (pc := 19) dX12_step_19 rfl (⟨rfl, rfl, h_10, fun q e9 h9 n9_0 => (ho_11 q e9 (ho_5 q e9 h9 n9_0) n9_0)⟩)
