set_option maxHeartbeats 4000000 in
set_option maxRecDepth 100000 in
theorem c_X12_at1 {D : va_G} {cI cJ cZ cT : ClassId} {lo b L : Nat} {xs : Nat → Int32} {hp : MH} {n d : Nat} {g k : Nat} (hd0 : 0 ≤ d) : Mt (gG D cI cJ cZ cT lo b L xs) mX12_at1 d 0 0 [.int ((nI g)), .int ((nI k))] hp n (fun r hp1 n1 => r = some (.int ((nI (60 * g + k)))) ∧ n1 = n ∧ ∀ (q : Nat) (e9 : va_E), hp q = some e9 → hp1 q = some e9) := by
  refine Mt.of rfl (Nat.le_of_ble_eq_true rfl) ?_
  refine Rn.pick (lv' := [(0, .int ((nI g))), (1, .int ((nI k)))]) [0, 1] rfl ?_
  refine r_bipush (pc := 0) (v := (nI 60)) dX12_at1_0 (by decide) ?_
  refine r_iload_n (pc := 2) dX12_at1_2 (i := 0) rfl rfl ?_
  refine r_imul (pc := 3) (v := (nI (60 * g))) dX12_at1_3 (pk_mul 60 g) ?_
  refine r_iload_n (pc := 4) dX12_at1_4 (i := 1) rfl rfl ?_
  refine r_iadd (pc := 5) (v := (nI (60 * g + k))) dX12_at1_5 (nI_add _ _) ?_
  exact r_iret (pc := 6) dX12_at1_6 rfl (⟨rfl, rfl, fun q e9 h9 => h9⟩)
set_option maxHeartbeats 4000000 in
set_option maxRecDepth 100000 in
theorem c_X12_begin_no {D : va_G} {cI cJ cZ cT : ClassId} {lo b L : Nat} {xs : Nat → Int32} {hp : MH} {n d : Nat} {y mm_sorts mm_sizes mm_directs mm_many mm_from mm_to mm_weight mm_cost mm_numbers mm_state mm_worth mm_long1 mm_howMany mm_rows mm_inPart mm_partCount mm_nf mm_nt mm_nw mm_nc mm_column mm_next mm_inside mm_beside mm_solid mm_below mm_best mm_ways1 mm_round mm_round2 mm_label mm_bridge mm_outs mm_ins mm_least mm_spans mm_joinedWith mm_gone mm_dear mm_by mm_ahead mm_image : Nat} {rf cnt nm : Int32} {p1 : Int32} {q2 : Bool} (hd0 : 1 ≤ d) (gc0 : hp y = some (.inr (11, [.int rf, .int cnt, .ref mm_sorts, .ref mm_sizes, .ref mm_directs, .ref mm_many, .ref mm_from, .ref mm_to, .ref mm_weight, .ref mm_cost, .ref mm_numbers, .ref mm_state, .ref mm_worth, .ref mm_long1, .ref mm_howMany, .ref mm_rows, .ref mm_inPart, .ref mm_partCount, .ref mm_nf, .ref mm_nt, .ref mm_nw, .ref mm_nc, .int nm, .ref mm_column, .ref mm_next, .ref mm_inside, .ref mm_beside, .ref mm_solid, .ref mm_below, .ref mm_best, .ref mm_ways1, .ref mm_round, .ref mm_round2, .ref mm_label, .ref mm_bridge, .ref mm_outs, .ref mm_ins, .ref mm_least, .ref mm_spans, .ref mm_joinedWith, .ref mm_gone, .ref mm_dear, .ref mm_by, .ref mm_ahead, .ref mm_image]))) (hno : p1 < 1 ∨ 16 < p1) : Mt (gG D cI cJ cZ cT lo b L xs) mX12_begin d 0 0 [.ref y, .int p1, .int ((bI q2))] hp n (fun r hp1 n1 => r = some (.int 0) ∧ n1 = n ∧ hp1 y = some (.inr (11, [.int ((-3)), .int cnt, .ref mm_sorts, .ref mm_sizes, .ref mm_directs, .ref mm_many, .ref mm_from, .ref mm_to, .ref mm_weight, .ref mm_cost, .ref mm_numbers, .ref mm_state, .ref mm_worth, .ref mm_long1, .ref mm_howMany, .ref mm_rows, .ref mm_inPart, .ref mm_partCount, .ref mm_nf, .ref mm_nt, .ref mm_nw, .ref mm_nc, .int nm, .ref mm_column, .ref mm_next, .ref mm_inside, .ref mm_beside, .ref mm_solid, .ref mm_below, .ref mm_best, .ref mm_ways1, .ref mm_round, .ref mm_round2, .ref mm_label, .ref mm_bridge, .ref mm_outs, .ref mm_ins, .ref mm_least, .ref mm_spans, .ref mm_joinedWith, .ref mm_gone, .ref mm_dear, .ref mm_by, .ref mm_ahead, .ref mm_image])) ∧ ∀ (q : Nat) (e9 : va_E), hp q = some e9 → q ≠ y → hp1 q = some e9) := by
  refine Mt.of rfl (Nat.le_of_ble_eq_true rfl) ?_
  refine Rn.pick (lv' := [(0, .ref y), (1, .int p1), (2, .int ((bI q2)))]) [0, 1, 2] rfl ?_
  refine r_iload_n (pc := 0) dX12_begin_0 (i := 1) rfl rfl ?_
  refine r_iconst (pc := 1) (v := 1) dX12_begin_1 (by decide) ?_
  refine r_icmp_lt (pc := 2) (tgt := 11) dX12_begin_2 (by decide) (fun c2 => ?_) (fun c2 => ?_)
  · refine r_aload_n (pc := 11) dX12_begin_11 (i := 0) rfl rfl ?_
    refine r_bipush (pc := 12) (v := (-3)) dX12_begin_12 (by decide) ?_
    refine r_callV (pc := 14) (as := [.int ((-3))]) (st := []) kX12_153 rfl dX12_begin_14 gc0 (c_X12_refuse (d := d - 1) (y := y) (rf := rf) (cnt := cnt) (mm_sorts := mm_sorts) (mm_sizes := mm_sizes) (mm_directs := mm_directs) (mm_many := mm_many) (mm_from := mm_from) (mm_to := mm_to) (mm_weight := mm_weight) (mm_cost := mm_cost) (mm_numbers := mm_numbers) (mm_state := mm_state) (mm_worth := mm_worth) (mm_long1 := mm_long1) (mm_howMany := mm_howMany) (mm_rows := mm_rows) (mm_inPart := mm_inPart) (mm_partCount := mm_partCount) (mm_nf := mm_nf) (mm_nt := mm_nt) (mm_nw := mm_nw) (mm_nc := mm_nc) (nm := nm) (mm_column := mm_column) (mm_next := mm_next) (mm_inside := mm_inside) (mm_beside := mm_beside) (mm_solid := mm_solid) (mm_below := mm_below) (mm_best := mm_best) (mm_ways1 := mm_ways1) (mm_round := mm_round) (mm_round2 := mm_round2) (mm_label := mm_label) (mm_bridge := mm_bridge) (mm_outs := mm_outs) (mm_ins := mm_ins) (mm_least := mm_least) (mm_spans := mm_spans) (mm_joinedWith := mm_joinedWith) (mm_gone := mm_gone) (mm_dear := mm_dear) (mm_by := mm_by) (mm_ahead := mm_ahead) (mm_image := mm_image) (p1 := (-3)) (by omega) gc0 ) rfl (by omega) (Nat.le_of_ble_eq_true rfl) (by omega) (by omega) rfl (fun r9 hp_1 nn_2 hq_3 => ?_)
    obtain ⟨rfl, hq_3n, h_4, ho_5⟩ := hq_3
    subst nn_2
    change Rn _ _ _ 17 _ [.int ((-3))] _ _ _ _ _
    refine r_pop (pc := 17) dX12_begin_17 rfl ?_
    refine r_iconst (pc := 18) (v := 0) dX12_begin_18 (by decide) ?_
    exact r_zret (pc := 19) dX12_begin_19 rfl (by decide) (⟨rfl, rfl, h_4, fun q e9 h9 n9_0 => (ho_5 q e9 h9 n9_0)⟩)
  · refine r_iload_n (pc := 5) dX12_begin_5 (i := 1) rfl rfl ?_
    refine r_bipush (pc := 6) (v := 16) dX12_begin_6 (by decide) ?_
    refine r_icmp_le (pc := 8) (tgt := 20) dX12_begin_8 (by decide) (fun c8 => ?_) (fun c8 => ?_)
    · exact absurd hno (fun h9 => h9.elim c2 (fun h8 => absurd c8 (Int32.not_le.mpr h8)))
    · refine r_aload_n (pc := 11) dX12_begin_11 (i := 0) rfl rfl ?_
      refine r_bipush (pc := 12) (v := (-3)) dX12_begin_12 (by decide) ?_
      refine r_callV (pc := 14) (as := [.int ((-3))]) (st := []) kX12_153 rfl dX12_begin_14 gc0 (c_X12_refuse (d := d - 1) (y := y) (rf := rf) (cnt := cnt) (mm_sorts := mm_sorts) (mm_sizes := mm_sizes) (mm_directs := mm_directs) (mm_many := mm_many) (mm_from := mm_from) (mm_to := mm_to) (mm_weight := mm_weight) (mm_cost := mm_cost) (mm_numbers := mm_numbers) (mm_state := mm_state) (mm_worth := mm_worth) (mm_long1 := mm_long1) (mm_howMany := mm_howMany) (mm_rows := mm_rows) (mm_inPart := mm_inPart) (mm_partCount := mm_partCount) (mm_nf := mm_nf) (mm_nt := mm_nt) (mm_nw := mm_nw) (mm_nc := mm_nc) (nm := nm) (mm_column := mm_column) (mm_next := mm_next) (mm_inside := mm_inside) (mm_beside := mm_beside) (mm_solid := mm_solid) (mm_below := mm_below) (mm_best := mm_best) (mm_ways1 := mm_ways1) (mm_round := mm_round) (mm_round2 := mm_round2) (mm_label := mm_label) (mm_bridge := mm_bridge) (mm_outs := mm_outs) (mm_ins := mm_ins) (mm_least := mm_least) (mm_spans := mm_spans) (mm_joinedWith := mm_joinedWith) (mm_gone := mm_gone) (mm_dear := mm_dear) (mm_by := mm_by) (mm_ahead := mm_ahead) (mm_image := mm_image) (p1 := (-3)) (by omega) gc0 ) rfl (by omega) (Nat.le_of_ble_eq_true rfl) (by omega) (by omega) rfl (fun r9 hp_6 nn_7 hq_8 => ?_)
      obtain ⟨rfl, hq_8n, h_9, ho_10⟩ := hq_8
      subst nn_7
      change Rn _ _ _ 17 _ [.int ((-3))] _ _ _ _ _
      refine r_pop (pc := 17) dX12_begin_17 rfl ?_
      refine r_iconst (pc := 18) (v := 0) dX12_begin_18 (by decide) ?_
      exact r_zret (pc := 19) dX12_begin_19 rfl (by decide) (⟨rfl, rfl, h_9, fun q e9 h9 n9_0 => (ho_10 q e9 h9 n9_0)⟩)
set_option maxHeartbeats 4000000 in
set_option maxRecDepth 100000 in
theorem c_X12_begin {D : va_G} {cI cJ cZ cT : ClassId} {lo b L : Nat} {xs : Nat → Int32} {hp : MH} {n d : Nat} {y mm_sorts mm_sizes mm_directs mm_many mm_from mm_to mm_weight mm_cost mm_numbers mm_state mm_worth mm_long1 mm_howMany mm_rows mm_inPart mm_partCount mm_nf mm_nt mm_nw mm_nc mm_column mm_next mm_inside mm_beside mm_solid mm_below mm_best mm_ways1 mm_round mm_round2 mm_label mm_bridge mm_outs mm_ins mm_least mm_spans mm_joinedWith mm_gone mm_dear mm_by mm_ahead mm_image : Nat} {rf cnt nm : Int32} {p1 : Int32} {q2 : Bool} {f1 f2 f3 : Nat → Int32} (hd0 : 0 ≤ d) (gc0 : hp y = some (.inr (11, [.int rf, .int cnt, .ref mm_sorts, .ref mm_sizes, .ref mm_directs, .ref mm_many, .ref mm_from, .ref mm_to, .ref mm_weight, .ref mm_cost, .ref mm_numbers, .ref mm_state, .ref mm_worth, .ref mm_long1, .ref mm_howMany, .ref mm_rows, .ref mm_inPart, .ref mm_partCount, .ref mm_nf, .ref mm_nt, .ref mm_nw, .ref mm_nc, .int nm, .ref mm_column, .ref mm_next, .ref mm_inside, .ref mm_beside, .ref mm_solid, .ref mm_below, .ref mm_best, .ref mm_ways1, .ref mm_round, .ref mm_round2, .ref mm_label, .ref mm_bridge, .ref mm_outs, .ref mm_ins, .ref mm_least, .ref mm_spans, .ref mm_joinedWith, .ref mm_gone, .ref mm_dear, .ref mm_by, .ref mm_ahead, .ref mm_image]))) (gc1 : hp mm_sizes = some (.inl (cI, 121, .inl (f1)))) (gc2 : hp mm_directs = some (.inl (cZ, 121, .inl (f2)))) (gc3 : hp mm_many = some (.inl (cI, 121, .inl (f3)))) (h1 : ¬ p1 < 1) (h2 : p1 ≤ 16) (n1 : mm_sizes ≠ mm_many) (n2 : mm_sizes ≠ mm_directs) (n3 : mm_directs ≠ mm_many) : Mt (gG D cI cJ cZ cT lo b L xs) mX12_begin d 0 0 [.ref y, .int p1, .int ((bI q2))] hp n (fun r hp1 n1 => r = some (.int 1) ∧ n1 = n ∧ hp1 y = some (.inr (11, [.int 0, .int cnt, .ref mm_sorts, .ref mm_sizes, .ref mm_directs, .ref mm_many, .ref mm_from, .ref mm_to, .ref mm_weight, .ref mm_cost, .ref mm_numbers, .ref mm_state, .ref mm_worth, .ref mm_long1, .ref mm_howMany, .ref mm_rows, .ref mm_inPart, .ref mm_partCount, .ref mm_nf, .ref mm_nt, .ref mm_nw, .ref mm_nc, .int nm, .ref mm_column, .ref mm_next, .ref mm_inside, .ref mm_beside, .ref mm_solid, .ref mm_below, .ref mm_best, .ref mm_ways1, .ref mm_round, .ref mm_round2, .ref mm_label, .ref mm_bridge, .ref mm_outs, .ref mm_ins, .ref mm_least, .ref mm_spans, .ref mm_joinedWith, .ref mm_gone, .ref mm_dear, .ref mm_by, .ref mm_ahead, .ref mm_image])) ∧ hp1 mm_sizes = some (.inl (cI, 121, .inl (upd f1 120 p1))) ∧ hp1 mm_directs = some (.inl (cZ, 121, .inl (upd f2 120 (bI q2)))) ∧ hp1 mm_many = some (.inl (cI, 121, .inl (upd f3 120 0))) ∧ ∀ (q : Nat) (e9 : va_E), hp q = some e9 → q ≠ y → q ≠ mm_sizes → q ≠ mm_directs → q ≠ mm_many → hp1 q = some e9) := by
  refine Mt.of rfl (Nat.le_of_ble_eq_true rfl) ?_
  refine Rn.pick (lv' := [(0, .ref y), (1, .int p1), (2, .int ((bI q2)))]) [0, 1, 2] rfl ?_
  refine r_iload_n (pc := 0) dX12_begin_0 (i := 1) rfl rfl ?_
  refine r_iconst (pc := 1) (v := 1) dX12_begin_1 (by decide) ?_
  refine r_icmp_lt (pc := 2) (tgt := 11) dX12_begin_2 (by decide) (fun c9 => absurd c9 (h1)) (fun _ => ?_)
  refine r_iload_n (pc := 5) dX12_begin_5 (i := 1) rfl rfl ?_
  refine r_bipush (pc := 6) (v := 16) dX12_begin_6 (by decide) ?_
  refine r_icmp_le (pc := 8) (tgt := 20) dX12_begin_8 (by decide) (fun _ => ?_) (fun c9 => absurd (h2) c9)
  refine r_aload_n (pc := 20) dX12_begin_20 (i := 0) rfl rfl ?_
  refine r_iconst (pc := 21) (v := 0) dX12_begin_21 (by decide) ?_
  refine w_put (pc := 22) (ty := .int) (fs' := [.int 0, .int cnt, .ref mm_sorts, .ref mm_sizes, .ref mm_directs, .ref mm_many, .ref mm_from, .ref mm_to, .ref mm_weight, .ref mm_cost, .ref mm_numbers, .ref mm_state, .ref mm_worth, .ref mm_long1, .ref mm_howMany, .ref mm_rows, .ref mm_inPart, .ref mm_partCount, .ref mm_nf, .ref mm_nt, .ref mm_nw, .ref mm_nc, .int nm, .ref mm_column, .ref mm_next, .ref mm_inside, .ref mm_beside, .ref mm_solid, .ref mm_below, .ref mm_best, .ref mm_ways1, .ref mm_round, .ref mm_round2, .ref mm_label, .ref mm_bridge, .ref mm_outs, .ref mm_ins, .ref mm_least, .ref mm_spans, .ref mm_joinedWith, .ref mm_gone, .ref mm_dear, .ref mm_by, .ref mm_ahead, .ref mm_image]) fX12_142 tyX12 tyX12_ok nmX12 (by decide +kernel) (Or.inl rfl) dX12_begin_22 gc0 (Nat.le_of_ble_eq_true rfl) (rfl) (rfl) rfl (fun hp_1 h_2 ho_3 => ?_)
  refine r_aload_n (pc := 25) dX12_begin_25 (i := 0) rfl rfl ?_
  refine r_get (pc := 26) (v := .ref mm_sizes) fX12_13 dX12_begin_26 h_2 rfl ?_
  refine r_bipush (pc := 29) (v := 120) dX12_begin_29 (by decide) ?_
  refine r_iload_n (pc := 31) dX12_begin_31 (i := 1) rfl rfl ?_
  have h_4 : hp_1 mm_sizes = some (.inl (cI, 121, .inl (f1))) := ((ho_3 mm_sizes (ne_c gc1 gc0 (by intro h9; cases h9))).trans gc1)
  refine w_iast (pc := 32) (t0 := 0) (f' := upd f1 120 p1) dX12_begin_32 rfl h_4 (by unfold vp_in; decide) (by rw [show (120 : Int32).toNatClampNeg = 120 from by decide]) (fun hp_5 h_6 ho_7 => ?_)
  refine r_aload_n (pc := 33) dX12_begin_33 (i := 0) rfl rfl ?_
  have h_8 : hp_5 y = some (.inr (11, [.int 0, .int cnt, .ref mm_sorts, .ref mm_sizes, .ref mm_directs, .ref mm_many, .ref mm_from, .ref mm_to, .ref mm_weight, .ref mm_cost, .ref mm_numbers, .ref mm_state, .ref mm_worth, .ref mm_long1, .ref mm_howMany, .ref mm_rows, .ref mm_inPart, .ref mm_partCount, .ref mm_nf, .ref mm_nt, .ref mm_nw, .ref mm_nc, .int nm, .ref mm_column, .ref mm_next, .ref mm_inside, .ref mm_beside, .ref mm_solid, .ref mm_below, .ref mm_best, .ref mm_ways1, .ref mm_round, .ref mm_round2, .ref mm_label, .ref mm_bridge, .ref mm_outs, .ref mm_ins, .ref mm_least, .ref mm_spans, .ref mm_joinedWith, .ref mm_gone, .ref mm_dear, .ref mm_by, .ref mm_ahead, .ref mm_image])) := ((ho_7 y (ne_c gc0 gc1 (by intro h9; cases h9))).trans h_2)
  refine r_get (pc := 34) (v := .ref mm_directs) fX12_16 dX12_begin_34 h_8 rfl ?_
  refine r_bipush (pc := 37) (v := 120) dX12_begin_37 (by decide) ?_
  refine r_iload_n (pc := 39) dX12_begin_39 (i := 2) rfl rfl ?_
  have h_9 : hp_5 mm_directs = some (.inl (cZ, 121, .inl (f2))) := ((ho_7 mm_directs (Ne.symm n2)).trans ((ho_3 mm_directs (ne_c gc2 gc0 (by intro h9; cases h9))).trans gc2))
  refine w_zast (pc := 40) (t0 := 2) (f' := upd f2 120 (bI q2)) dX12_begin_40 rfl h_9 (by unfold vp_in; decide) (by rw [show (120 : Int32).toNatClampNeg = 120 from by decide]; cases q2 <;> rfl) (fun hp_10 h_11 ho_12 => ?_)
  refine r_aload_n (pc := 41) dX12_begin_41 (i := 0) rfl rfl ?_
  have h_13 : hp_10 y = some (.inr (11, [.int 0, .int cnt, .ref mm_sorts, .ref mm_sizes, .ref mm_directs, .ref mm_many, .ref mm_from, .ref mm_to, .ref mm_weight, .ref mm_cost, .ref mm_numbers, .ref mm_state, .ref mm_worth, .ref mm_long1, .ref mm_howMany, .ref mm_rows, .ref mm_inPart, .ref mm_partCount, .ref mm_nf, .ref mm_nt, .ref mm_nw, .ref mm_nc, .int nm, .ref mm_column, .ref mm_next, .ref mm_inside, .ref mm_beside, .ref mm_solid, .ref mm_below, .ref mm_best, .ref mm_ways1, .ref mm_round, .ref mm_round2, .ref mm_label, .ref mm_bridge, .ref mm_outs, .ref mm_ins, .ref mm_least, .ref mm_spans, .ref mm_joinedWith, .ref mm_gone, .ref mm_dear, .ref mm_by, .ref mm_ahead, .ref mm_image])) := ((ho_12 y (ne_c gc0 gc2 (by intro h9; cases h9))).trans h_8)
  refine r_get (pc := 42) (v := .ref mm_many) fX12_20 dX12_begin_42 h_13 rfl ?_
  refine r_bipush (pc := 45) (v := 120) dX12_begin_45 (by decide) ?_
  refine r_iconst (pc := 47) (v := 0) dX12_begin_47 (by decide) ?_
  have h_14 : hp_10 mm_many = some (.inl (cI, 121, .inl (f3))) := ((ho_12 mm_many (Ne.symm n3)).trans ((ho_7 mm_many (Ne.symm n1)).trans ((ho_3 mm_many (ne_c gc3 gc0 (by intro h9; cases h9))).trans gc3)))
  refine w_iast (pc := 48) (t0 := 0) (f' := upd f3 120 0) dX12_begin_48 rfl h_14 (by unfold vp_in; decide) (by rw [show (120 : Int32).toNatClampNeg = 120 from by decide]) (fun hp_15 h_16 ho_17 => ?_)
  refine r_iconst (pc := 49) (v := 1) dX12_begin_49 (by decide) ?_
  have h_18 : hp_15 y = some (.inr (11, [.int 0, .int cnt, .ref mm_sorts, .ref mm_sizes, .ref mm_directs, .ref mm_many, .ref mm_from, .ref mm_to, .ref mm_weight, .ref mm_cost, .ref mm_numbers, .ref mm_state, .ref mm_worth, .ref mm_long1, .ref mm_howMany, .ref mm_rows, .ref mm_inPart, .ref mm_partCount, .ref mm_nf, .ref mm_nt, .ref mm_nw, .ref mm_nc, .int nm, .ref mm_column, .ref mm_next, .ref mm_inside, .ref mm_beside, .ref mm_solid, .ref mm_below, .ref mm_best, .ref mm_ways1, .ref mm_round, .ref mm_round2, .ref mm_label, .ref mm_bridge, .ref mm_outs, .ref mm_ins, .ref mm_least, .ref mm_spans, .ref mm_joinedWith, .ref mm_gone, .ref mm_dear, .ref mm_by, .ref mm_ahead, .ref mm_image])) := ((ho_17 y (ne_c gc0 gc3 (by intro h9; cases h9))).trans h_13)
  have h_19 : hp_15 mm_sizes = some (.inl (cI, 121, .inl (upd f1 120 p1))) := ((ho_17 mm_sizes n1).trans ((ho_12 mm_sizes n2).trans h_6))
  have h_20 : hp_15 mm_directs = some (.inl (cZ, 121, .inl (upd f2 120 (bI q2)))) := ((ho_17 mm_directs n3).trans h_11)
  exact r_zret (pc := 50) dX12_begin_50 rfl (by decide) (⟨rfl, rfl, h_18, h_19, h_20, h_16, fun q e9 h9 n9_0 n9_1 n9_2 n9_3 => ((ho_17 q n9_3).trans ((ho_12 q n9_2).trans ((ho_7 q n9_1).trans ((ho_3 q n9_0).trans h9))))⟩)
set_option maxHeartbeats 4000000 in
set_option maxRecDepth 100000 in
theorem c_X12_add {D : va_G} {cI cJ cZ cT : ClassId} {lo b L : Nat} {xs : Nat → Int32} {hp : MH} {n d : Nat} {y mm_sorts mm_sizes mm_directs mm_many mm_from mm_to mm_weight mm_cost mm_numbers mm_state mm_worth mm_long1 mm_howMany mm_rows mm_inPart mm_partCount mm_nf mm_nt mm_nw mm_nc mm_column mm_next mm_inside mm_beside mm_solid mm_below mm_best mm_ways1 mm_round mm_round2 mm_label mm_bridge mm_outs mm_ins mm_least mm_spans mm_joinedWith mm_gone mm_dear mm_by mm_ahead mm_image : Nat} {rf cnt nm : Int32} {g k : Nat} {p2 p3 p4 p5 : Int32} {g1 g2 g3 g4 f3 : Nat → Int32} (hd0 : 1 ≤ d) (gc0 : hp y = some (.inr (11, [.int rf, .int cnt, .ref mm_sorts, .ref mm_sizes, .ref mm_directs, .ref mm_many, .ref mm_from, .ref mm_to, .ref mm_weight, .ref mm_cost, .ref mm_numbers, .ref mm_state, .ref mm_worth, .ref mm_long1, .ref mm_howMany, .ref mm_rows, .ref mm_inPart, .ref mm_partCount, .ref mm_nf, .ref mm_nt, .ref mm_nw, .ref mm_nc, .int nm, .ref mm_column, .ref mm_next, .ref mm_inside, .ref mm_beside, .ref mm_solid, .ref mm_below, .ref mm_best, .ref mm_ways1, .ref mm_round, .ref mm_round2, .ref mm_label, .ref mm_bridge, .ref mm_outs, .ref mm_ins, .ref mm_least, .ref mm_spans, .ref mm_joinedWith, .ref mm_gone, .ref mm_dear, .ref mm_by, .ref mm_ahead, .ref mm_image]))) (gc1 : hp mm_from = some (.inl (cI, 7260, .inl (g1)))) (gc2 : hp mm_to = some (.inl (cI, 7260, .inl (g2)))) (gc3 : hp mm_weight = some (.inl (cI, 7260, .inl (g3)))) (gc4 : hp mm_cost = some (.inl (cI, 7260, .inl (g4)))) (gc5 : hp mm_many = some (.inl (cI, 121, .inl (f3)))) (hg : g ≤ 120) (hk : k < 60) (hm : f3 g = nI k) (a01 : mm_from ≠ mm_to) (a02 : mm_from ≠ mm_weight) (a03 : mm_from ≠ mm_cost) (a04 : mm_from ≠ mm_many) (a12 : mm_to ≠ mm_weight) (a13 : mm_to ≠ mm_cost) (a14 : mm_to ≠ mm_many) (a23 : mm_weight ≠ mm_cost) (a24 : mm_weight ≠ mm_many) (a34 : mm_cost ≠ mm_many) : Mt (gG D cI cJ cZ cT lo b L xs) mX12_add d 0 0 [.ref y, .int ((nI g)), .int p2, .int p3, .int p4, .int p5] hp n (fun r hp1 n1 => r = none ∧ n1 = n ∧ hp1 mm_from = some (.inl (cI, 7260, .inl (upd g1 (60 * g + k) p2))) ∧ hp1 mm_to = some (.inl (cI, 7260, .inl (upd g2 (60 * g + k) p3))) ∧ hp1 mm_weight = some (.inl (cI, 7260, .inl (upd g3 (60 * g + k) p4))) ∧ hp1 mm_cost = some (.inl (cI, 7260, .inl (upd g4 (60 * g + k) p5))) ∧ hp1 mm_many = some (.inl (cI, 121, .inl (upd f3 g (nI (k + 1))))) ∧ ∀ (q : Nat) (e9 : va_E), hp q = some e9 → q ≠ mm_from → q ≠ mm_to → q ≠ mm_weight → q ≠ mm_cost → q ≠ mm_many → hp1 q = some e9) := by
  refine Mt.of rfl (Nat.le_of_ble_eq_true rfl) ?_
  refine Rn.pick (lv' := [(0, .ref y), (1, .int ((nI g))), (2, .int p2), (3, .int p3), (4, .int p4), (5, .int p5)]) [0, 1, 2, 3, 4, 5] rfl ?_
  refine r_iload_n (pc := 0) dX12_add_0 (i := 1) rfl rfl ?_
  refine r_aload_n (pc := 1) dX12_add_1 (i := 0) rfl rfl ?_
  refine r_get (pc := 2) (v := .ref mm_many) fX12_20 dX12_add_2 gc0 rfl ?_
  refine r_iload_n (pc := 5) dX12_add_5 (i := 1) rfl rfl ?_
  refine w_iald (pc := 6) (t0 := 0) (v := (nI k)) dX12_add_6 rfl gc5 (vp_in_nI (by omega) (by omega)) (by rw [nI_clamp (by omega)]; exact hm) ?_
  refine r_callS (pc := 7) (as := [.int ((nI g)), .int ((nI k))]) (st := []) kX12_157 dX12_add_7 (c_X12_at1 (d := d - 1) (g := g) (k := k) (by omega)  ) rfl (by omega) (Nat.le_of_ble_eq_true rfl) (by omega) (by omega) rfl (fun r9 hp_1 nn_2 hq_3 => ?_)
  obtain ⟨rfl, hq_3n, ho_4⟩ := hq_3
  subst nn_2
  change Rn _ _ _ 10 _ [.int ((nI (60 * g + k)))] _ _ _ _ _
  refine r_istore (pc := 10) (lv' := [(6, .int ((nI (60 * g + k)))), (0, .ref y), (1, .int ((nI g))), (2, .int p2), (3, .int p3), (4, .int p4), (5, .int p5)]) dX12_add_10 (by decide) rfl ?_
  refine r_aload_n (pc := 12) dX12_add_12 (i := 0) rfl rfl ?_
  have h_5 : hp_1 y = some (.inr (11, [.int rf, .int cnt, .ref mm_sorts, .ref mm_sizes, .ref mm_directs, .ref mm_many, .ref mm_from, .ref mm_to, .ref mm_weight, .ref mm_cost, .ref mm_numbers, .ref mm_state, .ref mm_worth, .ref mm_long1, .ref mm_howMany, .ref mm_rows, .ref mm_inPart, .ref mm_partCount, .ref mm_nf, .ref mm_nt, .ref mm_nw, .ref mm_nc, .int nm, .ref mm_column, .ref mm_next, .ref mm_inside, .ref mm_beside, .ref mm_solid, .ref mm_below, .ref mm_best, .ref mm_ways1, .ref mm_round, .ref mm_round2, .ref mm_label, .ref mm_bridge, .ref mm_outs, .ref mm_ins, .ref mm_least, .ref mm_spans, .ref mm_joinedWith, .ref mm_gone, .ref mm_dear, .ref mm_by, .ref mm_ahead, .ref mm_image])) := (ho_4 y _ gc0)
  refine r_get (pc := 13) (v := .ref mm_from) fX12_23 dX12_add_13 h_5 rfl ?_
  refine r_iload (pc := 16) dX12_add_16 rfl ?_
  refine r_iload_n (pc := 18) dX12_add_18 (i := 2) rfl rfl ?_
  have h_6 : hp_1 mm_from = some (.inl (cI, 7260, .inl (g1))) := (ho_4 mm_from _ gc1)
  refine w_iast (pc := 19) (t0 := 0) (f' := upd g1 (60 * g + k) p2) dX12_add_19 rfl h_6 (vp_in_nI (by omega) (by omega)) (by rw [nI_clamp (by omega)]) (fun hp_7 h_8 ho_9 => ?_)
  refine r_aload_n (pc := 20) dX12_add_20 (i := 0) rfl rfl ?_
  have h_10 : hp_7 y = some (.inr (11, [.int rf, .int cnt, .ref mm_sorts, .ref mm_sizes, .ref mm_directs, .ref mm_many, .ref mm_from, .ref mm_to, .ref mm_weight, .ref mm_cost, .ref mm_numbers, .ref mm_state, .ref mm_worth, .ref mm_long1, .ref mm_howMany, .ref mm_rows, .ref mm_inPart, .ref mm_partCount, .ref mm_nf, .ref mm_nt, .ref mm_nw, .ref mm_nc, .int nm, .ref mm_column, .ref mm_next, .ref mm_inside, .ref mm_beside, .ref mm_solid, .ref mm_below, .ref mm_best, .ref mm_ways1, .ref mm_round, .ref mm_round2, .ref mm_label, .ref mm_bridge, .ref mm_outs, .ref mm_ins, .ref mm_least, .ref mm_spans, .ref mm_joinedWith, .ref mm_gone, .ref mm_dear, .ref mm_by, .ref mm_ahead, .ref mm_image])) := ((ho_9 y (ne_c gc0 gc1 (by intro h9; cases h9))).trans h_5)
  refine r_get (pc := 21) (v := .ref mm_to) fX12_26 dX12_add_21 h_10 rfl ?_
  refine r_iload (pc := 24) dX12_add_24 rfl ?_
  refine r_iload_n (pc := 26) dX12_add_26 (i := 3) rfl rfl ?_
  have h_11 : hp_7 mm_to = some (.inl (cI, 7260, .inl (g2))) := ((ho_9 mm_to (Ne.symm a01)).trans (ho_4 mm_to _ gc2))
  refine w_iast (pc := 27) (t0 := 0) (f' := upd g2 (60 * g + k) p3) dX12_add_27 rfl h_11 (vp_in_nI (by omega) (by omega)) (by rw [nI_clamp (by omega)]) (fun hp_12 h_13 ho_14 => ?_)
  refine r_aload_n (pc := 28) dX12_add_28 (i := 0) rfl rfl ?_
  have h_15 : hp_12 y = some (.inr (11, [.int rf, .int cnt, .ref mm_sorts, .ref mm_sizes, .ref mm_directs, .ref mm_many, .ref mm_from, .ref mm_to, .ref mm_weight, .ref mm_cost, .ref mm_numbers, .ref mm_state, .ref mm_worth, .ref mm_long1, .ref mm_howMany, .ref mm_rows, .ref mm_inPart, .ref mm_partCount, .ref mm_nf, .ref mm_nt, .ref mm_nw, .ref mm_nc, .int nm, .ref mm_column, .ref mm_next, .ref mm_inside, .ref mm_beside, .ref mm_solid, .ref mm_below, .ref mm_best, .ref mm_ways1, .ref mm_round, .ref mm_round2, .ref mm_label, .ref mm_bridge, .ref mm_outs, .ref mm_ins, .ref mm_least, .ref mm_spans, .ref mm_joinedWith, .ref mm_gone, .ref mm_dear, .ref mm_by, .ref mm_ahead, .ref mm_image])) := ((ho_14 y (ne_c gc0 gc2 (by intro h9; cases h9))).trans h_10)
  refine r_get (pc := 29) (v := .ref mm_weight) fX12_29 dX12_add_29 h_15 rfl ?_
  refine r_iload (pc := 32) dX12_add_32 rfl ?_
  refine r_iload (pc := 34) dX12_add_34 rfl ?_
  have h_16 : hp_12 mm_weight = some (.inl (cI, 7260, .inl (g3))) := ((ho_14 mm_weight (Ne.symm a12)).trans ((ho_9 mm_weight (Ne.symm a02)).trans (ho_4 mm_weight _ gc3)))
  refine w_iast (pc := 36) (t0 := 0) (f' := upd g3 (60 * g + k) p4) dX12_add_36 rfl h_16 (vp_in_nI (by omega) (by omega)) (by rw [nI_clamp (by omega)]) (fun hp_17 h_18 ho_19 => ?_)
  refine r_aload_n (pc := 37) dX12_add_37 (i := 0) rfl rfl ?_
  have h_20 : hp_17 y = some (.inr (11, [.int rf, .int cnt, .ref mm_sorts, .ref mm_sizes, .ref mm_directs, .ref mm_many, .ref mm_from, .ref mm_to, .ref mm_weight, .ref mm_cost, .ref mm_numbers, .ref mm_state, .ref mm_worth, .ref mm_long1, .ref mm_howMany, .ref mm_rows, .ref mm_inPart, .ref mm_partCount, .ref mm_nf, .ref mm_nt, .ref mm_nw, .ref mm_nc, .int nm, .ref mm_column, .ref mm_next, .ref mm_inside, .ref mm_beside, .ref mm_solid, .ref mm_below, .ref mm_best, .ref mm_ways1, .ref mm_round, .ref mm_round2, .ref mm_label, .ref mm_bridge, .ref mm_outs, .ref mm_ins, .ref mm_least, .ref mm_spans, .ref mm_joinedWith, .ref mm_gone, .ref mm_dear, .ref mm_by, .ref mm_ahead, .ref mm_image])) := ((ho_19 y (ne_c gc0 gc3 (by intro h9; cases h9))).trans h_15)
  refine r_get (pc := 38) (v := .ref mm_cost) fX12_32 dX12_add_38 h_20 rfl ?_
  refine r_iload (pc := 41) dX12_add_41 rfl ?_
  refine r_iload (pc := 43) dX12_add_43 rfl ?_
  have h_21 : hp_17 mm_cost = some (.inl (cI, 7260, .inl (g4))) := ((ho_19 mm_cost (Ne.symm a23)).trans ((ho_14 mm_cost (Ne.symm a13)).trans ((ho_9 mm_cost (Ne.symm a03)).trans (ho_4 mm_cost _ gc4))))
  refine w_iast (pc := 45) (t0 := 0) (f' := upd g4 (60 * g + k) p5) dX12_add_45 rfl h_21 (vp_in_nI (by omega) (by omega)) (by rw [nI_clamp (by omega)]) (fun hp_22 h_23 ho_24 => ?_)
  refine r_aload_n (pc := 46) dX12_add_46 (i := 0) rfl rfl ?_
  have h_25 : hp_22 y = some (.inr (11, [.int rf, .int cnt, .ref mm_sorts, .ref mm_sizes, .ref mm_directs, .ref mm_many, .ref mm_from, .ref mm_to, .ref mm_weight, .ref mm_cost, .ref mm_numbers, .ref mm_state, .ref mm_worth, .ref mm_long1, .ref mm_howMany, .ref mm_rows, .ref mm_inPart, .ref mm_partCount, .ref mm_nf, .ref mm_nt, .ref mm_nw, .ref mm_nc, .int nm, .ref mm_column, .ref mm_next, .ref mm_inside, .ref mm_beside, .ref mm_solid, .ref mm_below, .ref mm_best, .ref mm_ways1, .ref mm_round, .ref mm_round2, .ref mm_label, .ref mm_bridge, .ref mm_outs, .ref mm_ins, .ref mm_least, .ref mm_spans, .ref mm_joinedWith, .ref mm_gone, .ref mm_dear, .ref mm_by, .ref mm_ahead, .ref mm_image])) := ((ho_24 y (ne_c gc0 gc4 (by intro h9; cases h9))).trans h_20)
  refine r_get (pc := 47) (v := .ref mm_many) fX12_20 dX12_add_47 h_25 rfl ?_
  refine r_iload_n (pc := 50) dX12_add_50 (i := 1) rfl rfl ?_
  refine r_dup2_11 (pc := 51) dX12_add_51 rfl rfl ?_
  have h_26 : hp_22 mm_many = some (.inl (cI, 121, .inl (f3))) := ((ho_24 mm_many (Ne.symm a34)).trans ((ho_19 mm_many (Ne.symm a24)).trans ((ho_14 mm_many (Ne.symm a14)).trans ((ho_9 mm_many (Ne.symm a04)).trans (ho_4 mm_many _ gc5)))))
  refine w_iald (pc := 52) (t0 := 0) (v := (nI k)) dX12_add_52 rfl h_26 (vp_in_nI (by omega) (by omega)) (by rw [nI_clamp (by omega)]; exact hm) ?_
  refine r_iconst (pc := 53) (v := 1) dX12_add_53 (by decide) ?_
  refine r_iadd (pc := 54) (v := (nI (k + 1))) dX12_add_54 (nI_1 k) ?_
  refine w_iast (pc := 55) (t0 := 0) (f' := upd f3 g (nI (k + 1))) dX12_add_55 rfl h_26 (vp_in_nI (by omega) (by omega)) (by rw [nI_clamp (by omega)]) (fun hp_27 h_28 ho_29 => ?_)
  have h_30 : hp_27 mm_from = some (.inl (cI, 7260, .inl (upd g1 (60 * g + k) p2))) := ((ho_29 mm_from a04).trans ((ho_24 mm_from a03).trans ((ho_19 mm_from a02).trans ((ho_14 mm_from a01).trans h_8))))
  have h_31 : hp_27 mm_to = some (.inl (cI, 7260, .inl (upd g2 (60 * g + k) p3))) := ((ho_29 mm_to a14).trans ((ho_24 mm_to a13).trans ((ho_19 mm_to a12).trans h_13)))
  have h_32 : hp_27 mm_weight = some (.inl (cI, 7260, .inl (upd g3 (60 * g + k) p4))) := ((ho_29 mm_weight a24).trans ((ho_24 mm_weight a23).trans h_18))
  have h_33 : hp_27 mm_cost = some (.inl (cI, 7260, .inl (upd g4 (60 * g + k) p5))) := ((ho_29 mm_cost a34).trans h_23)
  exact r_vret (pc := 56) dX12_add_56 rfl (⟨rfl, rfl, h_30, h_31, h_32, h_33, h_28, fun q e9 h9 n9_0 n9_1 n9_2 n9_3 n9_4 => ((ho_29 q n9_4).trans ((ho_24 q n9_3).trans ((ho_19 q n9_2).trans ((ho_14 q n9_1).trans ((ho_9 q n9_0).trans (ho_4 q e9 h9 ))))))⟩)
set_option maxHeartbeats 4000000 in
set_option maxRecDepth 100000 in
theorem c_X12_arc {D : va_G} {cI cJ cZ cT : ClassId} {lo b L : Nat} {xs : Nat → Int32} {hp : MH} {n d : Nat} {y mm_sorts mm_sizes mm_directs mm_many mm_from mm_to mm_weight mm_cost mm_numbers mm_state mm_worth mm_long1 mm_howMany mm_rows mm_inPart mm_partCount mm_nf mm_nt mm_nw mm_nc mm_column mm_next mm_inside mm_beside mm_solid mm_below mm_best mm_ways1 mm_round mm_round2 mm_label mm_bridge mm_outs mm_ins mm_least mm_spans mm_joinedWith mm_gone mm_dear mm_by mm_ahead mm_image : Nat} {rf cnt nm : Int32} {k : Nat} {x0 p1 p2 p3 p4 : Int32} {g1 g2 g3 g4 f1 f3 : Nat → Int32} (hd0 : 2 ≤ d) (gc0 : hp y = some (.inr (11, [.int rf, .int cnt, .ref mm_sorts, .ref mm_sizes, .ref mm_directs, .ref mm_many, .ref mm_from, .ref mm_to, .ref mm_weight, .ref mm_cost, .ref mm_numbers, .ref mm_state, .ref mm_worth, .ref mm_long1, .ref mm_howMany, .ref mm_rows, .ref mm_inPart, .ref mm_partCount, .ref mm_nf, .ref mm_nt, .ref mm_nw, .ref mm_nc, .int nm, .ref mm_column, .ref mm_next, .ref mm_inside, .ref mm_beside, .ref mm_solid, .ref mm_below, .ref mm_best, .ref mm_ways1, .ref mm_round, .ref mm_round2, .ref mm_label, .ref mm_bridge, .ref mm_outs, .ref mm_ins, .ref mm_least, .ref mm_spans, .ref mm_joinedWith, .ref mm_gone, .ref mm_dear, .ref mm_by, .ref mm_ahead, .ref mm_image]))) (gc1 : hp mm_from = some (.inl (cI, 7260, .inl (g1)))) (gc2 : hp mm_to = some (.inl (cI, 7260, .inl (g2)))) (gc3 : hp mm_weight = some (.inl (cI, 7260, .inl (g3)))) (gc4 : hp mm_cost = some (.inl (cI, 7260, .inl (g4)))) (gc5 : hp mm_many = some (.inl (cI, 121, .inl (f3)))) (gc6 : hp mm_sizes = some (.inl (cI, 121, .inl (f1)))) (h1 : ¬ p1 < 0 ∧ ¬ x0 ≤ p1) (h2 : ¬ p2 < 0 ∧ ¬ x0 ≤ p2) (h3 : ¬ p3 < (-1000) ∧ ¬ 1000 < p3) (h4 : ¬ p4 < (-1000) ∧ ¬ 1000 < p4) (hk : k < 60) (hm : f3 120 = nI k) (hs : f1 120 = x0) (a01 : mm_from ≠ mm_to) (a02 : mm_from ≠ mm_weight) (a03 : mm_from ≠ mm_cost) (a04 : mm_from ≠ mm_many) (a12 : mm_to ≠ mm_weight) (a13 : mm_to ≠ mm_cost) (a14 : mm_to ≠ mm_many) (a23 : mm_weight ≠ mm_cost) (a24 : mm_weight ≠ mm_many) (a34 : mm_cost ≠ mm_many) (s0 : mm_sizes ≠ mm_from) (s1 : mm_sizes ≠ mm_to) (s2 : mm_sizes ≠ mm_weight) (s3 : mm_sizes ≠ mm_cost) (s4 : mm_sizes ≠ mm_many) : Mt (gG D cI cJ cZ cT lo b L xs) mX12_arc d 0 0 [.ref y, .int p1, .int p2, .int p3, .int p4] hp n (fun r hp1 n1 => r = some (.int ((nI k))) ∧ n1 = n ∧ hp1 y = some (.inr (11, [.int 0, .int cnt, .ref mm_sorts, .ref mm_sizes, .ref mm_directs, .ref mm_many, .ref mm_from, .ref mm_to, .ref mm_weight, .ref mm_cost, .ref mm_numbers, .ref mm_state, .ref mm_worth, .ref mm_long1, .ref mm_howMany, .ref mm_rows, .ref mm_inPart, .ref mm_partCount, .ref mm_nf, .ref mm_nt, .ref mm_nw, .ref mm_nc, .int nm, .ref mm_column, .ref mm_next, .ref mm_inside, .ref mm_beside, .ref mm_solid, .ref mm_below, .ref mm_best, .ref mm_ways1, .ref mm_round, .ref mm_round2, .ref mm_label, .ref mm_bridge, .ref mm_outs, .ref mm_ins, .ref mm_least, .ref mm_spans, .ref mm_joinedWith, .ref mm_gone, .ref mm_dear, .ref mm_by, .ref mm_ahead, .ref mm_image])) ∧ hp1 mm_from = some (.inl (cI, 7260, .inl (upd g1 (60 * 120 + k) p1))) ∧ hp1 mm_to = some (.inl (cI, 7260, .inl (upd g2 (60 * 120 + k) p2))) ∧ hp1 mm_weight = some (.inl (cI, 7260, .inl (upd g3 (60 * 120 + k) p3))) ∧ hp1 mm_cost = some (.inl (cI, 7260, .inl (upd g4 (60 * 120 + k) p4))) ∧ hp1 mm_many = some (.inl (cI, 121, .inl (upd f3 120 (nI (k + 1))))) ∧ ∀ (q : Nat) (e9 : va_E), hp q = some e9 → q ≠ y → q ≠ mm_from → q ≠ mm_to → q ≠ mm_weight → q ≠ mm_cost → q ≠ mm_many → hp1 q = some e9) := by
  refine Mt.of rfl (Nat.le_of_ble_eq_true rfl) ?_
  refine Rn.pick (lv' := [(0, .ref y), (1, .int p1), (2, .int p2), (3, .int p3), (4, .int p4)]) [0, 1, 2, 3, 4] rfl ?_
  refine r_aload_n (pc := 0) dX12_arc_0 (i := 0) rfl rfl ?_
  refine r_get (pc := 1) (v := .ref mm_sizes) fX12_13 dX12_arc_1 gc0 rfl ?_
  refine r_bipush (pc := 4) (v := 120) dX12_arc_4 (by decide) ?_
  refine w_iald (pc := 6) (t0 := 0) (v := x0) dX12_arc_6 rfl gc6 (by unfold vp_in; decide) (by rw [show (120 : Int32).toNatClampNeg = 120 from by decide]; exact hs) ?_
  refine r_istore (pc := 7) (lv' := [(5, .int x0), (0, .ref y), (1, .int p1), (2, .int p2), (3, .int p3), (4, .int p4)]) dX12_arc_7 (by decide) rfl ?_
  refine r_aload_n (pc := 9) dX12_arc_9 (i := 0) rfl rfl ?_
  refine r_iconst (pc := 10) (v := 0) dX12_arc_10 (by decide) ?_
  refine w_put (pc := 11) (ty := .int) (fs' := [.int 0, .int cnt, .ref mm_sorts, .ref mm_sizes, .ref mm_directs, .ref mm_many, .ref mm_from, .ref mm_to, .ref mm_weight, .ref mm_cost, .ref mm_numbers, .ref mm_state, .ref mm_worth, .ref mm_long1, .ref mm_howMany, .ref mm_rows, .ref mm_inPart, .ref mm_partCount, .ref mm_nf, .ref mm_nt, .ref mm_nw, .ref mm_nc, .int nm, .ref mm_column, .ref mm_next, .ref mm_inside, .ref mm_beside, .ref mm_solid, .ref mm_below, .ref mm_best, .ref mm_ways1, .ref mm_round, .ref mm_round2, .ref mm_label, .ref mm_bridge, .ref mm_outs, .ref mm_ins, .ref mm_least, .ref mm_spans, .ref mm_joinedWith, .ref mm_gone, .ref mm_dear, .ref mm_by, .ref mm_ahead, .ref mm_image]) fX12_142 tyX12 tyX12_ok nmX12 (by decide +kernel) (Or.inl rfl) dX12_arc_11 gc0 (Nat.le_of_ble_eq_true rfl) (rfl) (rfl) rfl (fun hp_1 h_2 ho_3 => ?_)
  refine r_iload_n (pc := 14) dX12_arc_14 (i := 1) rfl rfl ?_
  refine r_if_lt (pc := 15) (tgt := 64) dX12_arc_15 (by decide) (fun c9 => absurd c9 (h1.1)) (fun _ => ?_)
  refine r_iload_n (pc := 18) dX12_arc_18 (i := 1) rfl rfl ?_
  refine r_iload (pc := 19) dX12_arc_19 rfl ?_
  refine r_icmp_ge (pc := 21) (tgt := 64) dX12_arc_21 (by decide) (fun c9 => absurd c9 (h1.2)) (fun _ => ?_)
  refine r_iload_n (pc := 24) dX12_arc_24 (i := 2) rfl rfl ?_
  refine r_if_lt (pc := 25) (tgt := 64) dX12_arc_25 (by decide) (fun c9 => absurd c9 (h2.1)) (fun _ => ?_)
  refine r_iload_n (pc := 28) dX12_arc_28 (i := 2) rfl rfl ?_
  refine r_iload (pc := 29) dX12_arc_29 rfl ?_
  refine r_icmp_ge (pc := 31) (tgt := 64) dX12_arc_31 (by decide) (fun c9 => absurd c9 (h2.2)) (fun _ => ?_)
  refine r_iload_n (pc := 34) dX12_arc_34 (i := 3) rfl rfl ?_
  refine r_sipush (pc := 35) (v := (-1000)) dX12_arc_35 (by decide) ?_
  refine r_icmp_lt (pc := 38) (tgt := 64) dX12_arc_38 (by decide) (fun c9 => absurd c9 (h3.1)) (fun _ => ?_)
  refine r_iload_n (pc := 41) dX12_arc_41 (i := 3) rfl rfl ?_
  refine r_sipush (pc := 42) (v := 1000) dX12_arc_42 (by decide) ?_
  refine r_icmp_gt (pc := 45) (tgt := 64) dX12_arc_45 (by decide) (fun c9 => absurd c9 (h3.2)) (fun _ => ?_)
  refine r_iload (pc := 48) dX12_arc_48 rfl ?_
  refine r_sipush (pc := 50) (v := (-1000)) dX12_arc_50 (by decide) ?_
  refine r_icmp_lt (pc := 53) (tgt := 64) dX12_arc_53 (by decide) (fun c9 => absurd c9 (h4.1)) (fun _ => ?_)
  refine r_iload (pc := 56) dX12_arc_56 rfl ?_
  refine r_sipush (pc := 58) (v := 1000) dX12_arc_58 (by decide) ?_
  refine r_icmp_le (pc := 61) (tgt := 71) dX12_arc_61 (by decide) (fun _ => ?_) (fun c9 => absurd (Int32.not_lt.mp h4.2) c9)
  refine r_aload_n (pc := 71) dX12_arc_71 (i := 0) rfl rfl ?_
  refine r_get (pc := 72) (v := .ref mm_many) fX12_20 dX12_arc_72 h_2 rfl ?_
  refine r_bipush (pc := 75) (v := 120) dX12_arc_75 (by decide) ?_
  have h_4 : hp_1 mm_many = some (.inl (cI, 121, .inl (f3))) := ((ho_3 mm_many (ne_c gc5 gc0 (by intro h9; cases h9))).trans gc5)
  refine w_iald (pc := 77) (t0 := 0) (v := (nI k)) dX12_arc_77 rfl h_4 (by unfold vp_in; decide) (by rw [show (120 : Int32).toNatClampNeg = 120 from by decide]; exact hm) ?_
  refine r_bipush (pc := 78) (v := 60) dX12_arc_78 (by decide) ?_
  refine r_icmp_ne (pc := 80) (tgt := 90) dX12_arc_80 (by decide) (fun _ => ?_) (fun c9 => absurd (fun h9 => absurd ((nI_eq (b := 60) (by omega) (by omega)).mp h9) (by omega)) c9)
  refine r_aload_n (pc := 90) dX12_arc_90 (i := 0) rfl rfl ?_
  refine r_bipush (pc := 91) (v := (nI 120)) dX12_arc_91 (by decide) ?_
  refine r_iload_n (pc := 93) dX12_arc_93 (i := 1) rfl rfl ?_
  refine r_iload_n (pc := 94) dX12_arc_94 (i := 2) rfl rfl ?_
  refine r_iload_n (pc := 95) dX12_arc_95 (i := 3) rfl rfl ?_
  refine r_iload (pc := 96) dX12_arc_96 rfl ?_
  have h_8 : hp_1 mm_from = some (.inl (cI, 7260, .inl (g1))) := ((ho_3 mm_from (ne_c gc1 gc0 (by intro h9; cases h9))).trans gc1)
  have h_9 : hp_1 mm_to = some (.inl (cI, 7260, .inl (g2))) := ((ho_3 mm_to (ne_c gc2 gc0 (by intro h9; cases h9))).trans gc2)
  have h_10 : hp_1 mm_weight = some (.inl (cI, 7260, .inl (g3))) := ((ho_3 mm_weight (ne_c gc3 gc0 (by intro h9; cases h9))).trans gc3)
  have h_11 : hp_1 mm_cost = some (.inl (cI, 7260, .inl (g4))) := ((ho_3 mm_cost (ne_c gc4 gc0 (by intro h9; cases h9))).trans gc4)
  refine r_callV (pc := 98) (as := [.int ((nI 120)), .int p1, .int p2, .int p3, .int p4]) (st := []) kX12_161 rfl dX12_arc_98 h_2 (c_X12_add (d := d - 1) (y := y) (rf := 0) (cnt := cnt) (mm_sorts := mm_sorts) (mm_sizes := mm_sizes) (mm_directs := mm_directs) (mm_many := mm_many) (mm_from := mm_from) (mm_to := mm_to) (mm_weight := mm_weight) (mm_cost := mm_cost) (mm_numbers := mm_numbers) (mm_state := mm_state) (mm_worth := mm_worth) (mm_long1 := mm_long1) (mm_howMany := mm_howMany) (mm_rows := mm_rows) (mm_inPart := mm_inPart) (mm_partCount := mm_partCount) (mm_nf := mm_nf) (mm_nt := mm_nt) (mm_nw := mm_nw) (mm_nc := mm_nc) (nm := nm) (mm_column := mm_column) (mm_next := mm_next) (mm_inside := mm_inside) (mm_beside := mm_beside) (mm_solid := mm_solid) (mm_below := mm_below) (mm_best := mm_best) (mm_ways1 := mm_ways1) (mm_round := mm_round) (mm_round2 := mm_round2) (mm_label := mm_label) (mm_bridge := mm_bridge) (mm_outs := mm_outs) (mm_ins := mm_ins) (mm_least := mm_least) (mm_spans := mm_spans) (mm_joinedWith := mm_joinedWith) (mm_gone := mm_gone) (mm_dear := mm_dear) (mm_by := mm_by) (mm_ahead := mm_ahead) (mm_image := mm_image) (g := 120) (k := k) (p2 := p1) (g1 := g1) (p3 := p2) (g2 := g2) (p4 := p3) (g3 := g3) (p5 := p4) (g4 := g4) (f3 := f3) (by omega) h_2 h_8 h_9 h_10 h_11 h_4 (by omega) (by omega) (hm) (a01) (a02) (a03) (a04) (a12) (a13) (a14) (a23) (a24) (a34)) rfl (by omega) (Nat.le_of_ble_eq_true rfl) (by omega) (by omega) rfl (fun r9 hp_5 nn_6 hq_7 => ?_)
  obtain ⟨rfl, hq_7n, h_12, h_13, h_14, h_15, h_16, ho_17⟩ := hq_7
  subst nn_6
  change Rn _ _ _ 101 _ [] _ _ _ _ _
  refine r_aload_n (pc := 101) dX12_arc_101 (i := 0) rfl rfl ?_
  have h_18 : hp_5 y = some (.inr (11, [.int 0, .int cnt, .ref mm_sorts, .ref mm_sizes, .ref mm_directs, .ref mm_many, .ref mm_from, .ref mm_to, .ref mm_weight, .ref mm_cost, .ref mm_numbers, .ref mm_state, .ref mm_worth, .ref mm_long1, .ref mm_howMany, .ref mm_rows, .ref mm_inPart, .ref mm_partCount, .ref mm_nf, .ref mm_nt, .ref mm_nw, .ref mm_nc, .int nm, .ref mm_column, .ref mm_next, .ref mm_inside, .ref mm_beside, .ref mm_solid, .ref mm_below, .ref mm_best, .ref mm_ways1, .ref mm_round, .ref mm_round2, .ref mm_label, .ref mm_bridge, .ref mm_outs, .ref mm_ins, .ref mm_least, .ref mm_spans, .ref mm_joinedWith, .ref mm_gone, .ref mm_dear, .ref mm_by, .ref mm_ahead, .ref mm_image])) := (ho_17 y _ h_2 (ne_c gc0 gc1 (by intro h9; cases h9)) (ne_c gc0 gc2 (by intro h9; cases h9)) (ne_c gc0 gc3 (by intro h9; cases h9)) (ne_c gc0 gc4 (by intro h9; cases h9)) (ne_c gc0 gc5 (by intro h9; cases h9)))
  refine r_get (pc := 102) (v := .ref mm_many) fX12_20 dX12_arc_102 h_18 rfl ?_
  refine r_bipush (pc := 105) (v := 120) dX12_arc_105 (by decide) ?_
  refine w_iald (pc := 107) (t0 := 0) (v := (nI (k + 1))) dX12_arc_107 rfl h_16 (by unfold vp_in; decide) (by rw [show (120 : Int32).toNatClampNeg = 120 from by decide]; simp [upd]) ?_
  refine r_iconst (pc := 108) (v := 1) dX12_arc_108 (by decide) ?_
  refine r_isub (pc := 109) (v := (nI k)) dX12_arc_109 (nI_pred k) ?_
  exact r_iret (pc := 110) dX12_arc_110 rfl (⟨rfl, rfl, h_18, h_12, h_13, h_14, h_15, h_16, fun q e9 h9 n9_0 n9_1 n9_2 n9_3 n9_4 n9_5 => (ho_17 q e9 ((ho_3 q n9_0).trans h9) n9_1 n9_2 n9_3 n9_4 n9_5)⟩)
set_option maxHeartbeats 4000000 in
set_option maxRecDepth 100000 in
theorem c_X12_arc_full {D : va_G} {cI cJ cZ cT : ClassId} {lo b L : Nat} {xs : Nat → Int32} {hp : MH} {n d : Nat} {y mm_sorts mm_sizes mm_directs mm_many mm_from mm_to mm_weight mm_cost mm_numbers mm_state mm_worth mm_long1 mm_howMany mm_rows mm_inPart mm_partCount mm_nf mm_nt mm_nw mm_nc mm_column mm_next mm_inside mm_beside mm_solid mm_below mm_best mm_ways1 mm_round mm_round2 mm_label mm_bridge mm_outs mm_ins mm_least mm_spans mm_joinedWith mm_gone mm_dear mm_by mm_ahead mm_image : Nat} {rf cnt nm : Int32} {x0 p1 p2 p3 p4 : Int32} {f1 f3 : Nat → Int32} (hd0 : 1 ≤ d) (gc0 : hp y = some (.inr (11, [.int rf, .int cnt, .ref mm_sorts, .ref mm_sizes, .ref mm_directs, .ref mm_many, .ref mm_from, .ref mm_to, .ref mm_weight, .ref mm_cost, .ref mm_numbers, .ref mm_state, .ref mm_worth, .ref mm_long1, .ref mm_howMany, .ref mm_rows, .ref mm_inPart, .ref mm_partCount, .ref mm_nf, .ref mm_nt, .ref mm_nw, .ref mm_nc, .int nm, .ref mm_column, .ref mm_next, .ref mm_inside, .ref mm_beside, .ref mm_solid, .ref mm_below, .ref mm_best, .ref mm_ways1, .ref mm_round, .ref mm_round2, .ref mm_label, .ref mm_bridge, .ref mm_outs, .ref mm_ins, .ref mm_least, .ref mm_spans, .ref mm_joinedWith, .ref mm_gone, .ref mm_dear, .ref mm_by, .ref mm_ahead, .ref mm_image]))) (gc1 : hp mm_sizes = some (.inl (cI, 121, .inl (f1)))) (gc2 : hp mm_many = some (.inl (cI, 121, .inl (f3)))) (h1 : ¬ p1 < 0 ∧ ¬ x0 ≤ p1) (h2 : ¬ p2 < 0 ∧ ¬ x0 ≤ p2) (h3 : ¬ p3 < (-1000) ∧ ¬ 1000 < p3) (h4 : ¬ p4 < (-1000) ∧ ¬ 1000 < p4) (hm : f3 120 = nI 60) (hs : f1 120 = x0) : Mt (gG D cI cJ cZ cT lo b L xs) mX12_arc d 0 0 [.ref y, .int p1, .int p2, .int p3, .int p4] hp n (fun r hp1 n1 => r = some (.int ((-4))) ∧ n1 = n ∧ hp1 y = some (.inr (11, [.int ((-4)), .int cnt, .ref mm_sorts, .ref mm_sizes, .ref mm_directs, .ref mm_many, .ref mm_from, .ref mm_to, .ref mm_weight, .ref mm_cost, .ref mm_numbers, .ref mm_state, .ref mm_worth, .ref mm_long1, .ref mm_howMany, .ref mm_rows, .ref mm_inPart, .ref mm_partCount, .ref mm_nf, .ref mm_nt, .ref mm_nw, .ref mm_nc, .int nm, .ref mm_column, .ref mm_next, .ref mm_inside, .ref mm_beside, .ref mm_solid, .ref mm_below, .ref mm_best, .ref mm_ways1, .ref mm_round, .ref mm_round2, .ref mm_label, .ref mm_bridge, .ref mm_outs, .ref mm_ins, .ref mm_least, .ref mm_spans, .ref mm_joinedWith, .ref mm_gone, .ref mm_dear, .ref mm_by, .ref mm_ahead, .ref mm_image])) ∧ ∀ (q : Nat) (e9 : va_E), hp q = some e9 → q ≠ y → hp1 q = some e9) := by
  refine Mt.of rfl (Nat.le_of_ble_eq_true rfl) ?_
  refine Rn.pick (lv' := [(0, .ref y), (1, .int p1), (2, .int p2), (3, .int p3), (4, .int p4)]) [0, 1, 2, 3, 4] rfl ?_
  refine r_aload_n (pc := 0) dX12_arc_0 (i := 0) rfl rfl ?_
  refine r_get (pc := 1) (v := .ref mm_sizes) fX12_13 dX12_arc_1 gc0 rfl ?_
  refine r_bipush (pc := 4) (v := 120) dX12_arc_4 (by decide) ?_
  refine w_iald (pc := 6) (t0 := 0) (v := x0) dX12_arc_6 rfl gc1 (by unfold vp_in; decide) (by rw [show (120 : Int32).toNatClampNeg = 120 from by decide]; exact hs) ?_
  refine r_istore (pc := 7) (lv' := [(5, .int x0), (0, .ref y), (1, .int p1), (2, .int p2), (3, .int p3), (4, .int p4)]) dX12_arc_7 (by decide) rfl ?_
  refine r_aload_n (pc := 9) dX12_arc_9 (i := 0) rfl rfl ?_
  refine r_iconst (pc := 10) (v := 0) dX12_arc_10 (by decide) ?_
  refine w_put (pc := 11) (ty := .int) (fs' := [.int 0, .int cnt, .ref mm_sorts, .ref mm_sizes, .ref mm_directs, .ref mm_many, .ref mm_from, .ref mm_to, .ref mm_weight, .ref mm_cost, .ref mm_numbers, .ref mm_state, .ref mm_worth, .ref mm_long1, .ref mm_howMany, .ref mm_rows, .ref mm_inPart, .ref mm_partCount, .ref mm_nf, .ref mm_nt, .ref mm_nw, .ref mm_nc, .int nm, .ref mm_column, .ref mm_next, .ref mm_inside, .ref mm_beside, .ref mm_solid, .ref mm_below, .ref mm_best, .ref mm_ways1, .ref mm_round, .ref mm_round2, .ref mm_label, .ref mm_bridge, .ref mm_outs, .ref mm_ins, .ref mm_least, .ref mm_spans, .ref mm_joinedWith, .ref mm_gone, .ref mm_dear, .ref mm_by, .ref mm_ahead, .ref mm_image]) fX12_142 tyX12 tyX12_ok nmX12 (by decide +kernel) (Or.inl rfl) dX12_arc_11 gc0 (Nat.le_of_ble_eq_true rfl) (rfl) (rfl) rfl (fun hp_1 h_2 ho_3 => ?_)
  refine r_iload_n (pc := 14) dX12_arc_14 (i := 1) rfl rfl ?_
  refine r_if_lt (pc := 15) (tgt := 64) dX12_arc_15 (by decide) (fun c9 => absurd c9 (h1.1)) (fun _ => ?_)
  refine r_iload_n (pc := 18) dX12_arc_18 (i := 1) rfl rfl ?_
  refine r_iload (pc := 19) dX12_arc_19 rfl ?_
  refine r_icmp_ge (pc := 21) (tgt := 64) dX12_arc_21 (by decide) (fun c9 => absurd c9 (h1.2)) (fun _ => ?_)
  refine r_iload_n (pc := 24) dX12_arc_24 (i := 2) rfl rfl ?_
  refine r_if_lt (pc := 25) (tgt := 64) dX12_arc_25 (by decide) (fun c9 => absurd c9 (h2.1)) (fun _ => ?_)
  refine r_iload_n (pc := 28) dX12_arc_28 (i := 2) rfl rfl ?_
  refine r_iload (pc := 29) dX12_arc_29 rfl ?_
  refine r_icmp_ge (pc := 31) (tgt := 64) dX12_arc_31 (by decide) (fun c9 => absurd c9 (h2.2)) (fun _ => ?_)
  refine r_iload_n (pc := 34) dX12_arc_34 (i := 3) rfl rfl ?_
  refine r_sipush (pc := 35) (v := (-1000)) dX12_arc_35 (by decide) ?_
  refine r_icmp_lt (pc := 38) (tgt := 64) dX12_arc_38 (by decide) (fun c9 => absurd c9 (h3.1)) (fun _ => ?_)
  refine r_iload_n (pc := 41) dX12_arc_41 (i := 3) rfl rfl ?_
  refine r_sipush (pc := 42) (v := 1000) dX12_arc_42 (by decide) ?_
  refine r_icmp_gt (pc := 45) (tgt := 64) dX12_arc_45 (by decide) (fun c9 => absurd c9 (h3.2)) (fun _ => ?_)
  refine r_iload (pc := 48) dX12_arc_48 rfl ?_
  refine r_sipush (pc := 50) (v := (-1000)) dX12_arc_50 (by decide) ?_
  refine r_icmp_lt (pc := 53) (tgt := 64) dX12_arc_53 (by decide) (fun c9 => absurd c9 (h4.1)) (fun _ => ?_)
  refine r_iload (pc := 56) dX12_arc_56 rfl ?_
  refine r_sipush (pc := 58) (v := 1000) dX12_arc_58 (by decide) ?_
  refine r_icmp_le (pc := 61) (tgt := 71) dX12_arc_61 (by decide) (fun _ => ?_) (fun c9 => absurd (Int32.not_lt.mp h4.2) c9)
  refine r_aload_n (pc := 71) dX12_arc_71 (i := 0) rfl rfl ?_
  refine r_get (pc := 72) (v := .ref mm_many) fX12_20 dX12_arc_72 h_2 rfl ?_
  refine r_bipush (pc := 75) (v := 120) dX12_arc_75 (by decide) ?_
  have h_4 : hp_1 mm_many = some (.inl (cI, 121, .inl (f3))) := ((ho_3 mm_many (ne_c gc2 gc0 (by intro h9; cases h9))).trans gc2)
  refine w_iald (pc := 77) (t0 := 0) (v := (nI 60)) dX12_arc_77 rfl h_4 (by unfold vp_in; decide) (by rw [show (120 : Int32).toNatClampNeg = 120 from by decide]; exact hm) ?_
  refine r_bipush (pc := 78) (v := 60) dX12_arc_78 (by decide) ?_
  refine r_icmp_ne (pc := 80) (tgt := 90) dX12_arc_80 (by decide) (fun c9 => absurd c9 (fun h9 => h9 rfl)) (fun _ => ?_)
  refine r_aload_n (pc := 83) dX12_arc_83 (i := 0) rfl rfl ?_
  refine r_bipush (pc := 84) (v := (-4)) dX12_arc_84 (by decide) ?_
  refine r_callV (pc := 86) (as := [.int ((-4))]) (st := []) kX12_153 rfl dX12_arc_86 h_2 (c_X12_refuse (d := d - 1) (y := y) (rf := 0) (cnt := cnt) (mm_sorts := mm_sorts) (mm_sizes := mm_sizes) (mm_directs := mm_directs) (mm_many := mm_many) (mm_from := mm_from) (mm_to := mm_to) (mm_weight := mm_weight) (mm_cost := mm_cost) (mm_numbers := mm_numbers) (mm_state := mm_state) (mm_worth := mm_worth) (mm_long1 := mm_long1) (mm_howMany := mm_howMany) (mm_rows := mm_rows) (mm_inPart := mm_inPart) (mm_partCount := mm_partCount) (mm_nf := mm_nf) (mm_nt := mm_nt) (mm_nw := mm_nw) (mm_nc := mm_nc) (nm := nm) (mm_column := mm_column) (mm_next := mm_next) (mm_inside := mm_inside) (mm_beside := mm_beside) (mm_solid := mm_solid) (mm_below := mm_below) (mm_best := mm_best) (mm_ways1 := mm_ways1) (mm_round := mm_round) (mm_round2 := mm_round2) (mm_label := mm_label) (mm_bridge := mm_bridge) (mm_outs := mm_outs) (mm_ins := mm_ins) (mm_least := mm_least) (mm_spans := mm_spans) (mm_joinedWith := mm_joinedWith) (mm_gone := mm_gone) (mm_dear := mm_dear) (mm_by := mm_by) (mm_ahead := mm_ahead) (mm_image := mm_image) (p1 := (-4)) (by omega) h_2 ) rfl (by omega) (Nat.le_of_ble_eq_true rfl) (by omega) (by omega) rfl (fun r9 hp_5 nn_6 hq_7 => ?_)
  obtain ⟨rfl, hq_7n, h_8, ho_9⟩ := hq_7
  subst nn_6
  change Rn _ _ _ 89 _ [.int ((-4))] _ _ _ _ _
  exact r_iret (pc := 89) dX12_arc_89 rfl (⟨rfl, rfl, h_8, fun q e9 h9 n9_0 => (ho_9 q e9 ((ho_3 q n9_0).trans h9) n9_0)⟩)
set_option maxHeartbeats 4000000 in
set_option maxRecDepth 100000 in
theorem c_X12_arc_no {D : va_G} {cI cJ cZ cT : ClassId} {lo b L : Nat} {xs : Nat → Int32} {hp : MH} {n d : Nat} {y mm_sorts mm_sizes mm_directs mm_many mm_from mm_to mm_weight mm_cost mm_numbers mm_state mm_worth mm_long1 mm_howMany mm_rows mm_inPart mm_partCount mm_nf mm_nt mm_nw mm_nc mm_column mm_next mm_inside mm_beside mm_solid mm_below mm_best mm_ways1 mm_round mm_round2 mm_label mm_bridge mm_outs mm_ins mm_least mm_spans mm_joinedWith mm_gone mm_dear mm_by mm_ahead mm_image : Nat} {rf cnt nm : Int32} {x0 p1 p2 p3 p4 : Int32} {f1 : Nat → Int32} (hd0 : 1 ≤ d) (gc0 : hp y = some (.inr (11, [.int rf, .int cnt, .ref mm_sorts, .ref mm_sizes, .ref mm_directs, .ref mm_many, .ref mm_from, .ref mm_to, .ref mm_weight, .ref mm_cost, .ref mm_numbers, .ref mm_state, .ref mm_worth, .ref mm_long1, .ref mm_howMany, .ref mm_rows, .ref mm_inPart, .ref mm_partCount, .ref mm_nf, .ref mm_nt, .ref mm_nw, .ref mm_nc, .int nm, .ref mm_column, .ref mm_next, .ref mm_inside, .ref mm_beside, .ref mm_solid, .ref mm_below, .ref mm_best, .ref mm_ways1, .ref mm_round, .ref mm_round2, .ref mm_label, .ref mm_bridge, .ref mm_outs, .ref mm_ins, .ref mm_least, .ref mm_spans, .ref mm_joinedWith, .ref mm_gone, .ref mm_dear, .ref mm_by, .ref mm_ahead, .ref mm_image]))) (gc1 : hp mm_sizes = some (.inl (cI, 121, .inl (f1)))) (hno : ¬ ((¬ p1 < 0 ∧ ¬ x0 ≤ p1) ∧ (¬ p2 < 0 ∧ ¬ x0 ≤ p2) ∧ (¬ p3 < (-1000) ∧ ¬ 1000 < p3) ∧ (¬ p4 < (-1000) ∧ ¬ 1000 < p4))) (hs : f1 120 = x0) : Mt (gG D cI cJ cZ cT lo b L xs) mX12_arc d 0 0 [.ref y, .int p1, .int p2, .int p3, .int p4] hp n (fun r hp1 n1 => r = some (.int ((-3))) ∧ n1 = n ∧ hp1 y = some (.inr (11, [.int ((-3)), .int cnt, .ref mm_sorts, .ref mm_sizes, .ref mm_directs, .ref mm_many, .ref mm_from, .ref mm_to, .ref mm_weight, .ref mm_cost, .ref mm_numbers, .ref mm_state, .ref mm_worth, .ref mm_long1, .ref mm_howMany, .ref mm_rows, .ref mm_inPart, .ref mm_partCount, .ref mm_nf, .ref mm_nt, .ref mm_nw, .ref mm_nc, .int nm, .ref mm_column, .ref mm_next, .ref mm_inside, .ref mm_beside, .ref mm_solid, .ref mm_below, .ref mm_best, .ref mm_ways1, .ref mm_round, .ref mm_round2, .ref mm_label, .ref mm_bridge, .ref mm_outs, .ref mm_ins, .ref mm_least, .ref mm_spans, .ref mm_joinedWith, .ref mm_gone, .ref mm_dear, .ref mm_by, .ref mm_ahead, .ref mm_image])) ∧ ∀ (q : Nat) (e9 : va_E), hp q = some e9 → q ≠ y → hp1 q = some e9) := by
  refine Mt.of rfl (Nat.le_of_ble_eq_true rfl) ?_
  refine Rn.pick (lv' := [(0, .ref y), (1, .int p1), (2, .int p2), (3, .int p3), (4, .int p4)]) [0, 1, 2, 3, 4] rfl ?_
  refine r_aload_n (pc := 0) dX12_arc_0 (i := 0) rfl rfl ?_
  refine r_get (pc := 1) (v := .ref mm_sizes) fX12_13 dX12_arc_1 gc0 rfl ?_
  refine r_bipush (pc := 4) (v := 120) dX12_arc_4 (by decide) ?_
  refine w_iald (pc := 6) (t0 := 0) (v := x0) dX12_arc_6 rfl gc1 (by unfold vp_in; decide) (by rw [show (120 : Int32).toNatClampNeg = 120 from by decide]; exact hs) ?_
  refine r_istore (pc := 7) (lv' := [(5, .int x0), (0, .ref y), (1, .int p1), (2, .int p2), (3, .int p3), (4, .int p4)]) dX12_arc_7 (by decide) rfl ?_
  refine r_aload_n (pc := 9) dX12_arc_9 (i := 0) rfl rfl ?_
  refine r_iconst (pc := 10) (v := 0) dX12_arc_10 (by decide) ?_
  refine w_put (pc := 11) (ty := .int) (fs' := [.int 0, .int cnt, .ref mm_sorts, .ref mm_sizes, .ref mm_directs, .ref mm_many, .ref mm_from, .ref mm_to, .ref mm_weight, .ref mm_cost, .ref mm_numbers, .ref mm_state, .ref mm_worth, .ref mm_long1, .ref mm_howMany, .ref mm_rows, .ref mm_inPart, .ref mm_partCount, .ref mm_nf, .ref mm_nt, .ref mm_nw, .ref mm_nc, .int nm, .ref mm_column, .ref mm_next, .ref mm_inside, .ref mm_beside, .ref mm_solid, .ref mm_below, .ref mm_best, .ref mm_ways1, .ref mm_round, .ref mm_round2, .ref mm_label, .ref mm_bridge, .ref mm_outs, .ref mm_ins, .ref mm_least, .ref mm_spans, .ref mm_joinedWith, .ref mm_gone, .ref mm_dear, .ref mm_by, .ref mm_ahead, .ref mm_image]) fX12_142 tyX12 tyX12_ok nmX12 (by decide +kernel) (Or.inl rfl) dX12_arc_11 gc0 (Nat.le_of_ble_eq_true rfl) (rfl) (rfl) rfl (fun hp_1 h_2 ho_3 => ?_)
  refine r_iload_n (pc := 14) dX12_arc_14 (i := 1) rfl rfl ?_
  refine r_if_lt (pc := 15) (tgt := 64) dX12_arc_15 (by decide) (fun c15 => ?_) (fun c15 => ?_)
  · refine r_aload_n (pc := 64) dX12_arc_64 (i := 0) rfl rfl ?_
    refine r_bipush (pc := 65) (v := (-3)) dX12_arc_65 (by decide) ?_
    refine r_callV (pc := 67) (as := [.int ((-3))]) (st := []) kX12_153 rfl dX12_arc_67 h_2 (c_X12_refuse (d := d - 1) (y := y) (rf := 0) (cnt := cnt) (mm_sorts := mm_sorts) (mm_sizes := mm_sizes) (mm_directs := mm_directs) (mm_many := mm_many) (mm_from := mm_from) (mm_to := mm_to) (mm_weight := mm_weight) (mm_cost := mm_cost) (mm_numbers := mm_numbers) (mm_state := mm_state) (mm_worth := mm_worth) (mm_long1 := mm_long1) (mm_howMany := mm_howMany) (mm_rows := mm_rows) (mm_inPart := mm_inPart) (mm_partCount := mm_partCount) (mm_nf := mm_nf) (mm_nt := mm_nt) (mm_nw := mm_nw) (mm_nc := mm_nc) (nm := nm) (mm_column := mm_column) (mm_next := mm_next) (mm_inside := mm_inside) (mm_beside := mm_beside) (mm_solid := mm_solid) (mm_below := mm_below) (mm_best := mm_best) (mm_ways1 := mm_ways1) (mm_round := mm_round) (mm_round2 := mm_round2) (mm_label := mm_label) (mm_bridge := mm_bridge) (mm_outs := mm_outs) (mm_ins := mm_ins) (mm_least := mm_least) (mm_spans := mm_spans) (mm_joinedWith := mm_joinedWith) (mm_gone := mm_gone) (mm_dear := mm_dear) (mm_by := mm_by) (mm_ahead := mm_ahead) (mm_image := mm_image) (p1 := (-3)) (by omega) h_2 ) rfl (by omega) (Nat.le_of_ble_eq_true rfl) (by omega) (by omega) rfl (fun r9 hp_4 nn_5 hq_6 => ?_)
    obtain ⟨rfl, hq_6n, h_7, ho_8⟩ := hq_6
    subst nn_5
    change Rn _ _ _ 70 _ [.int ((-3))] _ _ _ _ _
    exact r_iret (pc := 70) dX12_arc_70 rfl (⟨rfl, rfl, h_7, fun q e9 h9 n9_0 => (ho_8 q e9 ((ho_3 q n9_0).trans h9) n9_0)⟩)
  · refine r_iload_n (pc := 18) dX12_arc_18 (i := 1) rfl rfl ?_
    refine r_iload (pc := 19) dX12_arc_19 rfl ?_
    refine r_icmp_ge (pc := 21) (tgt := 64) dX12_arc_21 (by decide) (fun c21 => ?_) (fun c21 => ?_)
    · refine r_aload_n (pc := 64) dX12_arc_64 (i := 0) rfl rfl ?_
      refine r_bipush (pc := 65) (v := (-3)) dX12_arc_65 (by decide) ?_
      refine r_callV (pc := 67) (as := [.int ((-3))]) (st := []) kX12_153 rfl dX12_arc_67 h_2 (c_X12_refuse (d := d - 1) (y := y) (rf := 0) (cnt := cnt) (mm_sorts := mm_sorts) (mm_sizes := mm_sizes) (mm_directs := mm_directs) (mm_many := mm_many) (mm_from := mm_from) (mm_to := mm_to) (mm_weight := mm_weight) (mm_cost := mm_cost) (mm_numbers := mm_numbers) (mm_state := mm_state) (mm_worth := mm_worth) (mm_long1 := mm_long1) (mm_howMany := mm_howMany) (mm_rows := mm_rows) (mm_inPart := mm_inPart) (mm_partCount := mm_partCount) (mm_nf := mm_nf) (mm_nt := mm_nt) (mm_nw := mm_nw) (mm_nc := mm_nc) (nm := nm) (mm_column := mm_column) (mm_next := mm_next) (mm_inside := mm_inside) (mm_beside := mm_beside) (mm_solid := mm_solid) (mm_below := mm_below) (mm_best := mm_best) (mm_ways1 := mm_ways1) (mm_round := mm_round) (mm_round2 := mm_round2) (mm_label := mm_label) (mm_bridge := mm_bridge) (mm_outs := mm_outs) (mm_ins := mm_ins) (mm_least := mm_least) (mm_spans := mm_spans) (mm_joinedWith := mm_joinedWith) (mm_gone := mm_gone) (mm_dear := mm_dear) (mm_by := mm_by) (mm_ahead := mm_ahead) (mm_image := mm_image) (p1 := (-3)) (by omega) h_2 ) rfl (by omega) (Nat.le_of_ble_eq_true rfl) (by omega) (by omega) rfl (fun r9 hp_9 nn_10 hq_11 => ?_)
      obtain ⟨rfl, hq_11n, h_12, ho_13⟩ := hq_11
      subst nn_10
      change Rn _ _ _ 70 _ [.int ((-3))] _ _ _ _ _
      exact r_iret (pc := 70) dX12_arc_70 rfl (⟨rfl, rfl, h_12, fun q e9 h9 n9_0 => (ho_13 q e9 ((ho_3 q n9_0).trans h9) n9_0)⟩)
    · refine r_iload_n (pc := 24) dX12_arc_24 (i := 2) rfl rfl ?_
      refine r_if_lt (pc := 25) (tgt := 64) dX12_arc_25 (by decide) (fun c25 => ?_) (fun c25 => ?_)
      · refine r_aload_n (pc := 64) dX12_arc_64 (i := 0) rfl rfl ?_
        refine r_bipush (pc := 65) (v := (-3)) dX12_arc_65 (by decide) ?_
        refine r_callV (pc := 67) (as := [.int ((-3))]) (st := []) kX12_153 rfl dX12_arc_67 h_2 (c_X12_refuse (d := d - 1) (y := y) (rf := 0) (cnt := cnt) (mm_sorts := mm_sorts) (mm_sizes := mm_sizes) (mm_directs := mm_directs) (mm_many := mm_many) (mm_from := mm_from) (mm_to := mm_to) (mm_weight := mm_weight) (mm_cost := mm_cost) (mm_numbers := mm_numbers) (mm_state := mm_state) (mm_worth := mm_worth) (mm_long1 := mm_long1) (mm_howMany := mm_howMany) (mm_rows := mm_rows) (mm_inPart := mm_inPart) (mm_partCount := mm_partCount) (mm_nf := mm_nf) (mm_nt := mm_nt) (mm_nw := mm_nw) (mm_nc := mm_nc) (nm := nm) (mm_column := mm_column) (mm_next := mm_next) (mm_inside := mm_inside) (mm_beside := mm_beside) (mm_solid := mm_solid) (mm_below := mm_below) (mm_best := mm_best) (mm_ways1 := mm_ways1) (mm_round := mm_round) (mm_round2 := mm_round2) (mm_label := mm_label) (mm_bridge := mm_bridge) (mm_outs := mm_outs) (mm_ins := mm_ins) (mm_least := mm_least) (mm_spans := mm_spans) (mm_joinedWith := mm_joinedWith) (mm_gone := mm_gone) (mm_dear := mm_dear) (mm_by := mm_by) (mm_ahead := mm_ahead) (mm_image := mm_image) (p1 := (-3)) (by omega) h_2 ) rfl (by omega) (Nat.le_of_ble_eq_true rfl) (by omega) (by omega) rfl (fun r9 hp_14 nn_15 hq_16 => ?_)
        obtain ⟨rfl, hq_16n, h_17, ho_18⟩ := hq_16
        subst nn_15
        change Rn _ _ _ 70 _ [.int ((-3))] _ _ _ _ _
        exact r_iret (pc := 70) dX12_arc_70 rfl (⟨rfl, rfl, h_17, fun q e9 h9 n9_0 => (ho_18 q e9 ((ho_3 q n9_0).trans h9) n9_0)⟩)
      · refine r_iload_n (pc := 28) dX12_arc_28 (i := 2) rfl rfl ?_
        refine r_iload (pc := 29) dX12_arc_29 rfl ?_
        refine r_icmp_ge (pc := 31) (tgt := 64) dX12_arc_31 (by decide) (fun c31 => ?_) (fun c31 => ?_)
        · refine r_aload_n (pc := 64) dX12_arc_64 (i := 0) rfl rfl ?_
          refine r_bipush (pc := 65) (v := (-3)) dX12_arc_65 (by decide) ?_
          refine r_callV (pc := 67) (as := [.int ((-3))]) (st := []) kX12_153 rfl dX12_arc_67 h_2 (c_X12_refuse (d := d - 1) (y := y) (rf := 0) (cnt := cnt) (mm_sorts := mm_sorts) (mm_sizes := mm_sizes) (mm_directs := mm_directs) (mm_many := mm_many) (mm_from := mm_from) (mm_to := mm_to) (mm_weight := mm_weight) (mm_cost := mm_cost) (mm_numbers := mm_numbers) (mm_state := mm_state) (mm_worth := mm_worth) (mm_long1 := mm_long1) (mm_howMany := mm_howMany) (mm_rows := mm_rows) (mm_inPart := mm_inPart) (mm_partCount := mm_partCount) (mm_nf := mm_nf) (mm_nt := mm_nt) (mm_nw := mm_nw) (mm_nc := mm_nc) (nm := nm) (mm_column := mm_column) (mm_next := mm_next) (mm_inside := mm_inside) (mm_beside := mm_beside) (mm_solid := mm_solid) (mm_below := mm_below) (mm_best := mm_best) (mm_ways1 := mm_ways1) (mm_round := mm_round) (mm_round2 := mm_round2) (mm_label := mm_label) (mm_bridge := mm_bridge) (mm_outs := mm_outs) (mm_ins := mm_ins) (mm_least := mm_least) (mm_spans := mm_spans) (mm_joinedWith := mm_joinedWith) (mm_gone := mm_gone) (mm_dear := mm_dear) (mm_by := mm_by) (mm_ahead := mm_ahead) (mm_image := mm_image) (p1 := (-3)) (by omega) h_2 ) rfl (by omega) (Nat.le_of_ble_eq_true rfl) (by omega) (by omega) rfl (fun r9 hp_19 nn_20 hq_21 => ?_)
          obtain ⟨rfl, hq_21n, h_22, ho_23⟩ := hq_21
          subst nn_20
          change Rn _ _ _ 70 _ [.int ((-3))] _ _ _ _ _
          exact r_iret (pc := 70) dX12_arc_70 rfl (⟨rfl, rfl, h_22, fun q e9 h9 n9_0 => (ho_23 q e9 ((ho_3 q n9_0).trans h9) n9_0)⟩)
        · refine r_iload_n (pc := 34) dX12_arc_34 (i := 3) rfl rfl ?_
          refine r_sipush (pc := 35) (v := (-1000)) dX12_arc_35 (by decide) ?_
          refine r_icmp_lt (pc := 38) (tgt := 64) dX12_arc_38 (by decide) (fun c38 => ?_) (fun c38 => ?_)
          · refine r_aload_n (pc := 64) dX12_arc_64 (i := 0) rfl rfl ?_
            refine r_bipush (pc := 65) (v := (-3)) dX12_arc_65 (by decide) ?_
            refine r_callV (pc := 67) (as := [.int ((-3))]) (st := []) kX12_153 rfl dX12_arc_67 h_2 (c_X12_refuse (d := d - 1) (y := y) (rf := 0) (cnt := cnt) (mm_sorts := mm_sorts) (mm_sizes := mm_sizes) (mm_directs := mm_directs) (mm_many := mm_many) (mm_from := mm_from) (mm_to := mm_to) (mm_weight := mm_weight) (mm_cost := mm_cost) (mm_numbers := mm_numbers) (mm_state := mm_state) (mm_worth := mm_worth) (mm_long1 := mm_long1) (mm_howMany := mm_howMany) (mm_rows := mm_rows) (mm_inPart := mm_inPart) (mm_partCount := mm_partCount) (mm_nf := mm_nf) (mm_nt := mm_nt) (mm_nw := mm_nw) (mm_nc := mm_nc) (nm := nm) (mm_column := mm_column) (mm_next := mm_next) (mm_inside := mm_inside) (mm_beside := mm_beside) (mm_solid := mm_solid) (mm_below := mm_below) (mm_best := mm_best) (mm_ways1 := mm_ways1) (mm_round := mm_round) (mm_round2 := mm_round2) (mm_label := mm_label) (mm_bridge := mm_bridge) (mm_outs := mm_outs) (mm_ins := mm_ins) (mm_least := mm_least) (mm_spans := mm_spans) (mm_joinedWith := mm_joinedWith) (mm_gone := mm_gone) (mm_dear := mm_dear) (mm_by := mm_by) (mm_ahead := mm_ahead) (mm_image := mm_image) (p1 := (-3)) (by omega) h_2 ) rfl (by omega) (Nat.le_of_ble_eq_true rfl) (by omega) (by omega) rfl (fun r9 hp_24 nn_25 hq_26 => ?_)
            obtain ⟨rfl, hq_26n, h_27, ho_28⟩ := hq_26
            subst nn_25
            change Rn _ _ _ 70 _ [.int ((-3))] _ _ _ _ _
            exact r_iret (pc := 70) dX12_arc_70 rfl (⟨rfl, rfl, h_27, fun q e9 h9 n9_0 => (ho_28 q e9 ((ho_3 q n9_0).trans h9) n9_0)⟩)
          · refine r_iload_n (pc := 41) dX12_arc_41 (i := 3) rfl rfl ?_
            refine r_sipush (pc := 42) (v := 1000) dX12_arc_42 (by decide) ?_
            refine r_icmp_gt (pc := 45) (tgt := 64) dX12_arc_45 (by decide) (fun c45 => ?_) (fun c45 => ?_)
            · refine r_aload_n (pc := 64) dX12_arc_64 (i := 0) rfl rfl ?_
              refine r_bipush (pc := 65) (v := (-3)) dX12_arc_65 (by decide) ?_
              refine r_callV (pc := 67) (as := [.int ((-3))]) (st := []) kX12_153 rfl dX12_arc_67 h_2 (c_X12_refuse (d := d - 1) (y := y) (rf := 0) (cnt := cnt) (mm_sorts := mm_sorts) (mm_sizes := mm_sizes) (mm_directs := mm_directs) (mm_many := mm_many) (mm_from := mm_from) (mm_to := mm_to) (mm_weight := mm_weight) (mm_cost := mm_cost) (mm_numbers := mm_numbers) (mm_state := mm_state) (mm_worth := mm_worth) (mm_long1 := mm_long1) (mm_howMany := mm_howMany) (mm_rows := mm_rows) (mm_inPart := mm_inPart) (mm_partCount := mm_partCount) (mm_nf := mm_nf) (mm_nt := mm_nt) (mm_nw := mm_nw) (mm_nc := mm_nc) (nm := nm) (mm_column := mm_column) (mm_next := mm_next) (mm_inside := mm_inside) (mm_beside := mm_beside) (mm_solid := mm_solid) (mm_below := mm_below) (mm_best := mm_best) (mm_ways1 := mm_ways1) (mm_round := mm_round) (mm_round2 := mm_round2) (mm_label := mm_label) (mm_bridge := mm_bridge) (mm_outs := mm_outs) (mm_ins := mm_ins) (mm_least := mm_least) (mm_spans := mm_spans) (mm_joinedWith := mm_joinedWith) (mm_gone := mm_gone) (mm_dear := mm_dear) (mm_by := mm_by) (mm_ahead := mm_ahead) (mm_image := mm_image) (p1 := (-3)) (by omega) h_2 ) rfl (by omega) (Nat.le_of_ble_eq_true rfl) (by omega) (by omega) rfl (fun r9 hp_29 nn_30 hq_31 => ?_)
              obtain ⟨rfl, hq_31n, h_32, ho_33⟩ := hq_31
              subst nn_30
              change Rn _ _ _ 70 _ [.int ((-3))] _ _ _ _ _
              exact r_iret (pc := 70) dX12_arc_70 rfl (⟨rfl, rfl, h_32, fun q e9 h9 n9_0 => (ho_33 q e9 ((ho_3 q n9_0).trans h9) n9_0)⟩)
            · refine r_iload (pc := 48) dX12_arc_48 rfl ?_
              refine r_sipush (pc := 50) (v := (-1000)) dX12_arc_50 (by decide) ?_
              refine r_icmp_lt (pc := 53) (tgt := 64) dX12_arc_53 (by decide) (fun c53 => ?_) (fun c53 => ?_)
              · refine r_aload_n (pc := 64) dX12_arc_64 (i := 0) rfl rfl ?_
                refine r_bipush (pc := 65) (v := (-3)) dX12_arc_65 (by decide) ?_
                refine r_callV (pc := 67) (as := [.int ((-3))]) (st := []) kX12_153 rfl dX12_arc_67 h_2 (c_X12_refuse (d := d - 1) (y := y) (rf := 0) (cnt := cnt) (mm_sorts := mm_sorts) (mm_sizes := mm_sizes) (mm_directs := mm_directs) (mm_many := mm_many) (mm_from := mm_from) (mm_to := mm_to) (mm_weight := mm_weight) (mm_cost := mm_cost) (mm_numbers := mm_numbers) (mm_state := mm_state) (mm_worth := mm_worth) (mm_long1 := mm_long1) (mm_howMany := mm_howMany) (mm_rows := mm_rows) (mm_inPart := mm_inPart) (mm_partCount := mm_partCount) (mm_nf := mm_nf) (mm_nt := mm_nt) (mm_nw := mm_nw) (mm_nc := mm_nc) (nm := nm) (mm_column := mm_column) (mm_next := mm_next) (mm_inside := mm_inside) (mm_beside := mm_beside) (mm_solid := mm_solid) (mm_below := mm_below) (mm_best := mm_best) (mm_ways1 := mm_ways1) (mm_round := mm_round) (mm_round2 := mm_round2) (mm_label := mm_label) (mm_bridge := mm_bridge) (mm_outs := mm_outs) (mm_ins := mm_ins) (mm_least := mm_least) (mm_spans := mm_spans) (mm_joinedWith := mm_joinedWith) (mm_gone := mm_gone) (mm_dear := mm_dear) (mm_by := mm_by) (mm_ahead := mm_ahead) (mm_image := mm_image) (p1 := (-3)) (by omega) h_2 ) rfl (by omega) (Nat.le_of_ble_eq_true rfl) (by omega) (by omega) rfl (fun r9 hp_34 nn_35 hq_36 => ?_)
                obtain ⟨rfl, hq_36n, h_37, ho_38⟩ := hq_36
                subst nn_35
                change Rn _ _ _ 70 _ [.int ((-3))] _ _ _ _ _
                exact r_iret (pc := 70) dX12_arc_70 rfl (⟨rfl, rfl, h_37, fun q e9 h9 n9_0 => (ho_38 q e9 ((ho_3 q n9_0).trans h9) n9_0)⟩)
              · refine r_iload (pc := 56) dX12_arc_56 rfl ?_
                refine r_sipush (pc := 58) (v := 1000) dX12_arc_58 (by decide) ?_
                refine r_icmp_le (pc := 61) (tgt := 71) dX12_arc_61 (by decide) (fun c61 => ?_) (fun c61 => ?_)
                · exact absurd ⟨⟨c15, c21⟩, ⟨c25, c31⟩, ⟨c38, c45⟩, ⟨c53, Int32.not_lt.mpr c61⟩⟩ hno
                · refine r_aload_n (pc := 64) dX12_arc_64 (i := 0) rfl rfl ?_
                  refine r_bipush (pc := 65) (v := (-3)) dX12_arc_65 (by decide) ?_
                  refine r_callV (pc := 67) (as := [.int ((-3))]) (st := []) kX12_153 rfl dX12_arc_67 h_2 (c_X12_refuse (d := d - 1) (y := y) (rf := 0) (cnt := cnt) (mm_sorts := mm_sorts) (mm_sizes := mm_sizes) (mm_directs := mm_directs) (mm_many := mm_many) (mm_from := mm_from) (mm_to := mm_to) (mm_weight := mm_weight) (mm_cost := mm_cost) (mm_numbers := mm_numbers) (mm_state := mm_state) (mm_worth := mm_worth) (mm_long1 := mm_long1) (mm_howMany := mm_howMany) (mm_rows := mm_rows) (mm_inPart := mm_inPart) (mm_partCount := mm_partCount) (mm_nf := mm_nf) (mm_nt := mm_nt) (mm_nw := mm_nw) (mm_nc := mm_nc) (nm := nm) (mm_column := mm_column) (mm_next := mm_next) (mm_inside := mm_inside) (mm_beside := mm_beside) (mm_solid := mm_solid) (mm_below := mm_below) (mm_best := mm_best) (mm_ways1 := mm_ways1) (mm_round := mm_round) (mm_round2 := mm_round2) (mm_label := mm_label) (mm_bridge := mm_bridge) (mm_outs := mm_outs) (mm_ins := mm_ins) (mm_least := mm_least) (mm_spans := mm_spans) (mm_joinedWith := mm_joinedWith) (mm_gone := mm_gone) (mm_dear := mm_dear) (mm_by := mm_by) (mm_ahead := mm_ahead) (mm_image := mm_image) (p1 := (-3)) (by omega) h_2 ) rfl (by omega) (Nat.le_of_ble_eq_true rfl) (by omega) (by omega) rfl (fun r9 hp_39 nn_40 hq_41 => ?_)
                  obtain ⟨rfl, hq_41n, h_42, ho_43⟩ := hq_41
                  subst nn_40
                  change Rn _ _ _ 70 _ [.int ((-3))] _ _ _ _ _
                  exact r_iret (pc := 70) dX12_arc_70 rfl (⟨rfl, rfl, h_42, fun q e9 h9 n9_0 => (ho_43 q e9 ((ho_3 q n9_0).trans h9) n9_0)⟩)
set_option maxHeartbeats 4000000 in
set_option maxRecDepth 100000 in
theorem c_X12_keep {D : va_G} {cI cJ cZ cT : ClassId} {lo b L : Nat} {xs : Nat → Int32} {hp : MH} {n d : Nat} {y mm_sorts mm_sizes mm_directs mm_many mm_from mm_to mm_weight mm_cost mm_numbers mm_state mm_worth mm_long1 mm_howMany mm_rows mm_inPart mm_partCount mm_nf mm_nt mm_nw mm_nc mm_column mm_next mm_inside mm_beside mm_solid mm_below mm_best mm_ways1 mm_round mm_round2 mm_label mm_bridge mm_outs mm_ins mm_least mm_spans mm_joinedWith mm_gone mm_dear mm_by mm_ahead mm_image : Nat} {rf nm p1 : Int32} {i : Nat} {f0 : Nat → Int32} (hd0 : 0 ≤ d) (gc0 : hp y = some (.inr (11, [.int rf, .int ((nI i)), .ref mm_sorts, .ref mm_sizes, .ref mm_directs, .ref mm_many, .ref mm_from, .ref mm_to, .ref mm_weight, .ref mm_cost, .ref mm_numbers, .ref mm_state, .ref mm_worth, .ref mm_long1, .ref mm_howMany, .ref mm_rows, .ref mm_inPart, .ref mm_partCount, .ref mm_nf, .ref mm_nt, .ref mm_nw, .ref mm_nc, .int nm, .ref mm_column, .ref mm_next, .ref mm_inside, .ref mm_beside, .ref mm_solid, .ref mm_below, .ref mm_best, .ref mm_ways1, .ref mm_round, .ref mm_round2, .ref mm_label, .ref mm_bridge, .ref mm_outs, .ref mm_ins, .ref mm_least, .ref mm_spans, .ref mm_joinedWith, .ref mm_gone, .ref mm_dear, .ref mm_by, .ref mm_ahead, .ref mm_image]))) (gc1 : hp mm_sorts = some (.inl (cI, 121, .inl (f0)))) (hi : i < 120) : Mt (gG D cI cJ cZ cT lo b L xs) mX12_keep d 0 0 [.ref y, .int p1] hp n (fun r hp1 n1 => r = some (.int ((nI i))) ∧ n1 = n ∧ hp1 y = some (.inr (11, [.int rf, .int ((nI (i + 1))), .ref mm_sorts, .ref mm_sizes, .ref mm_directs, .ref mm_many, .ref mm_from, .ref mm_to, .ref mm_weight, .ref mm_cost, .ref mm_numbers, .ref mm_state, .ref mm_worth, .ref mm_long1, .ref mm_howMany, .ref mm_rows, .ref mm_inPart, .ref mm_partCount, .ref mm_nf, .ref mm_nt, .ref mm_nw, .ref mm_nc, .int nm, .ref mm_column, .ref mm_next, .ref mm_inside, .ref mm_beside, .ref mm_solid, .ref mm_below, .ref mm_best, .ref mm_ways1, .ref mm_round, .ref mm_round2, .ref mm_label, .ref mm_bridge, .ref mm_outs, .ref mm_ins, .ref mm_least, .ref mm_spans, .ref mm_joinedWith, .ref mm_gone, .ref mm_dear, .ref mm_by, .ref mm_ahead, .ref mm_image])) ∧ hp1 mm_sorts = some (.inl (cI, 121, .inl (upd f0 i p1))) ∧ ∀ (q : Nat) (e9 : va_E), hp q = some e9 → q ≠ y → q ≠ mm_sorts → hp1 q = some e9) := by
  refine Mt.of rfl (Nat.le_of_ble_eq_true rfl) ?_
  refine Rn.pick (lv' := [(0, .ref y), (1, .int p1)]) [0, 1] rfl ?_
  refine r_aload_n (pc := 0) dX12_keep_0 (i := 0) rfl rfl ?_
  refine r_get (pc := 1) (v := .int ((nI i))) fX12_146 dX12_keep_1 gc0 rfl ?_
  refine r_bipush (pc := 4) (v := 120) dX12_keep_4 (by decide) ?_
  refine r_icmp_ne (pc := 6) (tgt := 16) dX12_keep_6 (by decide) (fun _ => ?_) (fun c9 => absurd (fun h9 => absurd ((nI_eq (b := 120) (by omega) (by omega)).mp h9) (by omega)) c9)
  refine r_aload_n (pc := 16) dX12_keep_16 (i := 0) rfl rfl ?_
  refine r_get (pc := 17) (v := .ref mm_sorts) fX12_7 dX12_keep_17 gc0 rfl ?_
  refine r_aload_n (pc := 20) dX12_keep_20 (i := 0) rfl rfl ?_
  refine r_get (pc := 21) (v := .int ((nI i))) fX12_146 dX12_keep_21 gc0 rfl ?_
  refine r_iload_n (pc := 24) dX12_keep_24 (i := 1) rfl rfl ?_
  refine w_iast (pc := 25) (t0 := 0) (f' := upd f0 i p1) dX12_keep_25 rfl gc1 (vp_in_nI (by omega) (by omega)) (by rw [nI_clamp (by omega)]) (fun hp_1 h_2 ho_3 => ?_)
  refine r_aload_n (pc := 26) dX12_keep_26 (i := 0) rfl rfl ?_
  refine r_dup (pc := 27) dX12_keep_27 rfl ?_
  have h_4 : hp_1 y = some (.inr (11, [.int rf, .int ((nI i)), .ref mm_sorts, .ref mm_sizes, .ref mm_directs, .ref mm_many, .ref mm_from, .ref mm_to, .ref mm_weight, .ref mm_cost, .ref mm_numbers, .ref mm_state, .ref mm_worth, .ref mm_long1, .ref mm_howMany, .ref mm_rows, .ref mm_inPart, .ref mm_partCount, .ref mm_nf, .ref mm_nt, .ref mm_nw, .ref mm_nc, .int nm, .ref mm_column, .ref mm_next, .ref mm_inside, .ref mm_beside, .ref mm_solid, .ref mm_below, .ref mm_best, .ref mm_ways1, .ref mm_round, .ref mm_round2, .ref mm_label, .ref mm_bridge, .ref mm_outs, .ref mm_ins, .ref mm_least, .ref mm_spans, .ref mm_joinedWith, .ref mm_gone, .ref mm_dear, .ref mm_by, .ref mm_ahead, .ref mm_image])) := ((ho_3 y (ne_c gc0 gc1 (by intro h9; cases h9))).trans gc0)
  refine r_get (pc := 28) (v := .int ((nI i))) fX12_146 dX12_keep_28 h_4 rfl ?_
  refine r_iconst (pc := 31) (v := 1) dX12_keep_31 (by decide) ?_
  refine r_iadd (pc := 32) (v := (nI (i + 1))) dX12_keep_32 (nI_1 i) ?_
  refine w_put (pc := 33) (ty := .int) (fs' := [.int rf, .int ((nI (i + 1))), .ref mm_sorts, .ref mm_sizes, .ref mm_directs, .ref mm_many, .ref mm_from, .ref mm_to, .ref mm_weight, .ref mm_cost, .ref mm_numbers, .ref mm_state, .ref mm_worth, .ref mm_long1, .ref mm_howMany, .ref mm_rows, .ref mm_inPart, .ref mm_partCount, .ref mm_nf, .ref mm_nt, .ref mm_nw, .ref mm_nc, .int nm, .ref mm_column, .ref mm_next, .ref mm_inside, .ref mm_beside, .ref mm_solid, .ref mm_below, .ref mm_best, .ref mm_ways1, .ref mm_round, .ref mm_round2, .ref mm_label, .ref mm_bridge, .ref mm_outs, .ref mm_ins, .ref mm_least, .ref mm_spans, .ref mm_joinedWith, .ref mm_gone, .ref mm_dear, .ref mm_by, .ref mm_ahead, .ref mm_image]) fX12_146 tyX12 tyX12_ok nmX12 (by decide +kernel) (Or.inl rfl) dX12_keep_33 h_4 (Nat.le_of_ble_eq_true rfl) (rfl) (rfl) rfl (fun hp_5 h_6 ho_7 => ?_)
  refine r_aload_n (pc := 36) dX12_keep_36 (i := 0) rfl rfl ?_
  refine r_get (pc := 37) (v := .int ((nI (i + 1)))) fX12_146 dX12_keep_37 h_6 rfl ?_
  refine r_iconst (pc := 40) (v := 1) dX12_keep_40 (by decide) ?_
  refine r_isub (pc := 41) (v := (nI i)) dX12_keep_41 (nI_pred i) ?_
  have h_8 : hp_5 mm_sorts = some (.inl (cI, 121, .inl (upd f0 i p1))) := ((ho_7 mm_sorts (ne_c gc1 gc0 (by intro h9; cases h9))).trans h_2)
  exact r_iret (pc := 42) dX12_keep_42 rfl (⟨rfl, rfl, h_6, h_8, fun q e9 h9 n9_0 n9_1 => ((ho_7 q n9_0).trans ((ho_3 q n9_1).trans h9))⟩)
