theorem no0 (p : Int32) : p < 0 ∨ (0 : Int32) ≤ p := by
  rcases Decidable.em (p < 0) with h | h
  · exact Or.inl h
  · exact Or.inr (Int32.not_lt.mp h)
set_option maxHeartbeats 4000000 in
set_option maxRecDepth 100000 in
theorem law_end {D : va_G} {cI cJ cZ cT : ClassId} {lo b x y : Nat} {xs : Nat → Int32} {hp : MH} {n d kr wr : Nat} : Rn (gG D cI cJ cZ cT lo b 7 xs) mL_law d 1077 [(0, .ref b), (1, .ref x), (2, .ref y), (3, .int ((nI 0)))] [] hp n kr wr (fun r _ _ => r = some (.int 1)) := by
  refine r_iinc (pc := 1077) (v := 7) (lv' := [(3, .int 7), (0, .ref b), (1, .ref x), (2, .ref y)]) dL_law_1077 rfl (by decide) (by decide) rfl ?_
  refine r_goto (pc := 1080) (tgt := 18) dL_law_1080 (by decide) ?_
  refine r_iload_n (pc := 18) dL_law_18 (i := 3) rfl rfl ?_
  refine r_aload_n (pc := 19) dL_law_19 (i := 0) rfl rfl ?_
  refine r_slen (pc := 20) dL_law_20 ?_
  refine r_bipush (pc := 21) (v := 7) dL_law_21 (by decide) ?_
  refine r_isub (pc := 23) (v := 0) dL_law_23 (show nI 7 - 7 = (0 : Int32) from by decide) ?_
  refine r_icmp_gt (pc := 24) (tgt := 1083) dL_law_24 (by decide) (fun _ => ?_) (fun c9 => absurd (by decide) c9)
  refine r_iconst (pc := 1083) (v := 1) dL_law_1083 (by decide) ?_
  exact r_zret (pc := 1084) dL_law_1084 rfl (by decide) (rfl)
set_option maxHeartbeats 4000000 in
set_option maxRecDepth 100000 in
theorem law_0 {D : va_G} {cI cJ cZ cT : ClassId} {lo b : Nat} {xs : Nat → Int32} {hp : MH} {n d kr wr : Nat} {x th dr sk sh se pa fl sa af au aw ac al : Nat} {y mm_sorts mm_sizes mm_directs mm_many mm_from mm_to mm_weight mm_cost mm_numbers mm_state mm_worth mm_long1 mm_howMany mm_rows mm_inPart mm_partCount mm_nf mm_nt mm_nw mm_nc mm_column mm_next mm_inside mm_beside mm_solid mm_below mm_best mm_ways1 mm_round mm_round2 mm_label mm_bridge mm_outs mm_ins mm_least mm_spans mm_joinedWith mm_gone mm_dear mm_by mm_ahead mm_image : Nat} (hd0 : 10 ≤ d) (hkr : 20 ≤ kr) (hwr : 300 ≤ wr) (gc0 : hp x = some (.inr (10, [.ref th, .int 0, .int 0, .ref dr, .ref sk, .ref sh, .ref se, .ref pa, .ref fl, .ref sa]))) (gc1 : hp th = some (.inl (cT, 120, .inr (.inr (.inr (.inr (fun _ => none))))))) (gc2 : hp dr = some (.inr (1, [.int 1, .int 0, .int 0, .ref af, .ref au, .ref aw, .ref ac, .ref al]))) (gc3 : hp af = some (.inl (cI, 60, .inl (fun _ => 0)))) (gc4 : hp au = some (.inl (cI, 60, .inl (fun _ => 0)))) (gc5 : hp aw = some (.inl (cI, 60, .inl (fun _ => 0)))) (gc6 : hp ac = some (.inl (cI, 60, .inl (fun _ => 0)))) (gc7 : hp y = some (.inr (11, [.int 0, .int 0, .ref mm_sorts, .ref mm_sizes, .ref mm_directs, .ref mm_many, .ref mm_from, .ref mm_to, .ref mm_weight, .ref mm_cost, .ref mm_numbers, .ref mm_state, .ref mm_worth, .ref mm_long1, .ref mm_howMany, .ref mm_rows, .ref mm_inPart, .ref mm_partCount, .ref mm_nf, .ref mm_nt, .ref mm_nw, .ref mm_nc, .int 0, .ref mm_column, .ref mm_next, .ref mm_inside, .ref mm_beside, .ref mm_solid, .ref mm_below, .ref mm_best, .ref mm_ways1, .ref mm_round, .ref mm_round2, .ref mm_label, .ref mm_bridge, .ref mm_outs, .ref mm_ins, .ref mm_least, .ref mm_spans, .ref mm_joinedWith, .ref mm_gone, .ref mm_dear, .ref mm_by, .ref mm_ahead, .ref mm_image]))) (gc8 : hp mm_sorts = some (.inl (cI, 121, .inl (fun _ => 0)))) (gc9 : hp mm_sizes = some (.inl (cI, 121, .inl (upd (fun _ => 0) 120 1)))) (gc10 : hp mm_directs = some (.inl (cZ, 121, .inl (upd (fun _ => 0) 120 0)))) (gc11 : hp mm_many = some (.inl (cI, 121, .inl (upd (fun _ => 0) 120 0)))) (gc12 : hp mm_from = some (.inl (cI, 7260, .inl (fun _ => 0)))) (gc13 : hp mm_to = some (.inl (cI, 7260, .inl (fun _ => 0)))) (gc14 : hp mm_weight = some (.inl (cI, 7260, .inl (fun _ => 0)))) (gc15 : hp mm_cost = some (.inl (cI, 7260, .inl (fun _ => 0)))) (gc16 : hp mm_numbers = some (.inl (cJ, 1936, .inr (.inl (fun _ => 0))))) (gc17 : hp mm_column = some (.inl (cJ, 16, .inr (.inl (fun _ => 0))))) (ne_af_au : af ≠ au) (ne_af_aw : af ≠ aw) (ne_af_ac : af ≠ ac) (ne_af_mm_sorts : af ≠ mm_sorts) (ne_af_mm_sizes : af ≠ mm_sizes) (ne_af_mm_many : af ≠ mm_many) (ne_af_mm_from : af ≠ mm_from) (ne_af_mm_to : af ≠ mm_to) (ne_af_mm_weight : af ≠ mm_weight) (ne_af_mm_cost : af ≠ mm_cost) (ne_au_aw : au ≠ aw) (ne_au_ac : au ≠ ac) (ne_au_mm_sorts : au ≠ mm_sorts) (ne_au_mm_sizes : au ≠ mm_sizes) (ne_au_mm_many : au ≠ mm_many) (ne_au_mm_from : au ≠ mm_from) (ne_au_mm_to : au ≠ mm_to) (ne_au_mm_weight : au ≠ mm_weight) (ne_au_mm_cost : au ≠ mm_cost) (ne_aw_ac : aw ≠ ac) (ne_aw_mm_sorts : aw ≠ mm_sorts) (ne_aw_mm_sizes : aw ≠ mm_sizes) (ne_aw_mm_many : aw ≠ mm_many) (ne_aw_mm_from : aw ≠ mm_from) (ne_aw_mm_to : aw ≠ mm_to) (ne_aw_mm_weight : aw ≠ mm_weight) (ne_aw_mm_cost : aw ≠ mm_cost) (ne_ac_mm_sorts : ac ≠ mm_sorts) (ne_ac_mm_sizes : ac ≠ mm_sizes) (ne_ac_mm_many : ac ≠ mm_many) (ne_ac_mm_from : ac ≠ mm_from) (ne_ac_mm_to : ac ≠ mm_to) (ne_ac_mm_weight : ac ≠ mm_weight) (ne_ac_mm_cost : ac ≠ mm_cost) (ne_mm_sorts_mm_sizes : mm_sorts ≠ mm_sizes) (ne_mm_sorts_mm_many : mm_sorts ≠ mm_many) (ne_mm_sorts_mm_from : mm_sorts ≠ mm_from) (ne_mm_sorts_mm_to : mm_sorts ≠ mm_to) (ne_mm_sorts_mm_weight : mm_sorts ≠ mm_weight) (ne_mm_sorts_mm_cost : mm_sorts ≠ mm_cost) (ne_mm_sizes_mm_many : mm_sizes ≠ mm_many) (ne_mm_sizes_mm_from : mm_sizes ≠ mm_from) (ne_mm_sizes_mm_to : mm_sizes ≠ mm_to) (ne_mm_sizes_mm_weight : mm_sizes ≠ mm_weight) (ne_mm_sizes_mm_cost : mm_sizes ≠ mm_cost) (ne_mm_many_mm_from : mm_many ≠ mm_from) (ne_mm_many_mm_to : mm_many ≠ mm_to) (ne_mm_many_mm_weight : mm_many ≠ mm_weight) (ne_mm_many_mm_cost : mm_many ≠ mm_cost) (ne_mm_from_mm_to : mm_from ≠ mm_to) (ne_mm_from_mm_weight : mm_from ≠ mm_weight) (ne_mm_from_mm_cost : mm_from ≠ mm_cost) (ne_mm_to_mm_weight : mm_to ≠ mm_weight) (ne_mm_to_mm_cost : mm_to ≠ mm_cost) (ne_mm_weight_mm_cost : mm_weight ≠ mm_cost) (ne_nu_col : mm_numbers ≠ mm_column) (ne_di_si : mm_directs ≠ mm_sizes) (ne_di_ma : mm_directs ≠ mm_many) (ne_di_so : mm_directs ≠ mm_sorts) (ne_di_af : mm_directs ≠ af) (ne_di_au : mm_directs ≠ au) (ne_di_aw : mm_directs ≠ aw) (ne_di_ac : mm_directs ≠ ac) (ne_di_mm_from : mm_directs ≠ mm_from) (ne_di_mm_to : mm_directs ≠ mm_to) (ne_di_mm_weight : mm_directs ≠ mm_weight) (ne_di_mm_cost : mm_directs ≠ mm_cost) : Rn (gG D cI cJ cZ cT lo b 7 xs) mL_law d 136 [(0, .ref b), (1, .ref x), (2, .ref y), (3, .int ((nI 0)))] [] hp n kr wr (fun r _ _ => r = some (.int 1)) := by
  by_cases hb0 : xs 1 < 1 ∨ 16 < xs 1
  · refine r_aload_n (pc := 136) dL_law_136 (i := 1) rfl rfl ?_
    refine r_aload_n (pc := 137) dL_law_137 (i := 0) rfl rfl ?_
    refine r_iload_n (pc := 138) dL_law_138 (i := 3) rfl rfl ?_
    refine r_iconst (pc := 139) (v := 1) dL_law_139 (by decide) ?_
    refine r_iadd (pc := 140) (v := (nI 1)) dL_law_140 (by decide) ?_
    refine w_sld (pc := 141) (v := (xs 1)) dL_law_141 (show vp_in (nI 1) 7 from vp_in_nI (by decide) (by decide)) (congrArg xs (nI_clamp (by decide))) ?_
    refine r_aload_n (pc := 142) dL_law_142 (i := 0) rfl rfl ?_
    refine r_iload_n (pc := 143) dL_law_143 (i := 3) rfl rfl ?_
    refine r_iconst (pc := 144) (v := 2) dL_law_144 (by decide) ?_
    refine r_iadd (pc := 145) (v := (nI 2)) dL_law_145 (by decide) ?_
    refine w_sld (pc := 146) (v := (xs 2)) dL_law_146 (show vp_in (nI 2) 7 from vp_in_nI (by decide) (by decide)) (congrArg xs (nI_clamp (by decide))) ?_
    refine r_if_eq (pc := 147) (tgt := 154) dL_law_147 (by decide) (fun c147 => ?_) (fun c147 => ?_)
    · refine r_iconst (pc := 154) (v := 0) dL_law_154 (by decide) ?_
      refine r_callV (pc := 155) (as := [.int ((xs 1)), .int 0]) (st := []) kL_13 rfl dL_law_155 gc0 (c_X11_begin_no (d := d - 1) (x := x) (th := th) (dr := dr) (sk := sk) (sh := sh) (se := se) (pa := pa) (fl := fl) (sa := sa) (cnt := 0) (rf := 0) (p1 := (xs 1)) (q2 := false) (by omega) gc0 (hb0)) rfl (by omega) (Nat.le_of_ble_eq_true rfl) (by omega) (by omega) rfl (fun r9 hp_1 nn_2 hq_3 => ?_)
      obtain ⟨rfl, hq_3n, h_4, ho_5⟩ := hq_3
      subst nn_2
      change Rn _ _ _ 158 _ [.int 0] _ _ _ _ _
      refine r_aload_n (pc := 158) dL_law_158 (i := 2) rfl rfl ?_
      refine r_aload_n (pc := 159) dL_law_159 (i := 0) rfl rfl ?_
      refine r_iload_n (pc := 160) dL_law_160 (i := 3) rfl rfl ?_
      refine r_iconst (pc := 161) (v := 1) dL_law_161 (by decide) ?_
      refine r_iadd (pc := 162) (v := (nI 1)) dL_law_162 (by decide) ?_
      refine w_sld (pc := 163) (v := (xs 1)) dL_law_163 (show vp_in (nI 1) 7 from vp_in_nI (by decide) (by decide)) (congrArg xs (nI_clamp (by decide))) ?_
      refine r_aload_n (pc := 164) dL_law_164 (i := 0) rfl rfl ?_
      refine r_iload_n (pc := 165) dL_law_165 (i := 3) rfl rfl ?_
      refine r_iconst (pc := 166) (v := 2) dL_law_166 (by decide) ?_
      refine r_iadd (pc := 167) (v := (nI 2)) dL_law_167 (by decide) ?_
      refine w_sld (pc := 168) (v := (xs 2)) dL_law_168 (show vp_in (nI 2) 7 from vp_in_nI (by decide) (by decide)) (congrArg xs (nI_clamp (by decide))) ?_
      refine r_if_eq (pc := 169) (tgt := 176) dL_law_169 (by decide) (fun _ => ?_) (fun c9 => absurd (c147) c9)
      refine r_iconst (pc := 176) (v := 0) dL_law_176 (by decide) ?_
      have h_9 : hp_1 y = some (.inr (11, [.int 0, .int 0, .ref mm_sorts, .ref mm_sizes, .ref mm_directs, .ref mm_many, .ref mm_from, .ref mm_to, .ref mm_weight, .ref mm_cost, .ref mm_numbers, .ref mm_state, .ref mm_worth, .ref mm_long1, .ref mm_howMany, .ref mm_rows, .ref mm_inPart, .ref mm_partCount, .ref mm_nf, .ref mm_nt, .ref mm_nw, .ref mm_nc, .int 0, .ref mm_column, .ref mm_next, .ref mm_inside, .ref mm_beside, .ref mm_solid, .ref mm_below, .ref mm_best, .ref mm_ways1, .ref mm_round, .ref mm_round2, .ref mm_label, .ref mm_bridge, .ref mm_outs, .ref mm_ins, .ref mm_least, .ref mm_spans, .ref mm_joinedWith, .ref mm_gone, .ref mm_dear, .ref mm_by, .ref mm_ahead, .ref mm_image])) := (ho_5 y _ gc7 (ne_c gc7 gc0 (by intro h9; cases h9)))
      refine r_callV (pc := 177) (as := [.int ((xs 1)), .int 0]) (st := [.int 0]) kL_17 rfl dL_law_177 h_9 (c_X12_begin_no (d := d - 1) (y := y) (mm_sorts := mm_sorts) (mm_sizes := mm_sizes) (mm_directs := mm_directs) (mm_many := mm_many) (mm_from := mm_from) (mm_to := mm_to) (mm_weight := mm_weight) (mm_cost := mm_cost) (mm_numbers := mm_numbers) (mm_state := mm_state) (mm_worth := mm_worth) (mm_long1 := mm_long1) (mm_howMany := mm_howMany) (mm_rows := mm_rows) (mm_inPart := mm_inPart) (mm_partCount := mm_partCount) (mm_nf := mm_nf) (mm_nt := mm_nt) (mm_nw := mm_nw) (mm_nc := mm_nc) (mm_column := mm_column) (mm_next := mm_next) (mm_inside := mm_inside) (mm_beside := mm_beside) (mm_solid := mm_solid) (mm_below := mm_below) (mm_best := mm_best) (mm_ways1 := mm_ways1) (mm_round := mm_round) (mm_round2 := mm_round2) (mm_label := mm_label) (mm_bridge := mm_bridge) (mm_outs := mm_outs) (mm_ins := mm_ins) (mm_least := mm_least) (mm_spans := mm_spans) (mm_joinedWith := mm_joinedWith) (mm_gone := mm_gone) (mm_dear := mm_dear) (mm_by := mm_by) (mm_ahead := mm_ahead) (mm_image := mm_image) (rf := 0) (cnt := 0) (nm := 0) (p1 := (xs 1)) (q2 := false) (by omega) h_9 (hb0)) rfl (by omega) (Nat.le_of_ble_eq_true rfl) (by omega) (by omega) rfl (fun r9 hp_6 nn_7 hq_8 => ?_)
      obtain ⟨rfl, hq_8n, h_10, ho_11⟩ := hq_8
      subst nn_7
      change Rn _ _ _ 180 _ [.int 0, .int 0] _ _ _ _ _
      refine r_icmp_eq (pc := 180) (tgt := 1077) dL_law_180 (by decide) (fun _ => ?_) (fun c9 => absurd (rfl) c9)
      refine Rn.pick (lv' := [(0, .ref b), (1, .ref x), (2, .ref y), (3, .int ((nI 0)))]) [0, 1, 2, 3] rfl ?_
      exact law_end
    · refine r_iconst (pc := 150) (v := 1) dL_law_150 (by decide) ?_
      refine r_goto (pc := 151) (tgt := 155) dL_law_151 (by decide) ?_
      refine r_callV (pc := 155) (as := [.int ((xs 1)), .int 1]) (st := []) kL_13 rfl dL_law_155 gc0 (c_X11_begin_no (d := d - 1) (x := x) (th := th) (dr := dr) (sk := sk) (sh := sh) (se := se) (pa := pa) (fl := fl) (sa := sa) (cnt := 0) (rf := 0) (p1 := (xs 1)) (q2 := true) (by omega) gc0 (hb0)) rfl (by omega) (Nat.le_of_ble_eq_true rfl) (by omega) (by omega) rfl (fun r9 hp_12 nn_13 hq_14 => ?_)
      obtain ⟨rfl, hq_14n, h_15, ho_16⟩ := hq_14
      subst nn_13
      change Rn _ _ _ 158 _ [.int 0] _ _ _ _ _
      refine r_aload_n (pc := 158) dL_law_158 (i := 2) rfl rfl ?_
      refine r_aload_n (pc := 159) dL_law_159 (i := 0) rfl rfl ?_
      refine r_iload_n (pc := 160) dL_law_160 (i := 3) rfl rfl ?_
      refine r_iconst (pc := 161) (v := 1) dL_law_161 (by decide) ?_
      refine r_iadd (pc := 162) (v := (nI 1)) dL_law_162 (by decide) ?_
      refine w_sld (pc := 163) (v := (xs 1)) dL_law_163 (show vp_in (nI 1) 7 from vp_in_nI (by decide) (by decide)) (congrArg xs (nI_clamp (by decide))) ?_
      refine r_aload_n (pc := 164) dL_law_164 (i := 0) rfl rfl ?_
      refine r_iload_n (pc := 165) dL_law_165 (i := 3) rfl rfl ?_
      refine r_iconst (pc := 166) (v := 2) dL_law_166 (by decide) ?_
      refine r_iadd (pc := 167) (v := (nI 2)) dL_law_167 (by decide) ?_
      refine w_sld (pc := 168) (v := (xs 2)) dL_law_168 (show vp_in (nI 2) 7 from vp_in_nI (by decide) (by decide)) (congrArg xs (nI_clamp (by decide))) ?_
      refine r_if_eq (pc := 169) (tgt := 176) dL_law_169 (by decide) (fun c9 => absurd c9 (c147)) (fun _ => ?_)
      refine r_iconst (pc := 172) (v := 1) dL_law_172 (by decide) ?_
      refine r_goto (pc := 173) (tgt := 177) dL_law_173 (by decide) ?_
      have h_20 : hp_12 y = some (.inr (11, [.int 0, .int 0, .ref mm_sorts, .ref mm_sizes, .ref mm_directs, .ref mm_many, .ref mm_from, .ref mm_to, .ref mm_weight, .ref mm_cost, .ref mm_numbers, .ref mm_state, .ref mm_worth, .ref mm_long1, .ref mm_howMany, .ref mm_rows, .ref mm_inPart, .ref mm_partCount, .ref mm_nf, .ref mm_nt, .ref mm_nw, .ref mm_nc, .int 0, .ref mm_column, .ref mm_next, .ref mm_inside, .ref mm_beside, .ref mm_solid, .ref mm_below, .ref mm_best, .ref mm_ways1, .ref mm_round, .ref mm_round2, .ref mm_label, .ref mm_bridge, .ref mm_outs, .ref mm_ins, .ref mm_least, .ref mm_spans, .ref mm_joinedWith, .ref mm_gone, .ref mm_dear, .ref mm_by, .ref mm_ahead, .ref mm_image])) := (ho_16 y _ gc7 (ne_c gc7 gc0 (by intro h9; cases h9)))
      refine r_callV (pc := 177) (as := [.int ((xs 1)), .int 1]) (st := [.int 0]) kL_17 rfl dL_law_177 h_20 (c_X12_begin_no (d := d - 1) (y := y) (mm_sorts := mm_sorts) (mm_sizes := mm_sizes) (mm_directs := mm_directs) (mm_many := mm_many) (mm_from := mm_from) (mm_to := mm_to) (mm_weight := mm_weight) (mm_cost := mm_cost) (mm_numbers := mm_numbers) (mm_state := mm_state) (mm_worth := mm_worth) (mm_long1 := mm_long1) (mm_howMany := mm_howMany) (mm_rows := mm_rows) (mm_inPart := mm_inPart) (mm_partCount := mm_partCount) (mm_nf := mm_nf) (mm_nt := mm_nt) (mm_nw := mm_nw) (mm_nc := mm_nc) (mm_column := mm_column) (mm_next := mm_next) (mm_inside := mm_inside) (mm_beside := mm_beside) (mm_solid := mm_solid) (mm_below := mm_below) (mm_best := mm_best) (mm_ways1 := mm_ways1) (mm_round := mm_round) (mm_round2 := mm_round2) (mm_label := mm_label) (mm_bridge := mm_bridge) (mm_outs := mm_outs) (mm_ins := mm_ins) (mm_least := mm_least) (mm_spans := mm_spans) (mm_joinedWith := mm_joinedWith) (mm_gone := mm_gone) (mm_dear := mm_dear) (mm_by := mm_by) (mm_ahead := mm_ahead) (mm_image := mm_image) (rf := 0) (cnt := 0) (nm := 0) (p1 := (xs 1)) (q2 := true) (by omega) h_20 (hb0)) rfl (by omega) (Nat.le_of_ble_eq_true rfl) (by omega) (by omega) rfl (fun r9 hp_17 nn_18 hq_19 => ?_)
      obtain ⟨rfl, hq_19n, h_21, ho_22⟩ := hq_19
      subst nn_18
      change Rn _ _ _ 180 _ [.int 0, .int 0] _ _ _ _ _
      refine r_icmp_eq (pc := 180) (tgt := 1077) dL_law_180 (by decide) (fun _ => ?_) (fun c9 => absurd (rfl) c9)
      refine Rn.pick (lv' := [(0, .ref b), (1, .ref x), (2, .ref y), (3, .int ((nI 0)))]) [0, 1, 2, 3] rfl ?_
      exact law_end
  · refine r_aload_n (pc := 136) dL_law_136 (i := 1) rfl rfl ?_
    refine r_aload_n (pc := 137) dL_law_137 (i := 0) rfl rfl ?_
    refine r_iload_n (pc := 138) dL_law_138 (i := 3) rfl rfl ?_
    refine r_iconst (pc := 139) (v := 1) dL_law_139 (by decide) ?_
    refine r_iadd (pc := 140) (v := (nI 1)) dL_law_140 (by decide) ?_
    refine w_sld (pc := 141) (v := (xs 1)) dL_law_141 (show vp_in (nI 1) 7 from vp_in_nI (by decide) (by decide)) (congrArg xs (nI_clamp (by decide))) ?_
    refine r_aload_n (pc := 142) dL_law_142 (i := 0) rfl rfl ?_
    refine r_iload_n (pc := 143) dL_law_143 (i := 3) rfl rfl ?_
    refine r_iconst (pc := 144) (v := 2) dL_law_144 (by decide) ?_
    refine r_iadd (pc := 145) (v := (nI 2)) dL_law_145 (by decide) ?_
    refine w_sld (pc := 146) (v := (xs 2)) dL_law_146 (show vp_in (nI 2) 7 from vp_in_nI (by decide) (by decide)) (congrArg xs (nI_clamp (by decide))) ?_
    refine r_if_eq (pc := 147) (tgt := 154) dL_law_147 (by decide) (fun c147 => ?_) (fun c147 => ?_)
    · refine r_iconst (pc := 154) (v := 0) dL_law_154 (by decide) ?_
      refine r_callV (pc := 155) (as := [.int ((xs 1)), .int 0]) (st := []) kL_13 rfl dL_law_155 gc0 (c_X11_begin (d := d - 1) (x := x) (th := th) (dr := dr) (sk := sk) (sh := sh) (se := se) (pa := pa) (fl := fl) (sa := sa) (cnt := 0) (rf := 0) (p1 := (xs 1)) (q2 := false) (af := af) (au := au) (aw := aw) (ac := ac) (al := al) (x0 := 1) (x1 := 0) (x2 := 0) (by omega) gc0 gc2 (fun h9 => hb0 (Or.inl h9)) (Int32.not_lt.mp (fun h9 => hb0 (Or.inr h9)))) rfl (by omega) (Nat.le_of_ble_eq_true rfl) (by omega) (by omega) rfl (fun r9 hp_23 nn_24 hq_25 => ?_)
      obtain ⟨rfl, hq_25n, h_26, h_27, ho_28⟩ := hq_25
      subst nn_24
      change Rn _ _ _ 158 _ [.int 1] _ _ _ _ _
      refine r_aload_n (pc := 158) dL_law_158 (i := 2) rfl rfl ?_
      refine r_aload_n (pc := 159) dL_law_159 (i := 0) rfl rfl ?_
      refine r_iload_n (pc := 160) dL_law_160 (i := 3) rfl rfl ?_
      refine r_iconst (pc := 161) (v := 1) dL_law_161 (by decide) ?_
      refine r_iadd (pc := 162) (v := (nI 1)) dL_law_162 (by decide) ?_
      refine w_sld (pc := 163) (v := (xs 1)) dL_law_163 (show vp_in (nI 1) 7 from vp_in_nI (by decide) (by decide)) (congrArg xs (nI_clamp (by decide))) ?_
      refine r_aload_n (pc := 164) dL_law_164 (i := 0) rfl rfl ?_
      refine r_iload_n (pc := 165) dL_law_165 (i := 3) rfl rfl ?_
      refine r_iconst (pc := 166) (v := 2) dL_law_166 (by decide) ?_
      refine r_iadd (pc := 167) (v := (nI 2)) dL_law_167 (by decide) ?_
      refine w_sld (pc := 168) (v := (xs 2)) dL_law_168 (show vp_in (nI 2) 7 from vp_in_nI (by decide) (by decide)) (congrArg xs (nI_clamp (by decide))) ?_
      refine r_if_eq (pc := 169) (tgt := 176) dL_law_169 (by decide) (fun _ => ?_) (fun c9 => absurd (c147) c9)
      refine r_iconst (pc := 176) (v := 0) dL_law_176 (by decide) ?_
      have h_32 : hp_23 y = some (.inr (11, [.int 0, .int 0, .ref mm_sorts, .ref mm_sizes, .ref mm_directs, .ref mm_many, .ref mm_from, .ref mm_to, .ref mm_weight, .ref mm_cost, .ref mm_numbers, .ref mm_state, .ref mm_worth, .ref mm_long1, .ref mm_howMany, .ref mm_rows, .ref mm_inPart, .ref mm_partCount, .ref mm_nf, .ref mm_nt, .ref mm_nw, .ref mm_nc, .int 0, .ref mm_column, .ref mm_next, .ref mm_inside, .ref mm_beside, .ref mm_solid, .ref mm_below, .ref mm_best, .ref mm_ways1, .ref mm_round, .ref mm_round2, .ref mm_label, .ref mm_bridge, .ref mm_outs, .ref mm_ins, .ref mm_least, .ref mm_spans, .ref mm_joinedWith, .ref mm_gone, .ref mm_dear, .ref mm_by, .ref mm_ahead, .ref mm_image])) := (ho_28 y _ gc7 (ne_c gc7 gc0 (by intro h9; cases h9)) (ne_c gc7 gc2 (by intro h9; cases h9)))
      have h_33 : hp_23 mm_sizes = some (.inl (cI, 121, .inl (upd (fun _ => 0) 120 1))) := (ho_28 mm_sizes _ gc9 (ne_c gc9 gc0 (by intro h9; cases h9)) (ne_c gc9 gc2 (by intro h9; cases h9)))
      have h_34 : hp_23 mm_directs = some (.inl (cZ, 121, .inl (upd (fun _ => 0) 120 0))) := (ho_28 mm_directs _ gc10 (ne_c gc10 gc0 (by intro h9; cases h9)) (ne_c gc10 gc2 (by intro h9; cases h9)))
      have h_35 : hp_23 mm_many = some (.inl (cI, 121, .inl (upd (fun _ => 0) 120 0))) := (ho_28 mm_many _ gc11 (ne_c gc11 gc0 (by intro h9; cases h9)) (ne_c gc11 gc2 (by intro h9; cases h9)))
      refine r_callV (pc := 177) (as := [.int ((xs 1)), .int 0]) (st := [.int 1]) kL_17 rfl dL_law_177 h_32 (c_X12_begin (d := d - 1) (y := y) (mm_sorts := mm_sorts) (mm_sizes := mm_sizes) (mm_directs := mm_directs) (mm_many := mm_many) (mm_from := mm_from) (mm_to := mm_to) (mm_weight := mm_weight) (mm_cost := mm_cost) (mm_numbers := mm_numbers) (mm_state := mm_state) (mm_worth := mm_worth) (mm_long1 := mm_long1) (mm_howMany := mm_howMany) (mm_rows := mm_rows) (mm_inPart := mm_inPart) (mm_partCount := mm_partCount) (mm_nf := mm_nf) (mm_nt := mm_nt) (mm_nw := mm_nw) (mm_nc := mm_nc) (mm_column := mm_column) (mm_next := mm_next) (mm_inside := mm_inside) (mm_beside := mm_beside) (mm_solid := mm_solid) (mm_below := mm_below) (mm_best := mm_best) (mm_ways1 := mm_ways1) (mm_round := mm_round) (mm_round2 := mm_round2) (mm_label := mm_label) (mm_bridge := mm_bridge) (mm_outs := mm_outs) (mm_ins := mm_ins) (mm_least := mm_least) (mm_spans := mm_spans) (mm_joinedWith := mm_joinedWith) (mm_gone := mm_gone) (mm_dear := mm_dear) (mm_by := mm_by) (mm_ahead := mm_ahead) (mm_image := mm_image) (rf := 0) (cnt := 0) (nm := 0) (p1 := (xs 1)) (q2 := false) (f1 := upd (fun _ => 0) 120 1) (f2 := upd (fun _ => 0) 120 0) (f3 := upd (fun _ => 0) 120 0) (by omega) h_32 h_33 h_34 h_35 (fun h9 => hb0 (Or.inl h9)) (Int32.not_lt.mp (fun h9 => hb0 (Or.inr h9))) (ne_mm_sizes_mm_many) ((Ne.symm ne_di_si)) (ne_di_ma)) rfl (by omega) (Nat.le_of_ble_eq_true rfl) (by omega) (by omega) rfl (fun r9 hp_29 nn_30 hq_31 => ?_)
      obtain ⟨rfl, hq_31n, h_36, h_37, h_38, h_39, ho_40⟩ := hq_31
      subst nn_30
      change Rn _ _ _ 180 _ [.int 1, .int 1] _ _ _ _ _
      refine r_icmp_eq (pc := 180) (tgt := 1077) dL_law_180 (by decide) (fun _ => ?_) (fun c9 => absurd (rfl) c9)
      refine Rn.pick (lv' := [(0, .ref b), (1, .ref x), (2, .ref y), (3, .int ((nI 0)))]) [0, 1, 2, 3] rfl ?_
      exact law_end
    · refine r_iconst (pc := 150) (v := 1) dL_law_150 (by decide) ?_
      refine r_goto (pc := 151) (tgt := 155) dL_law_151 (by decide) ?_
      refine r_callV (pc := 155) (as := [.int ((xs 1)), .int 1]) (st := []) kL_13 rfl dL_law_155 gc0 (c_X11_begin (d := d - 1) (x := x) (th := th) (dr := dr) (sk := sk) (sh := sh) (se := se) (pa := pa) (fl := fl) (sa := sa) (cnt := 0) (rf := 0) (p1 := (xs 1)) (q2 := true) (af := af) (au := au) (aw := aw) (ac := ac) (al := al) (x0 := 1) (x1 := 0) (x2 := 0) (by omega) gc0 gc2 (fun h9 => hb0 (Or.inl h9)) (Int32.not_lt.mp (fun h9 => hb0 (Or.inr h9)))) rfl (by omega) (Nat.le_of_ble_eq_true rfl) (by omega) (by omega) rfl (fun r9 hp_41 nn_42 hq_43 => ?_)
      obtain ⟨rfl, hq_43n, h_44, h_45, ho_46⟩ := hq_43
      subst nn_42
      change Rn _ _ _ 158 _ [.int 1] _ _ _ _ _
      refine r_aload_n (pc := 158) dL_law_158 (i := 2) rfl rfl ?_
      refine r_aload_n (pc := 159) dL_law_159 (i := 0) rfl rfl ?_
      refine r_iload_n (pc := 160) dL_law_160 (i := 3) rfl rfl ?_
      refine r_iconst (pc := 161) (v := 1) dL_law_161 (by decide) ?_
      refine r_iadd (pc := 162) (v := (nI 1)) dL_law_162 (by decide) ?_
      refine w_sld (pc := 163) (v := (xs 1)) dL_law_163 (show vp_in (nI 1) 7 from vp_in_nI (by decide) (by decide)) (congrArg xs (nI_clamp (by decide))) ?_
      refine r_aload_n (pc := 164) dL_law_164 (i := 0) rfl rfl ?_
      refine r_iload_n (pc := 165) dL_law_165 (i := 3) rfl rfl ?_
      refine r_iconst (pc := 166) (v := 2) dL_law_166 (by decide) ?_
      refine r_iadd (pc := 167) (v := (nI 2)) dL_law_167 (by decide) ?_
      refine w_sld (pc := 168) (v := (xs 2)) dL_law_168 (show vp_in (nI 2) 7 from vp_in_nI (by decide) (by decide)) (congrArg xs (nI_clamp (by decide))) ?_
      refine r_if_eq (pc := 169) (tgt := 176) dL_law_169 (by decide) (fun c9 => absurd c9 (c147)) (fun _ => ?_)
      refine r_iconst (pc := 172) (v := 1) dL_law_172 (by decide) ?_
      refine r_goto (pc := 173) (tgt := 177) dL_law_173 (by decide) ?_
      have h_50 : hp_41 y = some (.inr (11, [.int 0, .int 0, .ref mm_sorts, .ref mm_sizes, .ref mm_directs, .ref mm_many, .ref mm_from, .ref mm_to, .ref mm_weight, .ref mm_cost, .ref mm_numbers, .ref mm_state, .ref mm_worth, .ref mm_long1, .ref mm_howMany, .ref mm_rows, .ref mm_inPart, .ref mm_partCount, .ref mm_nf, .ref mm_nt, .ref mm_nw, .ref mm_nc, .int 0, .ref mm_column, .ref mm_next, .ref mm_inside, .ref mm_beside, .ref mm_solid, .ref mm_below, .ref mm_best, .ref mm_ways1, .ref mm_round, .ref mm_round2, .ref mm_label, .ref mm_bridge, .ref mm_outs, .ref mm_ins, .ref mm_least, .ref mm_spans, .ref mm_joinedWith, .ref mm_gone, .ref mm_dear, .ref mm_by, .ref mm_ahead, .ref mm_image])) := (ho_46 y _ gc7 (ne_c gc7 gc0 (by intro h9; cases h9)) (ne_c gc7 gc2 (by intro h9; cases h9)))
      have h_51 : hp_41 mm_sizes = some (.inl (cI, 121, .inl (upd (fun _ => 0) 120 1))) := (ho_46 mm_sizes _ gc9 (ne_c gc9 gc0 (by intro h9; cases h9)) (ne_c gc9 gc2 (by intro h9; cases h9)))
      have h_52 : hp_41 mm_directs = some (.inl (cZ, 121, .inl (upd (fun _ => 0) 120 0))) := (ho_46 mm_directs _ gc10 (ne_c gc10 gc0 (by intro h9; cases h9)) (ne_c gc10 gc2 (by intro h9; cases h9)))
      have h_53 : hp_41 mm_many = some (.inl (cI, 121, .inl (upd (fun _ => 0) 120 0))) := (ho_46 mm_many _ gc11 (ne_c gc11 gc0 (by intro h9; cases h9)) (ne_c gc11 gc2 (by intro h9; cases h9)))
      refine r_callV (pc := 177) (as := [.int ((xs 1)), .int 1]) (st := [.int 1]) kL_17 rfl dL_law_177 h_50 (c_X12_begin (d := d - 1) (y := y) (mm_sorts := mm_sorts) (mm_sizes := mm_sizes) (mm_directs := mm_directs) (mm_many := mm_many) (mm_from := mm_from) (mm_to := mm_to) (mm_weight := mm_weight) (mm_cost := mm_cost) (mm_numbers := mm_numbers) (mm_state := mm_state) (mm_worth := mm_worth) (mm_long1 := mm_long1) (mm_howMany := mm_howMany) (mm_rows := mm_rows) (mm_inPart := mm_inPart) (mm_partCount := mm_partCount) (mm_nf := mm_nf) (mm_nt := mm_nt) (mm_nw := mm_nw) (mm_nc := mm_nc) (mm_column := mm_column) (mm_next := mm_next) (mm_inside := mm_inside) (mm_beside := mm_beside) (mm_solid := mm_solid) (mm_below := mm_below) (mm_best := mm_best) (mm_ways1 := mm_ways1) (mm_round := mm_round) (mm_round2 := mm_round2) (mm_label := mm_label) (mm_bridge := mm_bridge) (mm_outs := mm_outs) (mm_ins := mm_ins) (mm_least := mm_least) (mm_spans := mm_spans) (mm_joinedWith := mm_joinedWith) (mm_gone := mm_gone) (mm_dear := mm_dear) (mm_by := mm_by) (mm_ahead := mm_ahead) (mm_image := mm_image) (rf := 0) (cnt := 0) (nm := 0) (p1 := (xs 1)) (q2 := true) (f1 := upd (fun _ => 0) 120 1) (f2 := upd (fun _ => 0) 120 0) (f3 := upd (fun _ => 0) 120 0) (by omega) h_50 h_51 h_52 h_53 (fun h9 => hb0 (Or.inl h9)) (Int32.not_lt.mp (fun h9 => hb0 (Or.inr h9))) (ne_mm_sizes_mm_many) ((Ne.symm ne_di_si)) (ne_di_ma)) rfl (by omega) (Nat.le_of_ble_eq_true rfl) (by omega) (by omega) rfl (fun r9 hp_47 nn_48 hq_49 => ?_)
      obtain ⟨rfl, hq_49n, h_54, h_55, h_56, h_57, ho_58⟩ := hq_49
      subst nn_48
      change Rn _ _ _ 180 _ [.int 1, .int 1] _ _ _ _ _
      refine r_icmp_eq (pc := 180) (tgt := 1077) dL_law_180 (by decide) (fun _ => ?_) (fun c9 => absurd (rfl) c9)
      refine Rn.pick (lv' := [(0, .ref b), (1, .ref x), (2, .ref y), (3, .int ((nI 0)))]) [0, 1, 2, 3] rfl ?_
      exact law_end
set_option maxHeartbeats 4000000 in
set_option maxRecDepth 100000 in
theorem law_1 {D : va_G} {cI cJ cZ cT : ClassId} {lo b : Nat} {xs : Nat → Int32} {hp : MH} {n d kr wr : Nat} {x th dr sk sh se pa fl sa af au aw ac al : Nat} {y mm_sorts mm_sizes mm_directs mm_many mm_from mm_to mm_weight mm_cost mm_numbers mm_state mm_worth mm_long1 mm_howMany mm_rows mm_inPart mm_partCount mm_nf mm_nt mm_nw mm_nc mm_column mm_next mm_inside mm_beside mm_solid mm_below mm_best mm_ways1 mm_round mm_round2 mm_label mm_bridge mm_outs mm_ins mm_least mm_spans mm_joinedWith mm_gone mm_dear mm_by mm_ahead mm_image : Nat} (hd0 : 10 ≤ d) (hkr : 20 ≤ kr) (hwr : 300 ≤ wr) (gc0 : hp x = some (.inr (10, [.ref th, .int 0, .int 0, .ref dr, .ref sk, .ref sh, .ref se, .ref pa, .ref fl, .ref sa]))) (gc1 : hp th = some (.inl (cT, 120, .inr (.inr (.inr (.inr (fun _ => none))))))) (gc2 : hp dr = some (.inr (1, [.int 1, .int 0, .int 0, .ref af, .ref au, .ref aw, .ref ac, .ref al]))) (gc3 : hp af = some (.inl (cI, 60, .inl (fun _ => 0)))) (gc4 : hp au = some (.inl (cI, 60, .inl (fun _ => 0)))) (gc5 : hp aw = some (.inl (cI, 60, .inl (fun _ => 0)))) (gc6 : hp ac = some (.inl (cI, 60, .inl (fun _ => 0)))) (gc7 : hp y = some (.inr (11, [.int 0, .int 0, .ref mm_sorts, .ref mm_sizes, .ref mm_directs, .ref mm_many, .ref mm_from, .ref mm_to, .ref mm_weight, .ref mm_cost, .ref mm_numbers, .ref mm_state, .ref mm_worth, .ref mm_long1, .ref mm_howMany, .ref mm_rows, .ref mm_inPart, .ref mm_partCount, .ref mm_nf, .ref mm_nt, .ref mm_nw, .ref mm_nc, .int 0, .ref mm_column, .ref mm_next, .ref mm_inside, .ref mm_beside, .ref mm_solid, .ref mm_below, .ref mm_best, .ref mm_ways1, .ref mm_round, .ref mm_round2, .ref mm_label, .ref mm_bridge, .ref mm_outs, .ref mm_ins, .ref mm_least, .ref mm_spans, .ref mm_joinedWith, .ref mm_gone, .ref mm_dear, .ref mm_by, .ref mm_ahead, .ref mm_image]))) (gc8 : hp mm_sorts = some (.inl (cI, 121, .inl (fun _ => 0)))) (gc9 : hp mm_sizes = some (.inl (cI, 121, .inl (upd (fun _ => 0) 120 1)))) (gc10 : hp mm_directs = some (.inl (cZ, 121, .inl (upd (fun _ => 0) 120 0)))) (gc11 : hp mm_many = some (.inl (cI, 121, .inl (upd (fun _ => 0) 120 0)))) (gc12 : hp mm_from = some (.inl (cI, 7260, .inl (fun _ => 0)))) (gc13 : hp mm_to = some (.inl (cI, 7260, .inl (fun _ => 0)))) (gc14 : hp mm_weight = some (.inl (cI, 7260, .inl (fun _ => 0)))) (gc15 : hp mm_cost = some (.inl (cI, 7260, .inl (fun _ => 0)))) (gc16 : hp mm_numbers = some (.inl (cJ, 1936, .inr (.inl (fun _ => 0))))) (gc17 : hp mm_column = some (.inl (cJ, 16, .inr (.inl (fun _ => 0))))) (ne_af_au : af ≠ au) (ne_af_aw : af ≠ aw) (ne_af_ac : af ≠ ac) (ne_af_mm_sorts : af ≠ mm_sorts) (ne_af_mm_sizes : af ≠ mm_sizes) (ne_af_mm_many : af ≠ mm_many) (ne_af_mm_from : af ≠ mm_from) (ne_af_mm_to : af ≠ mm_to) (ne_af_mm_weight : af ≠ mm_weight) (ne_af_mm_cost : af ≠ mm_cost) (ne_au_aw : au ≠ aw) (ne_au_ac : au ≠ ac) (ne_au_mm_sorts : au ≠ mm_sorts) (ne_au_mm_sizes : au ≠ mm_sizes) (ne_au_mm_many : au ≠ mm_many) (ne_au_mm_from : au ≠ mm_from) (ne_au_mm_to : au ≠ mm_to) (ne_au_mm_weight : au ≠ mm_weight) (ne_au_mm_cost : au ≠ mm_cost) (ne_aw_ac : aw ≠ ac) (ne_aw_mm_sorts : aw ≠ mm_sorts) (ne_aw_mm_sizes : aw ≠ mm_sizes) (ne_aw_mm_many : aw ≠ mm_many) (ne_aw_mm_from : aw ≠ mm_from) (ne_aw_mm_to : aw ≠ mm_to) (ne_aw_mm_weight : aw ≠ mm_weight) (ne_aw_mm_cost : aw ≠ mm_cost) (ne_ac_mm_sorts : ac ≠ mm_sorts) (ne_ac_mm_sizes : ac ≠ mm_sizes) (ne_ac_mm_many : ac ≠ mm_many) (ne_ac_mm_from : ac ≠ mm_from) (ne_ac_mm_to : ac ≠ mm_to) (ne_ac_mm_weight : ac ≠ mm_weight) (ne_ac_mm_cost : ac ≠ mm_cost) (ne_mm_sorts_mm_sizes : mm_sorts ≠ mm_sizes) (ne_mm_sorts_mm_many : mm_sorts ≠ mm_many) (ne_mm_sorts_mm_from : mm_sorts ≠ mm_from) (ne_mm_sorts_mm_to : mm_sorts ≠ mm_to) (ne_mm_sorts_mm_weight : mm_sorts ≠ mm_weight) (ne_mm_sorts_mm_cost : mm_sorts ≠ mm_cost) (ne_mm_sizes_mm_many : mm_sizes ≠ mm_many) (ne_mm_sizes_mm_from : mm_sizes ≠ mm_from) (ne_mm_sizes_mm_to : mm_sizes ≠ mm_to) (ne_mm_sizes_mm_weight : mm_sizes ≠ mm_weight) (ne_mm_sizes_mm_cost : mm_sizes ≠ mm_cost) (ne_mm_many_mm_from : mm_many ≠ mm_from) (ne_mm_many_mm_to : mm_many ≠ mm_to) (ne_mm_many_mm_weight : mm_many ≠ mm_weight) (ne_mm_many_mm_cost : mm_many ≠ mm_cost) (ne_mm_from_mm_to : mm_from ≠ mm_to) (ne_mm_from_mm_weight : mm_from ≠ mm_weight) (ne_mm_from_mm_cost : mm_from ≠ mm_cost) (ne_mm_to_mm_weight : mm_to ≠ mm_weight) (ne_mm_to_mm_cost : mm_to ≠ mm_cost) (ne_mm_weight_mm_cost : mm_weight ≠ mm_cost) (ne_nu_col : mm_numbers ≠ mm_column) (ne_di_si : mm_directs ≠ mm_sizes) (ne_di_ma : mm_directs ≠ mm_many) (ne_di_so : mm_directs ≠ mm_sorts) (ne_di_af : mm_directs ≠ af) (ne_di_au : mm_directs ≠ au) (ne_di_aw : mm_directs ≠ aw) (ne_di_ac : mm_directs ≠ ac) (ne_di_mm_from : mm_directs ≠ mm_from) (ne_di_mm_to : mm_directs ≠ mm_to) (ne_di_mm_weight : mm_directs ≠ mm_weight) (ne_di_mm_cost : mm_directs ≠ mm_cost) : Rn (gG D cI cJ cZ cT lo b 7 xs) mL_law d 185 [(0, .ref b), (1, .ref x), (2, .ref y), (3, .int ((nI 0)))] [] hp n kr wr (fun r _ _ => r = some (.int 1)) := by
  by_cases hb0 : (¬ xs 1 < 0 ∧ ¬ 1 ≤ xs 1) ∧ (¬ xs 2 < 0 ∧ ¬ 1 ≤ xs 2) ∧ (¬ xs 3 < (-1000) ∧ ¬ 1000 < xs 3) ∧ (¬ xs 4 < (-1000) ∧ ¬ 1000 < xs 4)
  · refine r_aload_n (pc := 185) dL_law_185 (i := 1) rfl rfl ?_
    refine r_aload_n (pc := 186) dL_law_186 (i := 0) rfl rfl ?_
    refine r_iload_n (pc := 187) dL_law_187 (i := 3) rfl rfl ?_
    refine r_iconst (pc := 188) (v := 1) dL_law_188 (by decide) ?_
    refine r_iadd (pc := 189) (v := (nI 1)) dL_law_189 (by decide) ?_
    refine w_sld (pc := 190) (v := (xs 1)) dL_law_190 (show vp_in (nI 1) 7 from vp_in_nI (by decide) (by decide)) (congrArg xs (nI_clamp (by decide))) ?_
    refine r_aload_n (pc := 191) dL_law_191 (i := 0) rfl rfl ?_
    refine r_iload_n (pc := 192) dL_law_192 (i := 3) rfl rfl ?_
    refine r_iconst (pc := 193) (v := 2) dL_law_193 (by decide) ?_
    refine r_iadd (pc := 194) (v := (nI 2)) dL_law_194 (by decide) ?_
    refine w_sld (pc := 195) (v := (xs 2)) dL_law_195 (show vp_in (nI 2) 7 from vp_in_nI (by decide) (by decide)) (congrArg xs (nI_clamp (by decide))) ?_
    refine r_aload_n (pc := 196) dL_law_196 (i := 0) rfl rfl ?_
    refine r_iload_n (pc := 197) dL_law_197 (i := 3) rfl rfl ?_
    refine r_iconst (pc := 198) (v := 3) dL_law_198 (by decide) ?_
    refine r_iadd (pc := 199) (v := (nI 3)) dL_law_199 (by decide) ?_
    refine w_sld (pc := 200) (v := (xs 3)) dL_law_200 (show vp_in (nI 3) 7 from vp_in_nI (by decide) (by decide)) (congrArg xs (nI_clamp (by decide))) ?_
    refine r_aload_n (pc := 201) dL_law_201 (i := 0) rfl rfl ?_
    refine r_iload_n (pc := 202) dL_law_202 (i := 3) rfl rfl ?_
    refine r_iconst (pc := 203) (v := 4) dL_law_203 (by decide) ?_
    refine r_iadd (pc := 204) (v := (nI 4)) dL_law_204 (by decide) ?_
    refine w_sld (pc := 205) (v := (xs 4)) dL_law_205 (show vp_in (nI 4) 7 from vp_in_nI (by decide) (by decide)) (congrArg xs (nI_clamp (by decide))) ?_
    refine r_callV (pc := 206) (as := [.int ((xs 1)), .int ((xs 2)), .int ((xs 3)), .int ((xs 4))]) (st := []) kL_18 rfl dL_law_206 gc0 (c_X11_arc (d := d - 1) (x := x) (th := th) (dr := dr) (sk := sk) (sh := sh) (se := se) (pa := pa) (fl := fl) (sa := sa) (cnt := 0) (rf := 0) (p1 := (xs 1)) (p2 := (xs 2)) (p3 := (xs 3)) (p4 := (xs 4)) (af := af) (au := au) (aw := aw) (ac := ac) (al := al) (x0 := 1) (x1 := 0) (k := 0) (f1 := fun _ => 0) (f2 := fun _ => 0) (f3 := fun _ => 0) (f4 := fun _ => 0) (by omega) gc0 gc2 gc3 gc4 gc5 gc6 (hb0.1) (hb0.2.1) (hb0.2.2.1) (hb0.2.2.2) (by omega) (ne_af_au) (ne_af_aw) (ne_af_ac) (ne_au_aw) (ne_au_ac) (ne_aw_ac)) rfl (by omega) (Nat.le_of_ble_eq_true rfl) (by omega) (by omega) rfl (fun r9 hp_1 nn_2 hq_3 => ?_)
    obtain ⟨rfl, hq_3n, h_4, h_5, h_6, h_7, h_8, h_9, ho_10⟩ := hq_3
    subst nn_2
    change Rn _ _ _ 209 _ [.int ((nI 0))] _ _ _ _ _
    refine r_aload_n (pc := 209) dL_law_209 (i := 2) rfl rfl ?_
    refine r_aload_n (pc := 210) dL_law_210 (i := 0) rfl rfl ?_
    refine r_iload_n (pc := 211) dL_law_211 (i := 3) rfl rfl ?_
    refine r_iconst (pc := 212) (v := 1) dL_law_212 (by decide) ?_
    refine r_iadd (pc := 213) (v := (nI 1)) dL_law_213 (by decide) ?_
    refine w_sld (pc := 214) (v := (xs 1)) dL_law_214 (show vp_in (nI 1) 7 from vp_in_nI (by decide) (by decide)) (congrArg xs (nI_clamp (by decide))) ?_
    refine r_aload_n (pc := 215) dL_law_215 (i := 0) rfl rfl ?_
    refine r_iload_n (pc := 216) dL_law_216 (i := 3) rfl rfl ?_
    refine r_iconst (pc := 217) (v := 2) dL_law_217 (by decide) ?_
    refine r_iadd (pc := 218) (v := (nI 2)) dL_law_218 (by decide) ?_
    refine w_sld (pc := 219) (v := (xs 2)) dL_law_219 (show vp_in (nI 2) 7 from vp_in_nI (by decide) (by decide)) (congrArg xs (nI_clamp (by decide))) ?_
    refine r_aload_n (pc := 220) dL_law_220 (i := 0) rfl rfl ?_
    refine r_iload_n (pc := 221) dL_law_221 (i := 3) rfl rfl ?_
    refine r_iconst (pc := 222) (v := 3) dL_law_222 (by decide) ?_
    refine r_iadd (pc := 223) (v := (nI 3)) dL_law_223 (by decide) ?_
    refine w_sld (pc := 224) (v := (xs 3)) dL_law_224 (show vp_in (nI 3) 7 from vp_in_nI (by decide) (by decide)) (congrArg xs (nI_clamp (by decide))) ?_
    refine r_aload_n (pc := 225) dL_law_225 (i := 0) rfl rfl ?_
    refine r_iload_n (pc := 226) dL_law_226 (i := 3) rfl rfl ?_
    refine r_iconst (pc := 227) (v := 4) dL_law_227 (by decide) ?_
    refine r_iadd (pc := 228) (v := (nI 4)) dL_law_228 (by decide) ?_
    refine w_sld (pc := 229) (v := (xs 4)) dL_law_229 (show vp_in (nI 4) 7 from vp_in_nI (by decide) (by decide)) (congrArg xs (nI_clamp (by decide))) ?_
    have h_14 : hp_1 y = some (.inr (11, [.int 0, .int 0, .ref mm_sorts, .ref mm_sizes, .ref mm_directs, .ref mm_many, .ref mm_from, .ref mm_to, .ref mm_weight, .ref mm_cost, .ref mm_numbers, .ref mm_state, .ref mm_worth, .ref mm_long1, .ref mm_howMany, .ref mm_rows, .ref mm_inPart, .ref mm_partCount, .ref mm_nf, .ref mm_nt, .ref mm_nw, .ref mm_nc, .int 0, .ref mm_column, .ref mm_next, .ref mm_inside, .ref mm_beside, .ref mm_solid, .ref mm_below, .ref mm_best, .ref mm_ways1, .ref mm_round, .ref mm_round2, .ref mm_label, .ref mm_bridge, .ref mm_outs, .ref mm_ins, .ref mm_least, .ref mm_spans, .ref mm_joinedWith, .ref mm_gone, .ref mm_dear, .ref mm_by, .ref mm_ahead, .ref mm_image])) := (ho_10 y _ gc7 (ne_c gc7 gc0 (by intro h9; cases h9)) (ne_c gc7 gc3 (by intro h9; cases h9)) (ne_c gc7 gc4 (by intro h9; cases h9)) (ne_c gc7 gc5 (by intro h9; cases h9)) (ne_c gc7 gc6 (by intro h9; cases h9)) (ne_c gc7 gc2 (by intro h9; cases h9)))
    have h_15 : hp_1 mm_from = some (.inl (cI, 7260, .inl (fun _ => 0))) := (ho_10 mm_from _ gc12 (ne_c gc12 gc0 (by intro h9; cases h9)) (Ne.symm ne_af_mm_from) (Ne.symm ne_au_mm_from) (Ne.symm ne_aw_mm_from) (Ne.symm ne_ac_mm_from) (ne_c gc12 gc2 (by intro h9; cases h9)))
    have h_16 : hp_1 mm_to = some (.inl (cI, 7260, .inl (fun _ => 0))) := (ho_10 mm_to _ gc13 (ne_c gc13 gc0 (by intro h9; cases h9)) (Ne.symm ne_af_mm_to) (Ne.symm ne_au_mm_to) (Ne.symm ne_aw_mm_to) (Ne.symm ne_ac_mm_to) (ne_c gc13 gc2 (by intro h9; cases h9)))
    have h_17 : hp_1 mm_weight = some (.inl (cI, 7260, .inl (fun _ => 0))) := (ho_10 mm_weight _ gc14 (ne_c gc14 gc0 (by intro h9; cases h9)) (Ne.symm ne_af_mm_weight) (Ne.symm ne_au_mm_weight) (Ne.symm ne_aw_mm_weight) (Ne.symm ne_ac_mm_weight) (ne_c gc14 gc2 (by intro h9; cases h9)))
    have h_18 : hp_1 mm_cost = some (.inl (cI, 7260, .inl (fun _ => 0))) := (ho_10 mm_cost _ gc15 (ne_c gc15 gc0 (by intro h9; cases h9)) (Ne.symm ne_af_mm_cost) (Ne.symm ne_au_mm_cost) (Ne.symm ne_aw_mm_cost) (Ne.symm ne_ac_mm_cost) (ne_c gc15 gc2 (by intro h9; cases h9)))
    have h_19 : hp_1 mm_many = some (.inl (cI, 121, .inl (upd (fun _ => 0) 120 0))) := (ho_10 mm_many _ gc11 (ne_c gc11 gc0 (by intro h9; cases h9)) (Ne.symm ne_af_mm_many) (Ne.symm ne_au_mm_many) (Ne.symm ne_aw_mm_many) (Ne.symm ne_ac_mm_many) (ne_c gc11 gc2 (by intro h9; cases h9)))
    have h_20 : hp_1 mm_sizes = some (.inl (cI, 121, .inl (upd (fun _ => 0) 120 1))) := (ho_10 mm_sizes _ gc9 (ne_c gc9 gc0 (by intro h9; cases h9)) (Ne.symm ne_af_mm_sizes) (Ne.symm ne_au_mm_sizes) (Ne.symm ne_aw_mm_sizes) (Ne.symm ne_ac_mm_sizes) (ne_c gc9 gc2 (by intro h9; cases h9)))
    refine r_callV (pc := 230) (as := [.int ((xs 1)), .int ((xs 2)), .int ((xs 3)), .int ((xs 4))]) (st := [.int ((nI 0))]) kL_22 rfl dL_law_230 h_14 (c_X12_arc (d := d - 1) (y := y) (mm_sorts := mm_sorts) (mm_sizes := mm_sizes) (mm_directs := mm_directs) (mm_many := mm_many) (mm_from := mm_from) (mm_to := mm_to) (mm_weight := mm_weight) (mm_cost := mm_cost) (mm_numbers := mm_numbers) (mm_state := mm_state) (mm_worth := mm_worth) (mm_long1 := mm_long1) (mm_howMany := mm_howMany) (mm_rows := mm_rows) (mm_inPart := mm_inPart) (mm_partCount := mm_partCount) (mm_nf := mm_nf) (mm_nt := mm_nt) (mm_nw := mm_nw) (mm_nc := mm_nc) (mm_column := mm_column) (mm_next := mm_next) (mm_inside := mm_inside) (mm_beside := mm_beside) (mm_solid := mm_solid) (mm_below := mm_below) (mm_best := mm_best) (mm_ways1 := mm_ways1) (mm_round := mm_round) (mm_round2 := mm_round2) (mm_label := mm_label) (mm_bridge := mm_bridge) (mm_outs := mm_outs) (mm_ins := mm_ins) (mm_least := mm_least) (mm_spans := mm_spans) (mm_joinedWith := mm_joinedWith) (mm_gone := mm_gone) (mm_dear := mm_dear) (mm_by := mm_by) (mm_ahead := mm_ahead) (mm_image := mm_image) (rf := 0) (cnt := 0) (nm := 0) (p1 := (xs 1)) (p2 := (xs 2)) (p3 := (xs 3)) (p4 := (xs 4)) (k := 0) (x0 := 1) (g1 := fun _ => 0) (g2 := fun _ => 0) (g3 := fun _ => 0) (g4 := fun _ => 0) (f1 := upd (fun _ => 0) 120 1) (f3 := upd (fun _ => 0) 120 0) (by omega) h_14 h_15 h_16 h_17 h_18 h_19 h_20 (hb0.1) (hb0.2.1) (hb0.2.2.1) (hb0.2.2.2) (by omega) (rfl) (rfl) (ne_mm_from_mm_to) (ne_mm_from_mm_weight) (ne_mm_from_mm_cost) ((Ne.symm ne_mm_many_mm_from)) (ne_mm_to_mm_weight) (ne_mm_to_mm_cost) ((Ne.symm ne_mm_many_mm_to)) (ne_mm_weight_mm_cost) ((Ne.symm ne_mm_many_mm_weight)) ((Ne.symm ne_mm_many_mm_cost)) (ne_mm_sizes_mm_from) (ne_mm_sizes_mm_to) (ne_mm_sizes_mm_weight) (ne_mm_sizes_mm_cost) (ne_mm_sizes_mm_many)) rfl (by omega) (Nat.le_of_ble_eq_true rfl) (by omega) (by omega) rfl (fun r9 hp_11 nn_12 hq_13 => ?_)
    obtain ⟨rfl, hq_13n, h_21, h_22, h_23, h_24, h_25, h_26, ho_27⟩ := hq_13
    subst nn_12
    change Rn _ _ _ 233 _ [.int ((nI 0)), .int ((nI 0))] _ _ _ _ _
    refine r_icmp_eq (pc := 233) (tgt := 1077) dL_law_233 (by decide) (fun _ => ?_) (fun c9 => absurd (rfl) c9)
    refine Rn.pick (lv' := [(0, .ref b), (1, .ref x), (2, .ref y), (3, .int ((nI 0)))]) [0, 1, 2, 3] rfl ?_
    exact law_end
  · refine r_aload_n (pc := 185) dL_law_185 (i := 1) rfl rfl ?_
    refine r_aload_n (pc := 186) dL_law_186 (i := 0) rfl rfl ?_
    refine r_iload_n (pc := 187) dL_law_187 (i := 3) rfl rfl ?_
    refine r_iconst (pc := 188) (v := 1) dL_law_188 (by decide) ?_
    refine r_iadd (pc := 189) (v := (nI 1)) dL_law_189 (by decide) ?_
    refine w_sld (pc := 190) (v := (xs 1)) dL_law_190 (show vp_in (nI 1) 7 from vp_in_nI (by decide) (by decide)) (congrArg xs (nI_clamp (by decide))) ?_
    refine r_aload_n (pc := 191) dL_law_191 (i := 0) rfl rfl ?_
    refine r_iload_n (pc := 192) dL_law_192 (i := 3) rfl rfl ?_
    refine r_iconst (pc := 193) (v := 2) dL_law_193 (by decide) ?_
    refine r_iadd (pc := 194) (v := (nI 2)) dL_law_194 (by decide) ?_
    refine w_sld (pc := 195) (v := (xs 2)) dL_law_195 (show vp_in (nI 2) 7 from vp_in_nI (by decide) (by decide)) (congrArg xs (nI_clamp (by decide))) ?_
    refine r_aload_n (pc := 196) dL_law_196 (i := 0) rfl rfl ?_
    refine r_iload_n (pc := 197) dL_law_197 (i := 3) rfl rfl ?_
    refine r_iconst (pc := 198) (v := 3) dL_law_198 (by decide) ?_
    refine r_iadd (pc := 199) (v := (nI 3)) dL_law_199 (by decide) ?_
    refine w_sld (pc := 200) (v := (xs 3)) dL_law_200 (show vp_in (nI 3) 7 from vp_in_nI (by decide) (by decide)) (congrArg xs (nI_clamp (by decide))) ?_
    refine r_aload_n (pc := 201) dL_law_201 (i := 0) rfl rfl ?_
    refine r_iload_n (pc := 202) dL_law_202 (i := 3) rfl rfl ?_
    refine r_iconst (pc := 203) (v := 4) dL_law_203 (by decide) ?_
    refine r_iadd (pc := 204) (v := (nI 4)) dL_law_204 (by decide) ?_
    refine w_sld (pc := 205) (v := (xs 4)) dL_law_205 (show vp_in (nI 4) 7 from vp_in_nI (by decide) (by decide)) (congrArg xs (nI_clamp (by decide))) ?_
    refine r_callV (pc := 206) (as := [.int ((xs 1)), .int ((xs 2)), .int ((xs 3)), .int ((xs 4))]) (st := []) kL_18 rfl dL_law_206 gc0 (c_X11_arc_no (d := d - 1) (x := x) (th := th) (dr := dr) (sk := sk) (sh := sh) (se := se) (pa := pa) (fl := fl) (sa := sa) (cnt := 0) (rf := 0) (p1 := (xs 1)) (p2 := (xs 2)) (p3 := (xs 3)) (p4 := (xs 4)) (af := af) (au := au) (aw := aw) (ac := ac) (al := al) (x0 := 1) (x1 := 0) (k := 0) (by omega) gc0 gc2 (hb0)) rfl (by omega) (Nat.le_of_ble_eq_true rfl) (by omega) (by omega) rfl (fun r9 hp_28 nn_29 hq_30 => ?_)
    obtain ⟨rfl, hq_30n, h_31, ho_32⟩ := hq_30
    subst nn_29
    change Rn _ _ _ 209 _ [.int ((-3))] _ _ _ _ _
    refine r_aload_n (pc := 209) dL_law_209 (i := 2) rfl rfl ?_
    refine r_aload_n (pc := 210) dL_law_210 (i := 0) rfl rfl ?_
    refine r_iload_n (pc := 211) dL_law_211 (i := 3) rfl rfl ?_
    refine r_iconst (pc := 212) (v := 1) dL_law_212 (by decide) ?_
    refine r_iadd (pc := 213) (v := (nI 1)) dL_law_213 (by decide) ?_
    refine w_sld (pc := 214) (v := (xs 1)) dL_law_214 (show vp_in (nI 1) 7 from vp_in_nI (by decide) (by decide)) (congrArg xs (nI_clamp (by decide))) ?_
    refine r_aload_n (pc := 215) dL_law_215 (i := 0) rfl rfl ?_
    refine r_iload_n (pc := 216) dL_law_216 (i := 3) rfl rfl ?_
    refine r_iconst (pc := 217) (v := 2) dL_law_217 (by decide) ?_
    refine r_iadd (pc := 218) (v := (nI 2)) dL_law_218 (by decide) ?_
    refine w_sld (pc := 219) (v := (xs 2)) dL_law_219 (show vp_in (nI 2) 7 from vp_in_nI (by decide) (by decide)) (congrArg xs (nI_clamp (by decide))) ?_
    refine r_aload_n (pc := 220) dL_law_220 (i := 0) rfl rfl ?_
    refine r_iload_n (pc := 221) dL_law_221 (i := 3) rfl rfl ?_
    refine r_iconst (pc := 222) (v := 3) dL_law_222 (by decide) ?_
    refine r_iadd (pc := 223) (v := (nI 3)) dL_law_223 (by decide) ?_
    refine w_sld (pc := 224) (v := (xs 3)) dL_law_224 (show vp_in (nI 3) 7 from vp_in_nI (by decide) (by decide)) (congrArg xs (nI_clamp (by decide))) ?_
    refine r_aload_n (pc := 225) dL_law_225 (i := 0) rfl rfl ?_
    refine r_iload_n (pc := 226) dL_law_226 (i := 3) rfl rfl ?_
    refine r_iconst (pc := 227) (v := 4) dL_law_227 (by decide) ?_
    refine r_iadd (pc := 228) (v := (nI 4)) dL_law_228 (by decide) ?_
    refine w_sld (pc := 229) (v := (xs 4)) dL_law_229 (show vp_in (nI 4) 7 from vp_in_nI (by decide) (by decide)) (congrArg xs (nI_clamp (by decide))) ?_
    have h_36 : hp_28 y = some (.inr (11, [.int 0, .int 0, .ref mm_sorts, .ref mm_sizes, .ref mm_directs, .ref mm_many, .ref mm_from, .ref mm_to, .ref mm_weight, .ref mm_cost, .ref mm_numbers, .ref mm_state, .ref mm_worth, .ref mm_long1, .ref mm_howMany, .ref mm_rows, .ref mm_inPart, .ref mm_partCount, .ref mm_nf, .ref mm_nt, .ref mm_nw, .ref mm_nc, .int 0, .ref mm_column, .ref mm_next, .ref mm_inside, .ref mm_beside, .ref mm_solid, .ref mm_below, .ref mm_best, .ref mm_ways1, .ref mm_round, .ref mm_round2, .ref mm_label, .ref mm_bridge, .ref mm_outs, .ref mm_ins, .ref mm_least, .ref mm_spans, .ref mm_joinedWith, .ref mm_gone, .ref mm_dear, .ref mm_by, .ref mm_ahead, .ref mm_image])) := (ho_32 y _ gc7 (ne_c gc7 gc0 (by intro h9; cases h9)))
    have h_37 : hp_28 mm_sizes = some (.inl (cI, 121, .inl (upd (fun _ => 0) 120 1))) := (ho_32 mm_sizes _ gc9 (ne_c gc9 gc0 (by intro h9; cases h9)))
    refine r_callV (pc := 230) (as := [.int ((xs 1)), .int ((xs 2)), .int ((xs 3)), .int ((xs 4))]) (st := [.int ((-3))]) kL_22 rfl dL_law_230 h_36 (c_X12_arc_no (d := d - 1) (y := y) (mm_sorts := mm_sorts) (mm_sizes := mm_sizes) (mm_directs := mm_directs) (mm_many := mm_many) (mm_from := mm_from) (mm_to := mm_to) (mm_weight := mm_weight) (mm_cost := mm_cost) (mm_numbers := mm_numbers) (mm_state := mm_state) (mm_worth := mm_worth) (mm_long1 := mm_long1) (mm_howMany := mm_howMany) (mm_rows := mm_rows) (mm_inPart := mm_inPart) (mm_partCount := mm_partCount) (mm_nf := mm_nf) (mm_nt := mm_nt) (mm_nw := mm_nw) (mm_nc := mm_nc) (mm_column := mm_column) (mm_next := mm_next) (mm_inside := mm_inside) (mm_beside := mm_beside) (mm_solid := mm_solid) (mm_below := mm_below) (mm_best := mm_best) (mm_ways1 := mm_ways1) (mm_round := mm_round) (mm_round2 := mm_round2) (mm_label := mm_label) (mm_bridge := mm_bridge) (mm_outs := mm_outs) (mm_ins := mm_ins) (mm_least := mm_least) (mm_spans := mm_spans) (mm_joinedWith := mm_joinedWith) (mm_gone := mm_gone) (mm_dear := mm_dear) (mm_by := mm_by) (mm_ahead := mm_ahead) (mm_image := mm_image) (rf := 0) (cnt := 0) (nm := 0) (p1 := (xs 1)) (p2 := (xs 2)) (p3 := (xs 3)) (p4 := (xs 4)) (x0 := 1) (f1 := upd (fun _ => 0) 120 1) (by omega) h_36 h_37 (hb0) (rfl)) rfl (by omega) (Nat.le_of_ble_eq_true rfl) (by omega) (by omega) rfl (fun r9 hp_33 nn_34 hq_35 => ?_)
    obtain ⟨rfl, hq_35n, h_38, ho_39⟩ := hq_35
    subst nn_34
    change Rn _ _ _ 233 _ [.int ((-3)), .int ((-3))] _ _ _ _ _
    refine r_icmp_eq (pc := 233) (tgt := 1077) dL_law_233 (by decide) (fun _ => ?_) (fun c9 => absurd (rfl) c9)
    refine Rn.pick (lv' := [(0, .ref b), (1, .ref x), (2, .ref y), (3, .int ((nI 0)))]) [0, 1, 2, 3] rfl ?_
    exact law_end
set_option maxHeartbeats 4000000 in
set_option maxRecDepth 100000 in
theorem law_2 {D : va_G} {cI cJ cZ cT : ClassId} {lo b : Nat} {xs : Nat → Int32} {hp : MH} {n d kr wr : Nat} {x th dr sk sh se pa fl sa af au aw ac al : Nat} {y mm_sorts mm_sizes mm_directs mm_many mm_from mm_to mm_weight mm_cost mm_numbers mm_state mm_worth mm_long1 mm_howMany mm_rows mm_inPart mm_partCount mm_nf mm_nt mm_nw mm_nc mm_column mm_next mm_inside mm_beside mm_solid mm_below mm_best mm_ways1 mm_round mm_round2 mm_label mm_bridge mm_outs mm_ins mm_least mm_spans mm_joinedWith mm_gone mm_dear mm_by mm_ahead mm_image : Nat} (hd0 : 10 ≤ d) (hkr : 20 ≤ kr) (hwr : 300 ≤ wr) (gc0 : hp x = some (.inr (10, [.ref th, .int 0, .int 0, .ref dr, .ref sk, .ref sh, .ref se, .ref pa, .ref fl, .ref sa]))) (gc1 : hp th = some (.inl (cT, 120, .inr (.inr (.inr (.inr (fun _ => none))))))) (gc2 : hp dr = some (.inr (1, [.int 1, .int 0, .int 0, .ref af, .ref au, .ref aw, .ref ac, .ref al]))) (gc3 : hp af = some (.inl (cI, 60, .inl (fun _ => 0)))) (gc4 : hp au = some (.inl (cI, 60, .inl (fun _ => 0)))) (gc5 : hp aw = some (.inl (cI, 60, .inl (fun _ => 0)))) (gc6 : hp ac = some (.inl (cI, 60, .inl (fun _ => 0)))) (gc7 : hp y = some (.inr (11, [.int 0, .int 0, .ref mm_sorts, .ref mm_sizes, .ref mm_directs, .ref mm_many, .ref mm_from, .ref mm_to, .ref mm_weight, .ref mm_cost, .ref mm_numbers, .ref mm_state, .ref mm_worth, .ref mm_long1, .ref mm_howMany, .ref mm_rows, .ref mm_inPart, .ref mm_partCount, .ref mm_nf, .ref mm_nt, .ref mm_nw, .ref mm_nc, .int 0, .ref mm_column, .ref mm_next, .ref mm_inside, .ref mm_beside, .ref mm_solid, .ref mm_below, .ref mm_best, .ref mm_ways1, .ref mm_round, .ref mm_round2, .ref mm_label, .ref mm_bridge, .ref mm_outs, .ref mm_ins, .ref mm_least, .ref mm_spans, .ref mm_joinedWith, .ref mm_gone, .ref mm_dear, .ref mm_by, .ref mm_ahead, .ref mm_image]))) (gc8 : hp mm_sorts = some (.inl (cI, 121, .inl (fun _ => 0)))) (gc9 : hp mm_sizes = some (.inl (cI, 121, .inl (upd (fun _ => 0) 120 1)))) (gc10 : hp mm_directs = some (.inl (cZ, 121, .inl (upd (fun _ => 0) 120 0)))) (gc11 : hp mm_many = some (.inl (cI, 121, .inl (upd (fun _ => 0) 120 0)))) (gc12 : hp mm_from = some (.inl (cI, 7260, .inl (fun _ => 0)))) (gc13 : hp mm_to = some (.inl (cI, 7260, .inl (fun _ => 0)))) (gc14 : hp mm_weight = some (.inl (cI, 7260, .inl (fun _ => 0)))) (gc15 : hp mm_cost = some (.inl (cI, 7260, .inl (fun _ => 0)))) (gc16 : hp mm_numbers = some (.inl (cJ, 1936, .inr (.inl (fun _ => 0))))) (gc17 : hp mm_column = some (.inl (cJ, 16, .inr (.inl (fun _ => 0))))) (ne_af_au : af ≠ au) (ne_af_aw : af ≠ aw) (ne_af_ac : af ≠ ac) (ne_af_mm_sorts : af ≠ mm_sorts) (ne_af_mm_sizes : af ≠ mm_sizes) (ne_af_mm_many : af ≠ mm_many) (ne_af_mm_from : af ≠ mm_from) (ne_af_mm_to : af ≠ mm_to) (ne_af_mm_weight : af ≠ mm_weight) (ne_af_mm_cost : af ≠ mm_cost) (ne_au_aw : au ≠ aw) (ne_au_ac : au ≠ ac) (ne_au_mm_sorts : au ≠ mm_sorts) (ne_au_mm_sizes : au ≠ mm_sizes) (ne_au_mm_many : au ≠ mm_many) (ne_au_mm_from : au ≠ mm_from) (ne_au_mm_to : au ≠ mm_to) (ne_au_mm_weight : au ≠ mm_weight) (ne_au_mm_cost : au ≠ mm_cost) (ne_aw_ac : aw ≠ ac) (ne_aw_mm_sorts : aw ≠ mm_sorts) (ne_aw_mm_sizes : aw ≠ mm_sizes) (ne_aw_mm_many : aw ≠ mm_many) (ne_aw_mm_from : aw ≠ mm_from) (ne_aw_mm_to : aw ≠ mm_to) (ne_aw_mm_weight : aw ≠ mm_weight) (ne_aw_mm_cost : aw ≠ mm_cost) (ne_ac_mm_sorts : ac ≠ mm_sorts) (ne_ac_mm_sizes : ac ≠ mm_sizes) (ne_ac_mm_many : ac ≠ mm_many) (ne_ac_mm_from : ac ≠ mm_from) (ne_ac_mm_to : ac ≠ mm_to) (ne_ac_mm_weight : ac ≠ mm_weight) (ne_ac_mm_cost : ac ≠ mm_cost) (ne_mm_sorts_mm_sizes : mm_sorts ≠ mm_sizes) (ne_mm_sorts_mm_many : mm_sorts ≠ mm_many) (ne_mm_sorts_mm_from : mm_sorts ≠ mm_from) (ne_mm_sorts_mm_to : mm_sorts ≠ mm_to) (ne_mm_sorts_mm_weight : mm_sorts ≠ mm_weight) (ne_mm_sorts_mm_cost : mm_sorts ≠ mm_cost) (ne_mm_sizes_mm_many : mm_sizes ≠ mm_many) (ne_mm_sizes_mm_from : mm_sizes ≠ mm_from) (ne_mm_sizes_mm_to : mm_sizes ≠ mm_to) (ne_mm_sizes_mm_weight : mm_sizes ≠ mm_weight) (ne_mm_sizes_mm_cost : mm_sizes ≠ mm_cost) (ne_mm_many_mm_from : mm_many ≠ mm_from) (ne_mm_many_mm_to : mm_many ≠ mm_to) (ne_mm_many_mm_weight : mm_many ≠ mm_weight) (ne_mm_many_mm_cost : mm_many ≠ mm_cost) (ne_mm_from_mm_to : mm_from ≠ mm_to) (ne_mm_from_mm_weight : mm_from ≠ mm_weight) (ne_mm_from_mm_cost : mm_from ≠ mm_cost) (ne_mm_to_mm_weight : mm_to ≠ mm_weight) (ne_mm_to_mm_cost : mm_to ≠ mm_cost) (ne_mm_weight_mm_cost : mm_weight ≠ mm_cost) (ne_nu_col : mm_numbers ≠ mm_column) (ne_di_si : mm_directs ≠ mm_sizes) (ne_di_ma : mm_directs ≠ mm_many) (ne_di_so : mm_directs ≠ mm_sorts) (ne_di_af : mm_directs ≠ af) (ne_di_au : mm_directs ≠ au) (ne_di_aw : mm_directs ≠ aw) (ne_di_ac : mm_directs ≠ ac) (ne_di_mm_from : mm_directs ≠ mm_from) (ne_di_mm_to : mm_directs ≠ mm_to) (ne_di_mm_weight : mm_directs ≠ mm_weight) (ne_di_mm_cost : mm_directs ≠ mm_cost) : Rn (gG D cI cJ cZ cT lo b 7 xs) mL_law d 238 [(0, .ref b), (1, .ref x), (2, .ref y), (3, .int ((nI 0)))] [] hp n kr wr (fun r _ _ => r = some (.int 1)) := by
  refine r_aload_n (pc := 238) dL_law_238 (i := 1) rfl rfl ?_
  refine r_callV (pc := 239) (as := []) (st := []) kL_23 rfl dL_law_239 gc0 (c_X11_graph_0 (d := d - 1) (x := x) (th := th) (dr := dr) (sk := sk) (sh := sh) (se := se) (pa := pa) (fl := fl) (sa := sa) (rf := 0) (af := af) (au := au) (aw := aw) (ac := ac) (al := al) (N := 1) (i := 0) (q := false) (f1 := fun _ => 0) (f2 := fun _ => 0) (f3 := fun _ => 0) (f4 := fun _ => 0) (f := fun _ => none) (by omega) gc0 gc2 gc3 gc4 gc5 gc6 gc1 (by omega) (by omega)) rfl (by omega) (Nat.le_of_ble_eq_true rfl) (by omega) (by omega) rfl (fun r9 hp_1 nn_2 hq_3 => ?_)
  obtain ⟨rfl, hq_3n, h_4, h_5, ho_6⟩ := hq_3
  subst nn_2
  change Rn _ _ _ 242 _ [.int ((nI 0))] _ _ _ _ _
  refine r_aload_n (pc := 242) dL_law_242 (i := 2) rfl rfl ?_
  have h_10 : hp_1 y = some (.inr (11, [.int 0, .int 0, .ref mm_sorts, .ref mm_sizes, .ref mm_directs, .ref mm_many, .ref mm_from, .ref mm_to, .ref mm_weight, .ref mm_cost, .ref mm_numbers, .ref mm_state, .ref mm_worth, .ref mm_long1, .ref mm_howMany, .ref mm_rows, .ref mm_inPart, .ref mm_partCount, .ref mm_nf, .ref mm_nt, .ref mm_nw, .ref mm_nc, .int 0, .ref mm_column, .ref mm_next, .ref mm_inside, .ref mm_beside, .ref mm_solid, .ref mm_below, .ref mm_best, .ref mm_ways1, .ref mm_round, .ref mm_round2, .ref mm_label, .ref mm_bridge, .ref mm_outs, .ref mm_ins, .ref mm_least, .ref mm_spans, .ref mm_joinedWith, .ref mm_gone, .ref mm_dear, .ref mm_by, .ref mm_ahead, .ref mm_image])) := (ho_6 y _ gc7 (ne_c gc7 gc0 (by intro h9; cases h9)) (ne_c gc7 gc1 (by intro h9; cases h9)))
  have h_11 : hp_1 mm_sorts = some (.inl (cI, 121, .inl (fun _ => 0))) := (ho_6 mm_sorts _ gc8 (ne_c gc8 gc0 (by intro h9; cases h9)) (ne_c gc8 gc1 (by simp)))
  have h_12 : hp_1 mm_sizes = some (.inl (cI, 121, .inl (upd (fun _ => 0) 120 1))) := (ho_6 mm_sizes _ gc9 (ne_c gc9 gc0 (by intro h9; cases h9)) (ne_c gc9 gc1 (by simp)))
  have h_13 : hp_1 mm_directs = some (.inl (cZ, 121, .inl (upd (fun _ => 0) 120 0))) := (ho_6 mm_directs _ gc10 (ne_c gc10 gc0 (by intro h9; cases h9)) (ne_c gc10 gc1 (by simp)))
  have h_14 : hp_1 mm_many = some (.inl (cI, 121, .inl (upd (fun _ => 0) 120 0))) := (ho_6 mm_many _ gc11 (ne_c gc11 gc0 (by intro h9; cases h9)) (ne_c gc11 gc1 (by simp)))
  refine r_callV (pc := 243) (as := []) (st := [.int ((nI 0))]) kL_27 rfl dL_law_243 h_10 (c_X12_graph_0 (d := d - 1) (y := y) (mm_sorts := mm_sorts) (mm_sizes := mm_sizes) (mm_directs := mm_directs) (mm_many := mm_many) (mm_from := mm_from) (mm_to := mm_to) (mm_weight := mm_weight) (mm_cost := mm_cost) (mm_numbers := mm_numbers) (mm_state := mm_state) (mm_worth := mm_worth) (mm_long1 := mm_long1) (mm_howMany := mm_howMany) (mm_rows := mm_rows) (mm_inPart := mm_inPart) (mm_partCount := mm_partCount) (mm_nf := mm_nf) (mm_nt := mm_nt) (mm_nw := mm_nw) (mm_nc := mm_nc) (mm_column := mm_column) (mm_next := mm_next) (mm_inside := mm_inside) (mm_beside := mm_beside) (mm_solid := mm_solid) (mm_below := mm_below) (mm_best := mm_best) (mm_ways1 := mm_ways1) (mm_round := mm_round) (mm_round2 := mm_round2) (mm_label := mm_label) (mm_bridge := mm_bridge) (mm_outs := mm_outs) (mm_ins := mm_ins) (mm_least := mm_least) (mm_spans := mm_spans) (mm_joinedWith := mm_joinedWith) (mm_gone := mm_gone) (mm_dear := mm_dear) (mm_by := mm_by) (mm_ahead := mm_ahead) (mm_image := mm_image) (rf := 0) (nm := 0) (p1 := 1) (q2 := false) (i := 0) (f0 := fun _ => 0) (f1 := upd (fun _ => 0) 120 1) (f2 := upd (fun _ => 0) 120 0) (f3 := upd (fun _ => 0) 120 0) (by omega) h_10 h_11 h_12 h_13 h_14 (by omega) (rfl) (rfl) (rfl) (ne_mm_sorts_mm_sizes) (ne_mm_sorts_mm_many) ((Ne.symm ne_di_so)) (ne_mm_sizes_mm_many) ((Ne.symm ne_di_si)) (ne_di_ma)) rfl (by omega) (Nat.le_of_ble_eq_true rfl) (by omega) (by omega) rfl (fun r9 hp_7 nn_8 hq_9 => ?_)
  obtain ⟨rfl, hq_9n, h_15, h_16, h_17, h_18, h_19, ho_20⟩ := hq_9
  subst nn_8
  change Rn _ _ _ 246 _ [.int ((nI 0)), .int ((nI 0))] _ _ _ _ _
  refine r_icmp_eq (pc := 246) (tgt := 1077) dL_law_246 (by decide) (fun _ => ?_) (fun c9 => absurd (rfl) c9)
  refine Rn.pick (lv' := [(0, .ref b), (1, .ref x), (2, .ref y), (3, .int ((nI 0)))]) [0, 1, 2, 3] rfl ?_
  exact law_end
set_option maxHeartbeats 4000000 in
set_option maxRecDepth 100000 in
theorem law_3 {D : va_G} {cI cJ cZ cT : ClassId} {lo b : Nat} {xs : Nat → Int32} {hp : MH} {n d kr wr : Nat} {x th dr sk sh se pa fl sa af au aw ac al : Nat} {y mm_sorts mm_sizes mm_directs mm_many mm_from mm_to mm_weight mm_cost mm_numbers mm_state mm_worth mm_long1 mm_howMany mm_rows mm_inPart mm_partCount mm_nf mm_nt mm_nw mm_nc mm_column mm_next mm_inside mm_beside mm_solid mm_below mm_best mm_ways1 mm_round mm_round2 mm_label mm_bridge mm_outs mm_ins mm_least mm_spans mm_joinedWith mm_gone mm_dear mm_by mm_ahead mm_image : Nat} (hd0 : 10 ≤ d) (hkr : 20 ≤ kr) (hwr : 300 ≤ wr) (gc0 : hp x = some (.inr (10, [.ref th, .int 0, .int 0, .ref dr, .ref sk, .ref sh, .ref se, .ref pa, .ref fl, .ref sa]))) (gc1 : hp th = some (.inl (cT, 120, .inr (.inr (.inr (.inr (fun _ => none))))))) (gc2 : hp dr = some (.inr (1, [.int 1, .int 0, .int 0, .ref af, .ref au, .ref aw, .ref ac, .ref al]))) (gc3 : hp af = some (.inl (cI, 60, .inl (fun _ => 0)))) (gc4 : hp au = some (.inl (cI, 60, .inl (fun _ => 0)))) (gc5 : hp aw = some (.inl (cI, 60, .inl (fun _ => 0)))) (gc6 : hp ac = some (.inl (cI, 60, .inl (fun _ => 0)))) (gc7 : hp y = some (.inr (11, [.int 0, .int 0, .ref mm_sorts, .ref mm_sizes, .ref mm_directs, .ref mm_many, .ref mm_from, .ref mm_to, .ref mm_weight, .ref mm_cost, .ref mm_numbers, .ref mm_state, .ref mm_worth, .ref mm_long1, .ref mm_howMany, .ref mm_rows, .ref mm_inPart, .ref mm_partCount, .ref mm_nf, .ref mm_nt, .ref mm_nw, .ref mm_nc, .int 0, .ref mm_column, .ref mm_next, .ref mm_inside, .ref mm_beside, .ref mm_solid, .ref mm_below, .ref mm_best, .ref mm_ways1, .ref mm_round, .ref mm_round2, .ref mm_label, .ref mm_bridge, .ref mm_outs, .ref mm_ins, .ref mm_least, .ref mm_spans, .ref mm_joinedWith, .ref mm_gone, .ref mm_dear, .ref mm_by, .ref mm_ahead, .ref mm_image]))) (gc8 : hp mm_sorts = some (.inl (cI, 121, .inl (fun _ => 0)))) (gc9 : hp mm_sizes = some (.inl (cI, 121, .inl (upd (fun _ => 0) 120 1)))) (gc10 : hp mm_directs = some (.inl (cZ, 121, .inl (upd (fun _ => 0) 120 0)))) (gc11 : hp mm_many = some (.inl (cI, 121, .inl (upd (fun _ => 0) 120 0)))) (gc12 : hp mm_from = some (.inl (cI, 7260, .inl (fun _ => 0)))) (gc13 : hp mm_to = some (.inl (cI, 7260, .inl (fun _ => 0)))) (gc14 : hp mm_weight = some (.inl (cI, 7260, .inl (fun _ => 0)))) (gc15 : hp mm_cost = some (.inl (cI, 7260, .inl (fun _ => 0)))) (gc16 : hp mm_numbers = some (.inl (cJ, 1936, .inr (.inl (fun _ => 0))))) (gc17 : hp mm_column = some (.inl (cJ, 16, .inr (.inl (fun _ => 0))))) (ne_af_au : af ≠ au) (ne_af_aw : af ≠ aw) (ne_af_ac : af ≠ ac) (ne_af_mm_sorts : af ≠ mm_sorts) (ne_af_mm_sizes : af ≠ mm_sizes) (ne_af_mm_many : af ≠ mm_many) (ne_af_mm_from : af ≠ mm_from) (ne_af_mm_to : af ≠ mm_to) (ne_af_mm_weight : af ≠ mm_weight) (ne_af_mm_cost : af ≠ mm_cost) (ne_au_aw : au ≠ aw) (ne_au_ac : au ≠ ac) (ne_au_mm_sorts : au ≠ mm_sorts) (ne_au_mm_sizes : au ≠ mm_sizes) (ne_au_mm_many : au ≠ mm_many) (ne_au_mm_from : au ≠ mm_from) (ne_au_mm_to : au ≠ mm_to) (ne_au_mm_weight : au ≠ mm_weight) (ne_au_mm_cost : au ≠ mm_cost) (ne_aw_ac : aw ≠ ac) (ne_aw_mm_sorts : aw ≠ mm_sorts) (ne_aw_mm_sizes : aw ≠ mm_sizes) (ne_aw_mm_many : aw ≠ mm_many) (ne_aw_mm_from : aw ≠ mm_from) (ne_aw_mm_to : aw ≠ mm_to) (ne_aw_mm_weight : aw ≠ mm_weight) (ne_aw_mm_cost : aw ≠ mm_cost) (ne_ac_mm_sorts : ac ≠ mm_sorts) (ne_ac_mm_sizes : ac ≠ mm_sizes) (ne_ac_mm_many : ac ≠ mm_many) (ne_ac_mm_from : ac ≠ mm_from) (ne_ac_mm_to : ac ≠ mm_to) (ne_ac_mm_weight : ac ≠ mm_weight) (ne_ac_mm_cost : ac ≠ mm_cost) (ne_mm_sorts_mm_sizes : mm_sorts ≠ mm_sizes) (ne_mm_sorts_mm_many : mm_sorts ≠ mm_many) (ne_mm_sorts_mm_from : mm_sorts ≠ mm_from) (ne_mm_sorts_mm_to : mm_sorts ≠ mm_to) (ne_mm_sorts_mm_weight : mm_sorts ≠ mm_weight) (ne_mm_sorts_mm_cost : mm_sorts ≠ mm_cost) (ne_mm_sizes_mm_many : mm_sizes ≠ mm_many) (ne_mm_sizes_mm_from : mm_sizes ≠ mm_from) (ne_mm_sizes_mm_to : mm_sizes ≠ mm_to) (ne_mm_sizes_mm_weight : mm_sizes ≠ mm_weight) (ne_mm_sizes_mm_cost : mm_sizes ≠ mm_cost) (ne_mm_many_mm_from : mm_many ≠ mm_from) (ne_mm_many_mm_to : mm_many ≠ mm_to) (ne_mm_many_mm_weight : mm_many ≠ mm_weight) (ne_mm_many_mm_cost : mm_many ≠ mm_cost) (ne_mm_from_mm_to : mm_from ≠ mm_to) (ne_mm_from_mm_weight : mm_from ≠ mm_weight) (ne_mm_from_mm_cost : mm_from ≠ mm_cost) (ne_mm_to_mm_weight : mm_to ≠ mm_weight) (ne_mm_to_mm_cost : mm_to ≠ mm_cost) (ne_mm_weight_mm_cost : mm_weight ≠ mm_cost) (ne_nu_col : mm_numbers ≠ mm_column) (ne_di_si : mm_directs ≠ mm_sizes) (ne_di_ma : mm_directs ≠ mm_many) (ne_di_so : mm_directs ≠ mm_sorts) (ne_di_af : mm_directs ≠ af) (ne_di_au : mm_directs ≠ au) (ne_di_aw : mm_directs ≠ aw) (ne_di_ac : mm_directs ≠ ac) (ne_di_mm_from : mm_directs ≠ mm_from) (ne_di_mm_to : mm_directs ≠ mm_to) (ne_di_mm_weight : mm_directs ≠ mm_weight) (ne_di_mm_cost : mm_directs ≠ mm_cost) : Rn (gG D cI cJ cZ cT lo b 7 xs) mL_law d 251 [(0, .ref b), (1, .ref x), (2, .ref y), (3, .int ((nI 0)))] [] hp n kr wr (fun r _ _ => r = some (.int 1)) := by
  refine r_aload_n (pc := 251) dL_law_251 (i := 1) rfl rfl ?_
  refine r_aload_n (pc := 252) dL_law_252 (i := 0) rfl rfl ?_
  refine r_iload_n (pc := 253) dL_law_253 (i := 3) rfl rfl ?_
  refine r_iconst (pc := 254) (v := 1) dL_law_254 (by decide) ?_
  refine r_iadd (pc := 255) (v := (nI 1)) dL_law_255 (by decide) ?_
  refine w_sld (pc := 256) (v := (xs 1)) dL_law_256 (show vp_in (nI 1) 7 from vp_in_nI (by decide) (by decide)) (congrArg xs (nI_clamp (by decide))) ?_
  refine r_aload_n (pc := 257) dL_law_257 (i := 0) rfl rfl ?_
  refine r_iload_n (pc := 258) dL_law_258 (i := 3) rfl rfl ?_
  refine r_iconst (pc := 259) (v := 2) dL_law_259 (by decide) ?_
  refine r_iadd (pc := 260) (v := (nI 2)) dL_law_260 (by decide) ?_
  refine w_sld (pc := 261) (v := (xs 2)) dL_law_261 (show vp_in (nI 2) 7 from vp_in_nI (by decide) (by decide)) (congrArg xs (nI_clamp (by decide))) ?_
  refine r_aload_n (pc := 262) dL_law_262 (i := 0) rfl rfl ?_
  refine r_iload_n (pc := 263) dL_law_263 (i := 3) rfl rfl ?_
  refine r_iconst (pc := 264) (v := 3) dL_law_264 (by decide) ?_
  refine r_iadd (pc := 265) (v := (nI 3)) dL_law_265 (by decide) ?_
  refine w_sld (pc := 266) (v := (xs 3)) dL_law_266 (show vp_in (nI 3) 7 from vp_in_nI (by decide) (by decide)) (congrArg xs (nI_clamp (by decide))) ?_
  refine r_callV (pc := 267) (as := [.int ((xs 1)), .int ((xs 2)), .int ((xs 3))]) (st := []) kL_28 rfl dL_law_267 gc0 (c_X11_view_n (d := d - 1) (x := x) (th := th) (dr := dr) (sk := sk) (sh := sh) (se := se) (pa := pa) (fl := fl) (sa := sa) (cnt := 0) (rf := 0) (p1 := (xs 1)) (p2 := (xs 2)) (p3 := (xs 3)) (by omega) gc0 (no0 (xs 1))) rfl (by omega) (Nat.le_of_ble_eq_true rfl) (by omega) (by omega) rfl (fun r9 hp_1 nn_2 hq_3 => ?_)
  obtain ⟨rfl, hq_3n, h_4, ho_5⟩ := hq_3
  subst nn_2
  change Rn _ _ _ 270 _ [.int ((-1))] _ _ _ _ _
  refine r_aload_n (pc := 270) dL_law_270 (i := 2) rfl rfl ?_
  refine r_aload_n (pc := 271) dL_law_271 (i := 0) rfl rfl ?_
  refine r_iload_n (pc := 272) dL_law_272 (i := 3) rfl rfl ?_
  refine r_iconst (pc := 273) (v := 1) dL_law_273 (by decide) ?_
  refine r_iadd (pc := 274) (v := (nI 1)) dL_law_274 (by decide) ?_
  refine w_sld (pc := 275) (v := (xs 1)) dL_law_275 (show vp_in (nI 1) 7 from vp_in_nI (by decide) (by decide)) (congrArg xs (nI_clamp (by decide))) ?_
  refine r_aload_n (pc := 276) dL_law_276 (i := 0) rfl rfl ?_
  refine r_iload_n (pc := 277) dL_law_277 (i := 3) rfl rfl ?_
  refine r_iconst (pc := 278) (v := 2) dL_law_278 (by decide) ?_
  refine r_iadd (pc := 279) (v := (nI 2)) dL_law_279 (by decide) ?_
  refine w_sld (pc := 280) (v := (xs 2)) dL_law_280 (show vp_in (nI 2) 7 from vp_in_nI (by decide) (by decide)) (congrArg xs (nI_clamp (by decide))) ?_
  refine r_aload_n (pc := 281) dL_law_281 (i := 0) rfl rfl ?_
  refine r_iload_n (pc := 282) dL_law_282 (i := 3) rfl rfl ?_
  refine r_iconst (pc := 283) (v := 3) dL_law_283 (by decide) ?_
  refine r_iadd (pc := 284) (v := (nI 3)) dL_law_284 (by decide) ?_
  refine w_sld (pc := 285) (v := (xs 3)) dL_law_285 (show vp_in (nI 3) 7 from vp_in_nI (by decide) (by decide)) (congrArg xs (nI_clamp (by decide))) ?_
  have h_9 : hp_1 y = some (.inr (11, [.int 0, .int 0, .ref mm_sorts, .ref mm_sizes, .ref mm_directs, .ref mm_many, .ref mm_from, .ref mm_to, .ref mm_weight, .ref mm_cost, .ref mm_numbers, .ref mm_state, .ref mm_worth, .ref mm_long1, .ref mm_howMany, .ref mm_rows, .ref mm_inPart, .ref mm_partCount, .ref mm_nf, .ref mm_nt, .ref mm_nw, .ref mm_nc, .int 0, .ref mm_column, .ref mm_next, .ref mm_inside, .ref mm_beside, .ref mm_solid, .ref mm_below, .ref mm_best, .ref mm_ways1, .ref mm_round, .ref mm_round2, .ref mm_label, .ref mm_bridge, .ref mm_outs, .ref mm_ins, .ref mm_least, .ref mm_spans, .ref mm_joinedWith, .ref mm_gone, .ref mm_dear, .ref mm_by, .ref mm_ahead, .ref mm_image])) := (ho_5 y _ gc7 (ne_c gc7 gc0 (by intro h9; cases h9)))
  refine r_callV (pc := 286) (as := [.int ((xs 1)), .int ((xs 2)), .int ((xs 3))]) (st := [.int ((-1))]) kL_32 rfl dL_law_286 h_9 (c_X12_view_n (d := d - 1) (y := y) (mm_sorts := mm_sorts) (mm_sizes := mm_sizes) (mm_directs := mm_directs) (mm_many := mm_many) (mm_from := mm_from) (mm_to := mm_to) (mm_weight := mm_weight) (mm_cost := mm_cost) (mm_numbers := mm_numbers) (mm_state := mm_state) (mm_worth := mm_worth) (mm_long1 := mm_long1) (mm_howMany := mm_howMany) (mm_rows := mm_rows) (mm_inPart := mm_inPart) (mm_partCount := mm_partCount) (mm_nf := mm_nf) (mm_nt := mm_nt) (mm_nw := mm_nw) (mm_nc := mm_nc) (mm_column := mm_column) (mm_next := mm_next) (mm_inside := mm_inside) (mm_beside := mm_beside) (mm_solid := mm_solid) (mm_below := mm_below) (mm_best := mm_best) (mm_ways1 := mm_ways1) (mm_round := mm_round) (mm_round2 := mm_round2) (mm_label := mm_label) (mm_bridge := mm_bridge) (mm_outs := mm_outs) (mm_ins := mm_ins) (mm_least := mm_least) (mm_spans := mm_spans) (mm_joinedWith := mm_joinedWith) (mm_gone := mm_gone) (mm_dear := mm_dear) (mm_by := mm_by) (mm_ahead := mm_ahead) (mm_image := mm_image) (rf := 0) (cnt := 0) (nm := 0) (p1 := (xs 1)) (p2 := (xs 2)) (p3 := (xs 3)) (by omega) h_9 (no0 (xs 1))) rfl (by omega) (Nat.le_of_ble_eq_true rfl) (by omega) (by omega) rfl (fun r9 hp_6 nn_7 hq_8 => ?_)
  obtain ⟨rfl, hq_8n, h_10, ho_11⟩ := hq_8
  subst nn_7
  change Rn _ _ _ 289 _ [.int ((-1)), .int ((-1))] _ _ _ _ _
  refine r_icmp_eq (pc := 289) (tgt := 1077) dL_law_289 (by decide) (fun _ => ?_) (fun c9 => absurd (rfl) c9)
  refine Rn.pick (lv' := [(0, .ref b), (1, .ref x), (2, .ref y), (3, .int ((nI 0)))]) [0, 1, 2, 3] rfl ?_
  exact law_end
set_option maxHeartbeats 4000000 in
set_option maxRecDepth 100000 in
theorem law_4 {D : va_G} {cI cJ cZ cT : ClassId} {lo b : Nat} {xs : Nat → Int32} {hp : MH} {n d kr wr : Nat} {x th dr sk sh se pa fl sa af au aw ac al : Nat} {y mm_sorts mm_sizes mm_directs mm_many mm_from mm_to mm_weight mm_cost mm_numbers mm_state mm_worth mm_long1 mm_howMany mm_rows mm_inPart mm_partCount mm_nf mm_nt mm_nw mm_nc mm_column mm_next mm_inside mm_beside mm_solid mm_below mm_best mm_ways1 mm_round mm_round2 mm_label mm_bridge mm_outs mm_ins mm_least mm_spans mm_joinedWith mm_gone mm_dear mm_by mm_ahead mm_image : Nat} (hd0 : 10 ≤ d) (hkr : 20 ≤ kr) (hwr : 300 ≤ wr) (gc0 : hp x = some (.inr (10, [.ref th, .int 0, .int 0, .ref dr, .ref sk, .ref sh, .ref se, .ref pa, .ref fl, .ref sa]))) (gc1 : hp th = some (.inl (cT, 120, .inr (.inr (.inr (.inr (fun _ => none))))))) (gc2 : hp dr = some (.inr (1, [.int 1, .int 0, .int 0, .ref af, .ref au, .ref aw, .ref ac, .ref al]))) (gc3 : hp af = some (.inl (cI, 60, .inl (fun _ => 0)))) (gc4 : hp au = some (.inl (cI, 60, .inl (fun _ => 0)))) (gc5 : hp aw = some (.inl (cI, 60, .inl (fun _ => 0)))) (gc6 : hp ac = some (.inl (cI, 60, .inl (fun _ => 0)))) (gc7 : hp y = some (.inr (11, [.int 0, .int 0, .ref mm_sorts, .ref mm_sizes, .ref mm_directs, .ref mm_many, .ref mm_from, .ref mm_to, .ref mm_weight, .ref mm_cost, .ref mm_numbers, .ref mm_state, .ref mm_worth, .ref mm_long1, .ref mm_howMany, .ref mm_rows, .ref mm_inPart, .ref mm_partCount, .ref mm_nf, .ref mm_nt, .ref mm_nw, .ref mm_nc, .int 0, .ref mm_column, .ref mm_next, .ref mm_inside, .ref mm_beside, .ref mm_solid, .ref mm_below, .ref mm_best, .ref mm_ways1, .ref mm_round, .ref mm_round2, .ref mm_label, .ref mm_bridge, .ref mm_outs, .ref mm_ins, .ref mm_least, .ref mm_spans, .ref mm_joinedWith, .ref mm_gone, .ref mm_dear, .ref mm_by, .ref mm_ahead, .ref mm_image]))) (gc8 : hp mm_sorts = some (.inl (cI, 121, .inl (fun _ => 0)))) (gc9 : hp mm_sizes = some (.inl (cI, 121, .inl (upd (fun _ => 0) 120 1)))) (gc10 : hp mm_directs = some (.inl (cZ, 121, .inl (upd (fun _ => 0) 120 0)))) (gc11 : hp mm_many = some (.inl (cI, 121, .inl (upd (fun _ => 0) 120 0)))) (gc12 : hp mm_from = some (.inl (cI, 7260, .inl (fun _ => 0)))) (gc13 : hp mm_to = some (.inl (cI, 7260, .inl (fun _ => 0)))) (gc14 : hp mm_weight = some (.inl (cI, 7260, .inl (fun _ => 0)))) (gc15 : hp mm_cost = some (.inl (cI, 7260, .inl (fun _ => 0)))) (gc16 : hp mm_numbers = some (.inl (cJ, 1936, .inr (.inl (fun _ => 0))))) (gc17 : hp mm_column = some (.inl (cJ, 16, .inr (.inl (fun _ => 0))))) (ne_af_au : af ≠ au) (ne_af_aw : af ≠ aw) (ne_af_ac : af ≠ ac) (ne_af_mm_sorts : af ≠ mm_sorts) (ne_af_mm_sizes : af ≠ mm_sizes) (ne_af_mm_many : af ≠ mm_many) (ne_af_mm_from : af ≠ mm_from) (ne_af_mm_to : af ≠ mm_to) (ne_af_mm_weight : af ≠ mm_weight) (ne_af_mm_cost : af ≠ mm_cost) (ne_au_aw : au ≠ aw) (ne_au_ac : au ≠ ac) (ne_au_mm_sorts : au ≠ mm_sorts) (ne_au_mm_sizes : au ≠ mm_sizes) (ne_au_mm_many : au ≠ mm_many) (ne_au_mm_from : au ≠ mm_from) (ne_au_mm_to : au ≠ mm_to) (ne_au_mm_weight : au ≠ mm_weight) (ne_au_mm_cost : au ≠ mm_cost) (ne_aw_ac : aw ≠ ac) (ne_aw_mm_sorts : aw ≠ mm_sorts) (ne_aw_mm_sizes : aw ≠ mm_sizes) (ne_aw_mm_many : aw ≠ mm_many) (ne_aw_mm_from : aw ≠ mm_from) (ne_aw_mm_to : aw ≠ mm_to) (ne_aw_mm_weight : aw ≠ mm_weight) (ne_aw_mm_cost : aw ≠ mm_cost) (ne_ac_mm_sorts : ac ≠ mm_sorts) (ne_ac_mm_sizes : ac ≠ mm_sizes) (ne_ac_mm_many : ac ≠ mm_many) (ne_ac_mm_from : ac ≠ mm_from) (ne_ac_mm_to : ac ≠ mm_to) (ne_ac_mm_weight : ac ≠ mm_weight) (ne_ac_mm_cost : ac ≠ mm_cost) (ne_mm_sorts_mm_sizes : mm_sorts ≠ mm_sizes) (ne_mm_sorts_mm_many : mm_sorts ≠ mm_many) (ne_mm_sorts_mm_from : mm_sorts ≠ mm_from) (ne_mm_sorts_mm_to : mm_sorts ≠ mm_to) (ne_mm_sorts_mm_weight : mm_sorts ≠ mm_weight) (ne_mm_sorts_mm_cost : mm_sorts ≠ mm_cost) (ne_mm_sizes_mm_many : mm_sizes ≠ mm_many) (ne_mm_sizes_mm_from : mm_sizes ≠ mm_from) (ne_mm_sizes_mm_to : mm_sizes ≠ mm_to) (ne_mm_sizes_mm_weight : mm_sizes ≠ mm_weight) (ne_mm_sizes_mm_cost : mm_sizes ≠ mm_cost) (ne_mm_many_mm_from : mm_many ≠ mm_from) (ne_mm_many_mm_to : mm_many ≠ mm_to) (ne_mm_many_mm_weight : mm_many ≠ mm_weight) (ne_mm_many_mm_cost : mm_many ≠ mm_cost) (ne_mm_from_mm_to : mm_from ≠ mm_to) (ne_mm_from_mm_weight : mm_from ≠ mm_weight) (ne_mm_from_mm_cost : mm_from ≠ mm_cost) (ne_mm_to_mm_weight : mm_to ≠ mm_weight) (ne_mm_to_mm_cost : mm_to ≠ mm_cost) (ne_mm_weight_mm_cost : mm_weight ≠ mm_cost) (ne_nu_col : mm_numbers ≠ mm_column) (ne_di_si : mm_directs ≠ mm_sizes) (ne_di_ma : mm_directs ≠ mm_many) (ne_di_so : mm_directs ≠ mm_sorts) (ne_di_af : mm_directs ≠ af) (ne_di_au : mm_directs ≠ au) (ne_di_aw : mm_directs ≠ aw) (ne_di_ac : mm_directs ≠ ac) (ne_di_mm_from : mm_directs ≠ mm_from) (ne_di_mm_to : mm_directs ≠ mm_to) (ne_di_mm_weight : mm_directs ≠ mm_weight) (ne_di_mm_cost : mm_directs ≠ mm_cost) : Rn (gG D cI cJ cZ cT lo b 7 xs) mL_law d 294 [(0, .ref b), (1, .ref x), (2, .ref y), (3, .int ((nI 0)))] [] hp n kr wr (fun r _ _ => r = some (.int 1)) := by
  refine r_aload_n (pc := 294) dL_law_294 (i := 1) rfl rfl ?_
  refine r_aload_n (pc := 295) dL_law_295 (i := 0) rfl rfl ?_
  refine r_iload_n (pc := 296) dL_law_296 (i := 3) rfl rfl ?_
  refine r_iconst (pc := 297) (v := 1) dL_law_297 (by decide) ?_
  refine r_iadd (pc := 298) (v := (nI 1)) dL_law_298 (by decide) ?_
  refine w_sld (pc := 299) (v := (xs 1)) dL_law_299 (show vp_in (nI 1) 7 from vp_in_nI (by decide) (by decide)) (congrArg xs (nI_clamp (by decide))) ?_
  refine r_aload_n (pc := 300) dL_law_300 (i := 0) rfl rfl ?_
  refine r_iload_n (pc := 301) dL_law_301 (i := 3) rfl rfl ?_
  refine r_iconst (pc := 302) (v := 2) dL_law_302 (by decide) ?_
  refine r_iadd (pc := 303) (v := (nI 2)) dL_law_303 (by decide) ?_
  refine w_sld (pc := 304) (v := (xs 2)) dL_law_304 (show vp_in (nI 2) 7 from vp_in_nI (by decide) (by decide)) (congrArg xs (nI_clamp (by decide))) ?_
  refine r_aload_n (pc := 305) dL_law_305 (i := 0) rfl rfl ?_
  refine r_iload_n (pc := 306) dL_law_306 (i := 3) rfl rfl ?_
  refine r_iconst (pc := 307) (v := 3) dL_law_307 (by decide) ?_
  refine r_iadd (pc := 308) (v := (nI 3)) dL_law_308 (by decide) ?_
  refine w_sld (pc := 309) (v := (xs 3)) dL_law_309 (show vp_in (nI 3) 7 from vp_in_nI (by decide) (by decide)) (congrArg xs (nI_clamp (by decide))) ?_
  refine r_if_eq (pc := 310) (tgt := 317) dL_law_310 (by decide) (fun c310 => ?_) (fun c310 => ?_)
  · refine r_iconst (pc := 317) (v := 0) dL_law_317 (by decide) ?_
    refine r_callV (pc := 318) (as := [.int ((xs 1)), .int ((xs 2)), .int 0]) (st := []) kL_33 rfl dL_law_318 gc0 (c_X11_join_n (d := d - 1) (x := x) (th := th) (dr := dr) (sk := sk) (sh := sh) (se := se) (pa := pa) (fl := fl) (sa := sa) (cnt := 0) (rf := 0) (p1 := (xs 1)) (p2 := (xs 2)) (q3 := false) (by omega) gc0 (no0 (xs 1)) (no0 (xs 2))) rfl (by omega) (Nat.le_of_ble_eq_true rfl) (by omega) (by omega) rfl (fun r9 hp_1 nn_2 hq_3 => ?_)
    obtain ⟨rfl, hq_3n, h_4, ho_5⟩ := hq_3
    subst nn_2
    change Rn _ _ _ 321 _ [.int ((-1))] _ _ _ _ _
    refine r_aload_n (pc := 321) dL_law_321 (i := 2) rfl rfl ?_
    refine r_aload_n (pc := 322) dL_law_322 (i := 0) rfl rfl ?_
    refine r_iload_n (pc := 323) dL_law_323 (i := 3) rfl rfl ?_
    refine r_iconst (pc := 324) (v := 1) dL_law_324 (by decide) ?_
    refine r_iadd (pc := 325) (v := (nI 1)) dL_law_325 (by decide) ?_
    refine w_sld (pc := 326) (v := (xs 1)) dL_law_326 (show vp_in (nI 1) 7 from vp_in_nI (by decide) (by decide)) (congrArg xs (nI_clamp (by decide))) ?_
    refine r_aload_n (pc := 327) dL_law_327 (i := 0) rfl rfl ?_
    refine r_iload_n (pc := 328) dL_law_328 (i := 3) rfl rfl ?_
    refine r_iconst (pc := 329) (v := 2) dL_law_329 (by decide) ?_
    refine r_iadd (pc := 330) (v := (nI 2)) dL_law_330 (by decide) ?_
    refine w_sld (pc := 331) (v := (xs 2)) dL_law_331 (show vp_in (nI 2) 7 from vp_in_nI (by decide) (by decide)) (congrArg xs (nI_clamp (by decide))) ?_
    refine r_aload_n (pc := 332) dL_law_332 (i := 0) rfl rfl ?_
    refine r_iload_n (pc := 333) dL_law_333 (i := 3) rfl rfl ?_
    refine r_iconst (pc := 334) (v := 3) dL_law_334 (by decide) ?_
    refine r_iadd (pc := 335) (v := (nI 3)) dL_law_335 (by decide) ?_
    refine w_sld (pc := 336) (v := (xs 3)) dL_law_336 (show vp_in (nI 3) 7 from vp_in_nI (by decide) (by decide)) (congrArg xs (nI_clamp (by decide))) ?_
    refine r_if_eq (pc := 337) (tgt := 344) dL_law_337 (by decide) (fun _ => ?_) (fun c9 => absurd (c310) c9)
    refine r_iconst (pc := 344) (v := 0) dL_law_344 (by decide) ?_
    have h_9 : hp_1 y = some (.inr (11, [.int 0, .int 0, .ref mm_sorts, .ref mm_sizes, .ref mm_directs, .ref mm_many, .ref mm_from, .ref mm_to, .ref mm_weight, .ref mm_cost, .ref mm_numbers, .ref mm_state, .ref mm_worth, .ref mm_long1, .ref mm_howMany, .ref mm_rows, .ref mm_inPart, .ref mm_partCount, .ref mm_nf, .ref mm_nt, .ref mm_nw, .ref mm_nc, .int 0, .ref mm_column, .ref mm_next, .ref mm_inside, .ref mm_beside, .ref mm_solid, .ref mm_below, .ref mm_best, .ref mm_ways1, .ref mm_round, .ref mm_round2, .ref mm_label, .ref mm_bridge, .ref mm_outs, .ref mm_ins, .ref mm_least, .ref mm_spans, .ref mm_joinedWith, .ref mm_gone, .ref mm_dear, .ref mm_by, .ref mm_ahead, .ref mm_image])) := (ho_5 y _ gc7 (ne_c gc7 gc0 (by intro h9; cases h9)))
    refine r_callV (pc := 345) (as := [.int ((xs 1)), .int ((xs 2)), .int 0]) (st := [.int ((-1))]) kL_37 rfl dL_law_345 h_9 (c_X12_join_n (d := d - 1) (y := y) (mm_sorts := mm_sorts) (mm_sizes := mm_sizes) (mm_directs := mm_directs) (mm_many := mm_many) (mm_from := mm_from) (mm_to := mm_to) (mm_weight := mm_weight) (mm_cost := mm_cost) (mm_numbers := mm_numbers) (mm_state := mm_state) (mm_worth := mm_worth) (mm_long1 := mm_long1) (mm_howMany := mm_howMany) (mm_rows := mm_rows) (mm_inPart := mm_inPart) (mm_partCount := mm_partCount) (mm_nf := mm_nf) (mm_nt := mm_nt) (mm_nw := mm_nw) (mm_nc := mm_nc) (mm_column := mm_column) (mm_next := mm_next) (mm_inside := mm_inside) (mm_beside := mm_beside) (mm_solid := mm_solid) (mm_below := mm_below) (mm_best := mm_best) (mm_ways1 := mm_ways1) (mm_round := mm_round) (mm_round2 := mm_round2) (mm_label := mm_label) (mm_bridge := mm_bridge) (mm_outs := mm_outs) (mm_ins := mm_ins) (mm_least := mm_least) (mm_spans := mm_spans) (mm_joinedWith := mm_joinedWith) (mm_gone := mm_gone) (mm_dear := mm_dear) (mm_by := mm_by) (mm_ahead := mm_ahead) (mm_image := mm_image) (rf := 0) (cnt := 0) (nm := 0) (p1 := (xs 1)) (p2 := (xs 2)) (q3 := false) (by omega) h_9 (no0 (xs 1))) rfl (by omega) (Nat.le_of_ble_eq_true rfl) (by omega) (by omega) rfl (fun r9 hp_6 nn_7 hq_8 => ?_)
    obtain ⟨rfl, hq_8n, h_10, ho_11⟩ := hq_8
    subst nn_7
    change Rn _ _ _ 348 _ [.int ((-1)), .int ((-1))] _ _ _ _ _
    refine r_icmp_eq (pc := 348) (tgt := 1077) dL_law_348 (by decide) (fun _ => ?_) (fun c9 => absurd (rfl) c9)
    refine Rn.pick (lv' := [(0, .ref b), (1, .ref x), (2, .ref y), (3, .int ((nI 0)))]) [0, 1, 2, 3] rfl ?_
    exact law_end
  · refine r_iconst (pc := 313) (v := 1) dL_law_313 (by decide) ?_
    refine r_goto (pc := 314) (tgt := 318) dL_law_314 (by decide) ?_
    refine r_callV (pc := 318) (as := [.int ((xs 1)), .int ((xs 2)), .int 1]) (st := []) kL_33 rfl dL_law_318 gc0 (c_X11_join_n (d := d - 1) (x := x) (th := th) (dr := dr) (sk := sk) (sh := sh) (se := se) (pa := pa) (fl := fl) (sa := sa) (cnt := 0) (rf := 0) (p1 := (xs 1)) (p2 := (xs 2)) (q3 := true) (by omega) gc0 (no0 (xs 1)) (no0 (xs 2))) rfl (by omega) (Nat.le_of_ble_eq_true rfl) (by omega) (by omega) rfl (fun r9 hp_12 nn_13 hq_14 => ?_)
    obtain ⟨rfl, hq_14n, h_15, ho_16⟩ := hq_14
    subst nn_13
    change Rn _ _ _ 321 _ [.int ((-1))] _ _ _ _ _
    refine r_aload_n (pc := 321) dL_law_321 (i := 2) rfl rfl ?_
    refine r_aload_n (pc := 322) dL_law_322 (i := 0) rfl rfl ?_
    refine r_iload_n (pc := 323) dL_law_323 (i := 3) rfl rfl ?_
    refine r_iconst (pc := 324) (v := 1) dL_law_324 (by decide) ?_
    refine r_iadd (pc := 325) (v := (nI 1)) dL_law_325 (by decide) ?_
    refine w_sld (pc := 326) (v := (xs 1)) dL_law_326 (show vp_in (nI 1) 7 from vp_in_nI (by decide) (by decide)) (congrArg xs (nI_clamp (by decide))) ?_
    refine r_aload_n (pc := 327) dL_law_327 (i := 0) rfl rfl ?_
    refine r_iload_n (pc := 328) dL_law_328 (i := 3) rfl rfl ?_
    refine r_iconst (pc := 329) (v := 2) dL_law_329 (by decide) ?_
    refine r_iadd (pc := 330) (v := (nI 2)) dL_law_330 (by decide) ?_
    refine w_sld (pc := 331) (v := (xs 2)) dL_law_331 (show vp_in (nI 2) 7 from vp_in_nI (by decide) (by decide)) (congrArg xs (nI_clamp (by decide))) ?_
    refine r_aload_n (pc := 332) dL_law_332 (i := 0) rfl rfl ?_
    refine r_iload_n (pc := 333) dL_law_333 (i := 3) rfl rfl ?_
    refine r_iconst (pc := 334) (v := 3) dL_law_334 (by decide) ?_
    refine r_iadd (pc := 335) (v := (nI 3)) dL_law_335 (by decide) ?_
    refine w_sld (pc := 336) (v := (xs 3)) dL_law_336 (show vp_in (nI 3) 7 from vp_in_nI (by decide) (by decide)) (congrArg xs (nI_clamp (by decide))) ?_
    refine r_if_eq (pc := 337) (tgt := 344) dL_law_337 (by decide) (fun c9 => absurd c9 (c310)) (fun _ => ?_)
    refine r_iconst (pc := 340) (v := 1) dL_law_340 (by decide) ?_
    refine r_goto (pc := 341) (tgt := 345) dL_law_341 (by decide) ?_
    have h_20 : hp_12 y = some (.inr (11, [.int 0, .int 0, .ref mm_sorts, .ref mm_sizes, .ref mm_directs, .ref mm_many, .ref mm_from, .ref mm_to, .ref mm_weight, .ref mm_cost, .ref mm_numbers, .ref mm_state, .ref mm_worth, .ref mm_long1, .ref mm_howMany, .ref mm_rows, .ref mm_inPart, .ref mm_partCount, .ref mm_nf, .ref mm_nt, .ref mm_nw, .ref mm_nc, .int 0, .ref mm_column, .ref mm_next, .ref mm_inside, .ref mm_beside, .ref mm_solid, .ref mm_below, .ref mm_best, .ref mm_ways1, .ref mm_round, .ref mm_round2, .ref mm_label, .ref mm_bridge, .ref mm_outs, .ref mm_ins, .ref mm_least, .ref mm_spans, .ref mm_joinedWith, .ref mm_gone, .ref mm_dear, .ref mm_by, .ref mm_ahead, .ref mm_image])) := (ho_16 y _ gc7 (ne_c gc7 gc0 (by intro h9; cases h9)))
    refine r_callV (pc := 345) (as := [.int ((xs 1)), .int ((xs 2)), .int 1]) (st := [.int ((-1))]) kL_37 rfl dL_law_345 h_20 (c_X12_join_n (d := d - 1) (y := y) (mm_sorts := mm_sorts) (mm_sizes := mm_sizes) (mm_directs := mm_directs) (mm_many := mm_many) (mm_from := mm_from) (mm_to := mm_to) (mm_weight := mm_weight) (mm_cost := mm_cost) (mm_numbers := mm_numbers) (mm_state := mm_state) (mm_worth := mm_worth) (mm_long1 := mm_long1) (mm_howMany := mm_howMany) (mm_rows := mm_rows) (mm_inPart := mm_inPart) (mm_partCount := mm_partCount) (mm_nf := mm_nf) (mm_nt := mm_nt) (mm_nw := mm_nw) (mm_nc := mm_nc) (mm_column := mm_column) (mm_next := mm_next) (mm_inside := mm_inside) (mm_beside := mm_beside) (mm_solid := mm_solid) (mm_below := mm_below) (mm_best := mm_best) (mm_ways1 := mm_ways1) (mm_round := mm_round) (mm_round2 := mm_round2) (mm_label := mm_label) (mm_bridge := mm_bridge) (mm_outs := mm_outs) (mm_ins := mm_ins) (mm_least := mm_least) (mm_spans := mm_spans) (mm_joinedWith := mm_joinedWith) (mm_gone := mm_gone) (mm_dear := mm_dear) (mm_by := mm_by) (mm_ahead := mm_ahead) (mm_image := mm_image) (rf := 0) (cnt := 0) (nm := 0) (p1 := (xs 1)) (p2 := (xs 2)) (q3 := true) (by omega) h_20 (no0 (xs 1))) rfl (by omega) (Nat.le_of_ble_eq_true rfl) (by omega) (by omega) rfl (fun r9 hp_17 nn_18 hq_19 => ?_)
    obtain ⟨rfl, hq_19n, h_21, ho_22⟩ := hq_19
    subst nn_18
    change Rn _ _ _ 348 _ [.int ((-1)), .int ((-1))] _ _ _ _ _
    refine r_icmp_eq (pc := 348) (tgt := 1077) dL_law_348 (by decide) (fun _ => ?_) (fun c9 => absurd (rfl) c9)
    refine Rn.pick (lv' := [(0, .ref b), (1, .ref x), (2, .ref y), (3, .int ((nI 0)))]) [0, 1, 2, 3] rfl ?_
    exact law_end
set_option maxHeartbeats 4000000 in
set_option maxRecDepth 100000 in
theorem law_5 {D : va_G} {cI cJ cZ cT : ClassId} {lo b : Nat} {xs : Nat → Int32} {hp : MH} {n d kr wr : Nat} {x th dr sk sh se pa fl sa af au aw ac al : Nat} {y mm_sorts mm_sizes mm_directs mm_many mm_from mm_to mm_weight mm_cost mm_numbers mm_state mm_worth mm_long1 mm_howMany mm_rows mm_inPart mm_partCount mm_nf mm_nt mm_nw mm_nc mm_column mm_next mm_inside mm_beside mm_solid mm_below mm_best mm_ways1 mm_round mm_round2 mm_label mm_bridge mm_outs mm_ins mm_least mm_spans mm_joinedWith mm_gone mm_dear mm_by mm_ahead mm_image : Nat} (hd0 : 10 ≤ d) (hkr : 20 ≤ kr) (hwr : 300 ≤ wr) (gc0 : hp x = some (.inr (10, [.ref th, .int 0, .int 0, .ref dr, .ref sk, .ref sh, .ref se, .ref pa, .ref fl, .ref sa]))) (gc1 : hp th = some (.inl (cT, 120, .inr (.inr (.inr (.inr (fun _ => none))))))) (gc2 : hp dr = some (.inr (1, [.int 1, .int 0, .int 0, .ref af, .ref au, .ref aw, .ref ac, .ref al]))) (gc3 : hp af = some (.inl (cI, 60, .inl (fun _ => 0)))) (gc4 : hp au = some (.inl (cI, 60, .inl (fun _ => 0)))) (gc5 : hp aw = some (.inl (cI, 60, .inl (fun _ => 0)))) (gc6 : hp ac = some (.inl (cI, 60, .inl (fun _ => 0)))) (gc7 : hp y = some (.inr (11, [.int 0, .int 0, .ref mm_sorts, .ref mm_sizes, .ref mm_directs, .ref mm_many, .ref mm_from, .ref mm_to, .ref mm_weight, .ref mm_cost, .ref mm_numbers, .ref mm_state, .ref mm_worth, .ref mm_long1, .ref mm_howMany, .ref mm_rows, .ref mm_inPart, .ref mm_partCount, .ref mm_nf, .ref mm_nt, .ref mm_nw, .ref mm_nc, .int 0, .ref mm_column, .ref mm_next, .ref mm_inside, .ref mm_beside, .ref mm_solid, .ref mm_below, .ref mm_best, .ref mm_ways1, .ref mm_round, .ref mm_round2, .ref mm_label, .ref mm_bridge, .ref mm_outs, .ref mm_ins, .ref mm_least, .ref mm_spans, .ref mm_joinedWith, .ref mm_gone, .ref mm_dear, .ref mm_by, .ref mm_ahead, .ref mm_image]))) (gc8 : hp mm_sorts = some (.inl (cI, 121, .inl (fun _ => 0)))) (gc9 : hp mm_sizes = some (.inl (cI, 121, .inl (upd (fun _ => 0) 120 1)))) (gc10 : hp mm_directs = some (.inl (cZ, 121, .inl (upd (fun _ => 0) 120 0)))) (gc11 : hp mm_many = some (.inl (cI, 121, .inl (upd (fun _ => 0) 120 0)))) (gc12 : hp mm_from = some (.inl (cI, 7260, .inl (fun _ => 0)))) (gc13 : hp mm_to = some (.inl (cI, 7260, .inl (fun _ => 0)))) (gc14 : hp mm_weight = some (.inl (cI, 7260, .inl (fun _ => 0)))) (gc15 : hp mm_cost = some (.inl (cI, 7260, .inl (fun _ => 0)))) (gc16 : hp mm_numbers = some (.inl (cJ, 1936, .inr (.inl (fun _ => 0))))) (gc17 : hp mm_column = some (.inl (cJ, 16, .inr (.inl (fun _ => 0))))) (ne_af_au : af ≠ au) (ne_af_aw : af ≠ aw) (ne_af_ac : af ≠ ac) (ne_af_mm_sorts : af ≠ mm_sorts) (ne_af_mm_sizes : af ≠ mm_sizes) (ne_af_mm_many : af ≠ mm_many) (ne_af_mm_from : af ≠ mm_from) (ne_af_mm_to : af ≠ mm_to) (ne_af_mm_weight : af ≠ mm_weight) (ne_af_mm_cost : af ≠ mm_cost) (ne_au_aw : au ≠ aw) (ne_au_ac : au ≠ ac) (ne_au_mm_sorts : au ≠ mm_sorts) (ne_au_mm_sizes : au ≠ mm_sizes) (ne_au_mm_many : au ≠ mm_many) (ne_au_mm_from : au ≠ mm_from) (ne_au_mm_to : au ≠ mm_to) (ne_au_mm_weight : au ≠ mm_weight) (ne_au_mm_cost : au ≠ mm_cost) (ne_aw_ac : aw ≠ ac) (ne_aw_mm_sorts : aw ≠ mm_sorts) (ne_aw_mm_sizes : aw ≠ mm_sizes) (ne_aw_mm_many : aw ≠ mm_many) (ne_aw_mm_from : aw ≠ mm_from) (ne_aw_mm_to : aw ≠ mm_to) (ne_aw_mm_weight : aw ≠ mm_weight) (ne_aw_mm_cost : aw ≠ mm_cost) (ne_ac_mm_sorts : ac ≠ mm_sorts) (ne_ac_mm_sizes : ac ≠ mm_sizes) (ne_ac_mm_many : ac ≠ mm_many) (ne_ac_mm_from : ac ≠ mm_from) (ne_ac_mm_to : ac ≠ mm_to) (ne_ac_mm_weight : ac ≠ mm_weight) (ne_ac_mm_cost : ac ≠ mm_cost) (ne_mm_sorts_mm_sizes : mm_sorts ≠ mm_sizes) (ne_mm_sorts_mm_many : mm_sorts ≠ mm_many) (ne_mm_sorts_mm_from : mm_sorts ≠ mm_from) (ne_mm_sorts_mm_to : mm_sorts ≠ mm_to) (ne_mm_sorts_mm_weight : mm_sorts ≠ mm_weight) (ne_mm_sorts_mm_cost : mm_sorts ≠ mm_cost) (ne_mm_sizes_mm_many : mm_sizes ≠ mm_many) (ne_mm_sizes_mm_from : mm_sizes ≠ mm_from) (ne_mm_sizes_mm_to : mm_sizes ≠ mm_to) (ne_mm_sizes_mm_weight : mm_sizes ≠ mm_weight) (ne_mm_sizes_mm_cost : mm_sizes ≠ mm_cost) (ne_mm_many_mm_from : mm_many ≠ mm_from) (ne_mm_many_mm_to : mm_many ≠ mm_to) (ne_mm_many_mm_weight : mm_many ≠ mm_weight) (ne_mm_many_mm_cost : mm_many ≠ mm_cost) (ne_mm_from_mm_to : mm_from ≠ mm_to) (ne_mm_from_mm_weight : mm_from ≠ mm_weight) (ne_mm_from_mm_cost : mm_from ≠ mm_cost) (ne_mm_to_mm_weight : mm_to ≠ mm_weight) (ne_mm_to_mm_cost : mm_to ≠ mm_cost) (ne_mm_weight_mm_cost : mm_weight ≠ mm_cost) (ne_nu_col : mm_numbers ≠ mm_column) (ne_di_si : mm_directs ≠ mm_sizes) (ne_di_ma : mm_directs ≠ mm_many) (ne_di_so : mm_directs ≠ mm_sorts) (ne_di_af : mm_directs ≠ af) (ne_di_au : mm_directs ≠ au) (ne_di_aw : mm_directs ≠ aw) (ne_di_ac : mm_directs ≠ ac) (ne_di_mm_from : mm_directs ≠ mm_from) (ne_di_mm_to : mm_directs ≠ mm_to) (ne_di_mm_weight : mm_directs ≠ mm_weight) (ne_di_mm_cost : mm_directs ≠ mm_cost) : Rn (gG D cI cJ cZ cT lo b 7 xs) mL_law d 353 [(0, .ref b), (1, .ref x), (2, .ref y), (3, .int ((nI 0)))] [] hp n kr wr (fun r _ _ => r = some (.int 1)) := by
  refine r_aload_n (pc := 353) dL_law_353 (i := 1) rfl rfl ?_
  refine r_aload_n (pc := 354) dL_law_354 (i := 0) rfl rfl ?_
  refine r_iload_n (pc := 355) dL_law_355 (i := 3) rfl rfl ?_
  refine r_iconst (pc := 356) (v := 1) dL_law_356 (by decide) ?_
  refine r_iadd (pc := 357) (v := (nI 1)) dL_law_357 (by decide) ?_
  refine w_sld (pc := 358) (v := (xs 1)) dL_law_358 (show vp_in (nI 1) 7 from vp_in_nI (by decide) (by decide)) (congrArg xs (nI_clamp (by decide))) ?_
  refine r_aload_n (pc := 359) dL_law_359 (i := 0) rfl rfl ?_
  refine r_iload_n (pc := 360) dL_law_360 (i := 3) rfl rfl ?_
  refine r_iconst (pc := 361) (v := 2) dL_law_361 (by decide) ?_
  refine r_iadd (pc := 362) (v := (nI 2)) dL_law_362 (by decide) ?_
  refine w_sld (pc := 363) (v := (xs 2)) dL_law_363 (show vp_in (nI 2) 7 from vp_in_nI (by decide) (by decide)) (congrArg xs (nI_clamp (by decide))) ?_
  refine r_aload_n (pc := 364) dL_law_364 (i := 0) rfl rfl ?_
  refine r_iload_n (pc := 365) dL_law_365 (i := 3) rfl rfl ?_
  refine r_iconst (pc := 366) (v := 3) dL_law_366 (by decide) ?_
  refine r_iadd (pc := 367) (v := (nI 3)) dL_law_367 (by decide) ?_
  refine w_sld (pc := 368) (v := (xs 3)) dL_law_368 (show vp_in (nI 3) 7 from vp_in_nI (by decide) (by decide)) (congrArg xs (nI_clamp (by decide))) ?_
  refine r_callV (pc := 369) (as := [.int ((xs 1)), .int ((xs 2)), .int ((xs 3))]) (st := []) kL_38 rfl dL_law_369 gc0 (c_X11_column_n (d := d - 1) (x := x) (th := th) (dr := dr) (sk := sk) (sh := sh) (se := se) (pa := pa) (fl := fl) (sa := sa) (cnt := 0) (rf := 0) (p1 := (xs 1)) (p2 := (xs 2)) (p3 := (xs 3)) (by omega) gc0 (no0 (xs 1))) rfl (by omega) (Nat.le_of_ble_eq_true rfl) (by omega) (by omega) rfl (fun r9 hp_1 nn_2 hq_3 => ?_)
  obtain ⟨rfl, hq_3n, h_4, ho_5⟩ := hq_3
  subst nn_2
  change Rn _ _ _ 372 _ [.int ((-1))] _ _ _ _ _
  refine r_aload_n (pc := 372) dL_law_372 (i := 2) rfl rfl ?_
  refine r_aload_n (pc := 373) dL_law_373 (i := 0) rfl rfl ?_
  refine r_iload_n (pc := 374) dL_law_374 (i := 3) rfl rfl ?_
  refine r_iconst (pc := 375) (v := 1) dL_law_375 (by decide) ?_
  refine r_iadd (pc := 376) (v := (nI 1)) dL_law_376 (by decide) ?_
  refine w_sld (pc := 377) (v := (xs 1)) dL_law_377 (show vp_in (nI 1) 7 from vp_in_nI (by decide) (by decide)) (congrArg xs (nI_clamp (by decide))) ?_
  refine r_aload_n (pc := 378) dL_law_378 (i := 0) rfl rfl ?_
  refine r_iload_n (pc := 379) dL_law_379 (i := 3) rfl rfl ?_
  refine r_iconst (pc := 380) (v := 2) dL_law_380 (by decide) ?_
  refine r_iadd (pc := 381) (v := (nI 2)) dL_law_381 (by decide) ?_
  refine w_sld (pc := 382) (v := (xs 2)) dL_law_382 (show vp_in (nI 2) 7 from vp_in_nI (by decide) (by decide)) (congrArg xs (nI_clamp (by decide))) ?_
  refine r_aload_n (pc := 383) dL_law_383 (i := 0) rfl rfl ?_
  refine r_iload_n (pc := 384) dL_law_384 (i := 3) rfl rfl ?_
  refine r_iconst (pc := 385) (v := 3) dL_law_385 (by decide) ?_
  refine r_iadd (pc := 386) (v := (nI 3)) dL_law_386 (by decide) ?_
  refine w_sld (pc := 387) (v := (xs 3)) dL_law_387 (show vp_in (nI 3) 7 from vp_in_nI (by decide) (by decide)) (congrArg xs (nI_clamp (by decide))) ?_
  have h_9 : hp_1 y = some (.inr (11, [.int 0, .int 0, .ref mm_sorts, .ref mm_sizes, .ref mm_directs, .ref mm_many, .ref mm_from, .ref mm_to, .ref mm_weight, .ref mm_cost, .ref mm_numbers, .ref mm_state, .ref mm_worth, .ref mm_long1, .ref mm_howMany, .ref mm_rows, .ref mm_inPart, .ref mm_partCount, .ref mm_nf, .ref mm_nt, .ref mm_nw, .ref mm_nc, .int 0, .ref mm_column, .ref mm_next, .ref mm_inside, .ref mm_beside, .ref mm_solid, .ref mm_below, .ref mm_best, .ref mm_ways1, .ref mm_round, .ref mm_round2, .ref mm_label, .ref mm_bridge, .ref mm_outs, .ref mm_ins, .ref mm_least, .ref mm_spans, .ref mm_joinedWith, .ref mm_gone, .ref mm_dear, .ref mm_by, .ref mm_ahead, .ref mm_image])) := (ho_5 y _ gc7 (ne_c gc7 gc0 (by intro h9; cases h9)))
  refine r_callV (pc := 388) (as := [.int ((xs 1)), .int ((xs 2)), .int ((xs 3))]) (st := [.int ((-1))]) kL_41 rfl dL_law_388 h_9 (c_X12_column_n (d := d - 1) (y := y) (mm_sorts := mm_sorts) (mm_sizes := mm_sizes) (mm_directs := mm_directs) (mm_many := mm_many) (mm_from := mm_from) (mm_to := mm_to) (mm_weight := mm_weight) (mm_cost := mm_cost) (mm_numbers := mm_numbers) (mm_state := mm_state) (mm_worth := mm_worth) (mm_long1 := mm_long1) (mm_howMany := mm_howMany) (mm_rows := mm_rows) (mm_inPart := mm_inPart) (mm_partCount := mm_partCount) (mm_nf := mm_nf) (mm_nt := mm_nt) (mm_nw := mm_nw) (mm_nc := mm_nc) (mm_column := mm_column) (mm_next := mm_next) (mm_inside := mm_inside) (mm_beside := mm_beside) (mm_solid := mm_solid) (mm_below := mm_below) (mm_best := mm_best) (mm_ways1 := mm_ways1) (mm_round := mm_round) (mm_round2 := mm_round2) (mm_label := mm_label) (mm_bridge := mm_bridge) (mm_outs := mm_outs) (mm_ins := mm_ins) (mm_least := mm_least) (mm_spans := mm_spans) (mm_joinedWith := mm_joinedWith) (mm_gone := mm_gone) (mm_dear := mm_dear) (mm_by := mm_by) (mm_ahead := mm_ahead) (mm_image := mm_image) (rf := 0) (cnt := 0) (nm := 0) (p1 := (xs 1)) (p2 := (xs 2)) (p3 := (xs 3)) (by omega) h_9 (no0 (xs 1))) rfl (by omega) (Nat.le_of_ble_eq_true rfl) (by omega) (by omega) rfl (fun r9 hp_6 nn_7 hq_8 => ?_)
  obtain ⟨rfl, hq_8n, h_10, ho_11⟩ := hq_8
  subst nn_7
  change Rn _ _ _ 391 _ [.int ((-1)), .int ((-1))] _ _ _ _ _
  refine r_icmp_eq (pc := 391) (tgt := 1077) dL_law_391 (by decide) (fun _ => ?_) (fun c9 => absurd (rfl) c9)
  refine Rn.pick (lv' := [(0, .ref b), (1, .ref x), (2, .ref y), (3, .int ((nI 0)))]) [0, 1, 2, 3] rfl ?_
  exact law_end
set_option maxHeartbeats 4000000 in
set_option maxRecDepth 100000 in
theorem law_7 {D : va_G} {cI cJ cZ cT : ClassId} {lo b : Nat} {xs : Nat → Int32} {hp : MH} {n d kr wr : Nat} {x th dr sk sh se pa fl sa af au aw ac al : Nat} {y mm_sorts mm_sizes mm_directs mm_many mm_from mm_to mm_weight mm_cost mm_numbers mm_state mm_worth mm_long1 mm_howMany mm_rows mm_inPart mm_partCount mm_nf mm_nt mm_nw mm_nc mm_column mm_next mm_inside mm_beside mm_solid mm_below mm_best mm_ways1 mm_round mm_round2 mm_label mm_bridge mm_outs mm_ins mm_least mm_spans mm_joinedWith mm_gone mm_dear mm_by mm_ahead mm_image : Nat} (hd0 : 10 ≤ d) (hkr : 20 ≤ kr) (hwr : 300 ≤ wr) (gc0 : hp x = some (.inr (10, [.ref th, .int 0, .int 0, .ref dr, .ref sk, .ref sh, .ref se, .ref pa, .ref fl, .ref sa]))) (gc1 : hp th = some (.inl (cT, 120, .inr (.inr (.inr (.inr (fun _ => none))))))) (gc2 : hp dr = some (.inr (1, [.int 1, .int 0, .int 0, .ref af, .ref au, .ref aw, .ref ac, .ref al]))) (gc3 : hp af = some (.inl (cI, 60, .inl (fun _ => 0)))) (gc4 : hp au = some (.inl (cI, 60, .inl (fun _ => 0)))) (gc5 : hp aw = some (.inl (cI, 60, .inl (fun _ => 0)))) (gc6 : hp ac = some (.inl (cI, 60, .inl (fun _ => 0)))) (gc7 : hp y = some (.inr (11, [.int 0, .int 0, .ref mm_sorts, .ref mm_sizes, .ref mm_directs, .ref mm_many, .ref mm_from, .ref mm_to, .ref mm_weight, .ref mm_cost, .ref mm_numbers, .ref mm_state, .ref mm_worth, .ref mm_long1, .ref mm_howMany, .ref mm_rows, .ref mm_inPart, .ref mm_partCount, .ref mm_nf, .ref mm_nt, .ref mm_nw, .ref mm_nc, .int 0, .ref mm_column, .ref mm_next, .ref mm_inside, .ref mm_beside, .ref mm_solid, .ref mm_below, .ref mm_best, .ref mm_ways1, .ref mm_round, .ref mm_round2, .ref mm_label, .ref mm_bridge, .ref mm_outs, .ref mm_ins, .ref mm_least, .ref mm_spans, .ref mm_joinedWith, .ref mm_gone, .ref mm_dear, .ref mm_by, .ref mm_ahead, .ref mm_image]))) (gc8 : hp mm_sorts = some (.inl (cI, 121, .inl (fun _ => 0)))) (gc9 : hp mm_sizes = some (.inl (cI, 121, .inl (upd (fun _ => 0) 120 1)))) (gc10 : hp mm_directs = some (.inl (cZ, 121, .inl (upd (fun _ => 0) 120 0)))) (gc11 : hp mm_many = some (.inl (cI, 121, .inl (upd (fun _ => 0) 120 0)))) (gc12 : hp mm_from = some (.inl (cI, 7260, .inl (fun _ => 0)))) (gc13 : hp mm_to = some (.inl (cI, 7260, .inl (fun _ => 0)))) (gc14 : hp mm_weight = some (.inl (cI, 7260, .inl (fun _ => 0)))) (gc15 : hp mm_cost = some (.inl (cI, 7260, .inl (fun _ => 0)))) (gc16 : hp mm_numbers = some (.inl (cJ, 1936, .inr (.inl (fun _ => 0))))) (gc17 : hp mm_column = some (.inl (cJ, 16, .inr (.inl (fun _ => 0))))) (ne_af_au : af ≠ au) (ne_af_aw : af ≠ aw) (ne_af_ac : af ≠ ac) (ne_af_mm_sorts : af ≠ mm_sorts) (ne_af_mm_sizes : af ≠ mm_sizes) (ne_af_mm_many : af ≠ mm_many) (ne_af_mm_from : af ≠ mm_from) (ne_af_mm_to : af ≠ mm_to) (ne_af_mm_weight : af ≠ mm_weight) (ne_af_mm_cost : af ≠ mm_cost) (ne_au_aw : au ≠ aw) (ne_au_ac : au ≠ ac) (ne_au_mm_sorts : au ≠ mm_sorts) (ne_au_mm_sizes : au ≠ mm_sizes) (ne_au_mm_many : au ≠ mm_many) (ne_au_mm_from : au ≠ mm_from) (ne_au_mm_to : au ≠ mm_to) (ne_au_mm_weight : au ≠ mm_weight) (ne_au_mm_cost : au ≠ mm_cost) (ne_aw_ac : aw ≠ ac) (ne_aw_mm_sorts : aw ≠ mm_sorts) (ne_aw_mm_sizes : aw ≠ mm_sizes) (ne_aw_mm_many : aw ≠ mm_many) (ne_aw_mm_from : aw ≠ mm_from) (ne_aw_mm_to : aw ≠ mm_to) (ne_aw_mm_weight : aw ≠ mm_weight) (ne_aw_mm_cost : aw ≠ mm_cost) (ne_ac_mm_sorts : ac ≠ mm_sorts) (ne_ac_mm_sizes : ac ≠ mm_sizes) (ne_ac_mm_many : ac ≠ mm_many) (ne_ac_mm_from : ac ≠ mm_from) (ne_ac_mm_to : ac ≠ mm_to) (ne_ac_mm_weight : ac ≠ mm_weight) (ne_ac_mm_cost : ac ≠ mm_cost) (ne_mm_sorts_mm_sizes : mm_sorts ≠ mm_sizes) (ne_mm_sorts_mm_many : mm_sorts ≠ mm_many) (ne_mm_sorts_mm_from : mm_sorts ≠ mm_from) (ne_mm_sorts_mm_to : mm_sorts ≠ mm_to) (ne_mm_sorts_mm_weight : mm_sorts ≠ mm_weight) (ne_mm_sorts_mm_cost : mm_sorts ≠ mm_cost) (ne_mm_sizes_mm_many : mm_sizes ≠ mm_many) (ne_mm_sizes_mm_from : mm_sizes ≠ mm_from) (ne_mm_sizes_mm_to : mm_sizes ≠ mm_to) (ne_mm_sizes_mm_weight : mm_sizes ≠ mm_weight) (ne_mm_sizes_mm_cost : mm_sizes ≠ mm_cost) (ne_mm_many_mm_from : mm_many ≠ mm_from) (ne_mm_many_mm_to : mm_many ≠ mm_to) (ne_mm_many_mm_weight : mm_many ≠ mm_weight) (ne_mm_many_mm_cost : mm_many ≠ mm_cost) (ne_mm_from_mm_to : mm_from ≠ mm_to) (ne_mm_from_mm_weight : mm_from ≠ mm_weight) (ne_mm_from_mm_cost : mm_from ≠ mm_cost) (ne_mm_to_mm_weight : mm_to ≠ mm_weight) (ne_mm_to_mm_cost : mm_to ≠ mm_cost) (ne_mm_weight_mm_cost : mm_weight ≠ mm_cost) (ne_nu_col : mm_numbers ≠ mm_column) (ne_di_si : mm_directs ≠ mm_sizes) (ne_di_ma : mm_directs ≠ mm_many) (ne_di_so : mm_directs ≠ mm_sorts) (ne_di_af : mm_directs ≠ af) (ne_di_au : mm_directs ≠ au) (ne_di_aw : mm_directs ≠ aw) (ne_di_ac : mm_directs ≠ ac) (ne_di_mm_from : mm_directs ≠ mm_from) (ne_di_mm_to : mm_directs ≠ mm_to) (ne_di_mm_weight : mm_directs ≠ mm_weight) (ne_di_mm_cost : mm_directs ≠ mm_cost) : Rn (gG D cI cJ cZ cT lo b 7 xs) mL_law d 511 [(0, .ref b), (1, .ref x), (2, .ref y), (3, .int ((nI 0)))] [] hp n kr wr (fun r _ _ => r = some (.int 1)) := by
  refine r_aload_n (pc := 511) dL_law_511 (i := 1) rfl rfl ?_
  refine r_aload_n (pc := 512) dL_law_512 (i := 0) rfl rfl ?_
  refine r_iload_n (pc := 513) dL_law_513 (i := 3) rfl rfl ?_
  refine r_iconst (pc := 514) (v := 1) dL_law_514 (by decide) ?_
  refine r_iadd (pc := 515) (v := (nI 1)) dL_law_515 (by decide) ?_
  refine w_sld (pc := 516) (v := (xs 1)) dL_law_516 (show vp_in (nI 1) 7 from vp_in_nI (by decide) (by decide)) (congrArg xs (nI_clamp (by decide))) ?_
  refine r_aload_n (pc := 517) dL_law_517 (i := 0) rfl rfl ?_
  refine r_iload_n (pc := 518) dL_law_518 (i := 3) rfl rfl ?_
  refine r_iconst (pc := 519) (v := 2) dL_law_519 (by decide) ?_
  refine r_iadd (pc := 520) (v := (nI 2)) dL_law_520 (by decide) ?_
  refine w_sld (pc := 521) (v := (xs 2)) dL_law_521 (show vp_in (nI 2) 7 from vp_in_nI (by decide) (by decide)) (congrArg xs (nI_clamp (by decide))) ?_
  refine r_aload_n (pc := 522) dL_law_522 (i := 0) rfl rfl ?_
  refine r_iload_n (pc := 523) dL_law_523 (i := 3) rfl rfl ?_
  refine r_iconst (pc := 524) (v := 3) dL_law_524 (by decide) ?_
  refine r_iadd (pc := 525) (v := (nI 3)) dL_law_525 (by decide) ?_
  refine w_sld (pc := 526) (v := (xs 3)) dL_law_526 (show vp_in (nI 3) 7 from vp_in_nI (by decide) (by decide)) (congrArg xs (nI_clamp (by decide))) ?_
  refine r_callV (pc := 527) (as := [.int ((xs 1)), .int ((xs 2)), .int ((xs 3))]) (st := []) kL_49 rfl dL_law_527 gc0 (c_X11_mix_n (d := d - 1) (x := x) (th := th) (dr := dr) (sk := sk) (sh := sh) (se := se) (pa := pa) (fl := fl) (sa := sa) (cnt := 0) (rf := 0) (p1 := (xs 1)) (p2 := (xs 2)) (p3 := (xs 3)) (by omega) gc0 (no0 (xs 1)) (no0 (xs 2))) rfl (by omega) (Nat.le_of_ble_eq_true rfl) (by omega) (by omega) rfl (fun r9 hp_1 nn_2 hq_3 => ?_)
  obtain ⟨rfl, hq_3n, h_4, ho_5⟩ := hq_3
  subst nn_2
  change Rn _ _ _ 530 _ [.int ((-1))] _ _ _ _ _
  refine r_aload_n (pc := 530) dL_law_530 (i := 2) rfl rfl ?_
  refine r_aload_n (pc := 531) dL_law_531 (i := 0) rfl rfl ?_
  refine r_iload_n (pc := 532) dL_law_532 (i := 3) rfl rfl ?_
  refine r_iconst (pc := 533) (v := 1) dL_law_533 (by decide) ?_
  refine r_iadd (pc := 534) (v := (nI 1)) dL_law_534 (by decide) ?_
  refine w_sld (pc := 535) (v := (xs 1)) dL_law_535 (show vp_in (nI 1) 7 from vp_in_nI (by decide) (by decide)) (congrArg xs (nI_clamp (by decide))) ?_
  refine r_aload_n (pc := 536) dL_law_536 (i := 0) rfl rfl ?_
  refine r_iload_n (pc := 537) dL_law_537 (i := 3) rfl rfl ?_
  refine r_iconst (pc := 538) (v := 2) dL_law_538 (by decide) ?_
  refine r_iadd (pc := 539) (v := (nI 2)) dL_law_539 (by decide) ?_
  refine w_sld (pc := 540) (v := (xs 2)) dL_law_540 (show vp_in (nI 2) 7 from vp_in_nI (by decide) (by decide)) (congrArg xs (nI_clamp (by decide))) ?_
  refine r_aload_n (pc := 541) dL_law_541 (i := 0) rfl rfl ?_
  refine r_iload_n (pc := 542) dL_law_542 (i := 3) rfl rfl ?_
  refine r_iconst (pc := 543) (v := 3) dL_law_543 (by decide) ?_
  refine r_iadd (pc := 544) (v := (nI 3)) dL_law_544 (by decide) ?_
  refine w_sld (pc := 545) (v := (xs 3)) dL_law_545 (show vp_in (nI 3) 7 from vp_in_nI (by decide) (by decide)) (congrArg xs (nI_clamp (by decide))) ?_
  have h_9 : hp_1 y = some (.inr (11, [.int 0, .int 0, .ref mm_sorts, .ref mm_sizes, .ref mm_directs, .ref mm_many, .ref mm_from, .ref mm_to, .ref mm_weight, .ref mm_cost, .ref mm_numbers, .ref mm_state, .ref mm_worth, .ref mm_long1, .ref mm_howMany, .ref mm_rows, .ref mm_inPart, .ref mm_partCount, .ref mm_nf, .ref mm_nt, .ref mm_nw, .ref mm_nc, .int 0, .ref mm_column, .ref mm_next, .ref mm_inside, .ref mm_beside, .ref mm_solid, .ref mm_below, .ref mm_best, .ref mm_ways1, .ref mm_round, .ref mm_round2, .ref mm_label, .ref mm_bridge, .ref mm_outs, .ref mm_ins, .ref mm_least, .ref mm_spans, .ref mm_joinedWith, .ref mm_gone, .ref mm_dear, .ref mm_by, .ref mm_ahead, .ref mm_image])) := (ho_5 y _ gc7 (ne_c gc7 gc0 (by intro h9; cases h9)))
  refine r_callV (pc := 546) (as := [.int ((xs 1)), .int ((xs 2)), .int ((xs 3))]) (st := [.int ((-1))]) kL_52 rfl dL_law_546 h_9 (c_X12_mix_n (d := d - 1) (y := y) (mm_sorts := mm_sorts) (mm_sizes := mm_sizes) (mm_directs := mm_directs) (mm_many := mm_many) (mm_from := mm_from) (mm_to := mm_to) (mm_weight := mm_weight) (mm_cost := mm_cost) (mm_numbers := mm_numbers) (mm_state := mm_state) (mm_worth := mm_worth) (mm_long1 := mm_long1) (mm_howMany := mm_howMany) (mm_rows := mm_rows) (mm_inPart := mm_inPart) (mm_partCount := mm_partCount) (mm_nf := mm_nf) (mm_nt := mm_nt) (mm_nw := mm_nw) (mm_nc := mm_nc) (mm_column := mm_column) (mm_next := mm_next) (mm_inside := mm_inside) (mm_beside := mm_beside) (mm_solid := mm_solid) (mm_below := mm_below) (mm_best := mm_best) (mm_ways1 := mm_ways1) (mm_round := mm_round) (mm_round2 := mm_round2) (mm_label := mm_label) (mm_bridge := mm_bridge) (mm_outs := mm_outs) (mm_ins := mm_ins) (mm_least := mm_least) (mm_spans := mm_spans) (mm_joinedWith := mm_joinedWith) (mm_gone := mm_gone) (mm_dear := mm_dear) (mm_by := mm_by) (mm_ahead := mm_ahead) (mm_image := mm_image) (rf := 0) (cnt := 0) (nm := 0) (p1 := (xs 1)) (p2 := (xs 2)) (p3 := (xs 3)) (by omega) h_9 (no0 (xs 1))) rfl (by omega) (Nat.le_of_ble_eq_true rfl) (by omega) (by omega) rfl (fun r9 hp_6 nn_7 hq_8 => ?_)
  obtain ⟨rfl, hq_8n, h_10, ho_11⟩ := hq_8
  subst nn_7
  change Rn _ _ _ 549 _ [.int ((-1)), .int ((-1))] _ _ _ _ _
  refine r_icmp_eq (pc := 549) (tgt := 1077) dL_law_549 (by decide) (fun _ => ?_) (fun c9 => absurd (rfl) c9)
  refine Rn.pick (lv' := [(0, .ref b), (1, .ref x), (2, .ref y), (3, .int ((nI 0)))]) [0, 1, 2, 3] rfl ?_
  exact law_end
set_option maxHeartbeats 4000000 in
set_option maxRecDepth 100000 in
theorem law_8 {D : va_G} {cI cJ cZ cT : ClassId} {lo b : Nat} {xs : Nat → Int32} {hp : MH} {n d kr wr : Nat} {x th dr sk sh se pa fl sa af au aw ac al : Nat} {y mm_sorts mm_sizes mm_directs mm_many mm_from mm_to mm_weight mm_cost mm_numbers mm_state mm_worth mm_long1 mm_howMany mm_rows mm_inPart mm_partCount mm_nf mm_nt mm_nw mm_nc mm_column mm_next mm_inside mm_beside mm_solid mm_below mm_best mm_ways1 mm_round mm_round2 mm_label mm_bridge mm_outs mm_ins mm_least mm_spans mm_joinedWith mm_gone mm_dear mm_by mm_ahead mm_image : Nat} (hd0 : 10 ≤ d) (hkr : 20 ≤ kr) (hwr : 300 ≤ wr) (gc0 : hp x = some (.inr (10, [.ref th, .int 0, .int 0, .ref dr, .ref sk, .ref sh, .ref se, .ref pa, .ref fl, .ref sa]))) (gc1 : hp th = some (.inl (cT, 120, .inr (.inr (.inr (.inr (fun _ => none))))))) (gc2 : hp dr = some (.inr (1, [.int 1, .int 0, .int 0, .ref af, .ref au, .ref aw, .ref ac, .ref al]))) (gc3 : hp af = some (.inl (cI, 60, .inl (fun _ => 0)))) (gc4 : hp au = some (.inl (cI, 60, .inl (fun _ => 0)))) (gc5 : hp aw = some (.inl (cI, 60, .inl (fun _ => 0)))) (gc6 : hp ac = some (.inl (cI, 60, .inl (fun _ => 0)))) (gc7 : hp y = some (.inr (11, [.int 0, .int 0, .ref mm_sorts, .ref mm_sizes, .ref mm_directs, .ref mm_many, .ref mm_from, .ref mm_to, .ref mm_weight, .ref mm_cost, .ref mm_numbers, .ref mm_state, .ref mm_worth, .ref mm_long1, .ref mm_howMany, .ref mm_rows, .ref mm_inPart, .ref mm_partCount, .ref mm_nf, .ref mm_nt, .ref mm_nw, .ref mm_nc, .int 0, .ref mm_column, .ref mm_next, .ref mm_inside, .ref mm_beside, .ref mm_solid, .ref mm_below, .ref mm_best, .ref mm_ways1, .ref mm_round, .ref mm_round2, .ref mm_label, .ref mm_bridge, .ref mm_outs, .ref mm_ins, .ref mm_least, .ref mm_spans, .ref mm_joinedWith, .ref mm_gone, .ref mm_dear, .ref mm_by, .ref mm_ahead, .ref mm_image]))) (gc8 : hp mm_sorts = some (.inl (cI, 121, .inl (fun _ => 0)))) (gc9 : hp mm_sizes = some (.inl (cI, 121, .inl (upd (fun _ => 0) 120 1)))) (gc10 : hp mm_directs = some (.inl (cZ, 121, .inl (upd (fun _ => 0) 120 0)))) (gc11 : hp mm_many = some (.inl (cI, 121, .inl (upd (fun _ => 0) 120 0)))) (gc12 : hp mm_from = some (.inl (cI, 7260, .inl (fun _ => 0)))) (gc13 : hp mm_to = some (.inl (cI, 7260, .inl (fun _ => 0)))) (gc14 : hp mm_weight = some (.inl (cI, 7260, .inl (fun _ => 0)))) (gc15 : hp mm_cost = some (.inl (cI, 7260, .inl (fun _ => 0)))) (gc16 : hp mm_numbers = some (.inl (cJ, 1936, .inr (.inl (fun _ => 0))))) (gc17 : hp mm_column = some (.inl (cJ, 16, .inr (.inl (fun _ => 0))))) (ne_af_au : af ≠ au) (ne_af_aw : af ≠ aw) (ne_af_ac : af ≠ ac) (ne_af_mm_sorts : af ≠ mm_sorts) (ne_af_mm_sizes : af ≠ mm_sizes) (ne_af_mm_many : af ≠ mm_many) (ne_af_mm_from : af ≠ mm_from) (ne_af_mm_to : af ≠ mm_to) (ne_af_mm_weight : af ≠ mm_weight) (ne_af_mm_cost : af ≠ mm_cost) (ne_au_aw : au ≠ aw) (ne_au_ac : au ≠ ac) (ne_au_mm_sorts : au ≠ mm_sorts) (ne_au_mm_sizes : au ≠ mm_sizes) (ne_au_mm_many : au ≠ mm_many) (ne_au_mm_from : au ≠ mm_from) (ne_au_mm_to : au ≠ mm_to) (ne_au_mm_weight : au ≠ mm_weight) (ne_au_mm_cost : au ≠ mm_cost) (ne_aw_ac : aw ≠ ac) (ne_aw_mm_sorts : aw ≠ mm_sorts) (ne_aw_mm_sizes : aw ≠ mm_sizes) (ne_aw_mm_many : aw ≠ mm_many) (ne_aw_mm_from : aw ≠ mm_from) (ne_aw_mm_to : aw ≠ mm_to) (ne_aw_mm_weight : aw ≠ mm_weight) (ne_aw_mm_cost : aw ≠ mm_cost) (ne_ac_mm_sorts : ac ≠ mm_sorts) (ne_ac_mm_sizes : ac ≠ mm_sizes) (ne_ac_mm_many : ac ≠ mm_many) (ne_ac_mm_from : ac ≠ mm_from) (ne_ac_mm_to : ac ≠ mm_to) (ne_ac_mm_weight : ac ≠ mm_weight) (ne_ac_mm_cost : ac ≠ mm_cost) (ne_mm_sorts_mm_sizes : mm_sorts ≠ mm_sizes) (ne_mm_sorts_mm_many : mm_sorts ≠ mm_many) (ne_mm_sorts_mm_from : mm_sorts ≠ mm_from) (ne_mm_sorts_mm_to : mm_sorts ≠ mm_to) (ne_mm_sorts_mm_weight : mm_sorts ≠ mm_weight) (ne_mm_sorts_mm_cost : mm_sorts ≠ mm_cost) (ne_mm_sizes_mm_many : mm_sizes ≠ mm_many) (ne_mm_sizes_mm_from : mm_sizes ≠ mm_from) (ne_mm_sizes_mm_to : mm_sizes ≠ mm_to) (ne_mm_sizes_mm_weight : mm_sizes ≠ mm_weight) (ne_mm_sizes_mm_cost : mm_sizes ≠ mm_cost) (ne_mm_many_mm_from : mm_many ≠ mm_from) (ne_mm_many_mm_to : mm_many ≠ mm_to) (ne_mm_many_mm_weight : mm_many ≠ mm_weight) (ne_mm_many_mm_cost : mm_many ≠ mm_cost) (ne_mm_from_mm_to : mm_from ≠ mm_to) (ne_mm_from_mm_weight : mm_from ≠ mm_weight) (ne_mm_from_mm_cost : mm_from ≠ mm_cost) (ne_mm_to_mm_weight : mm_to ≠ mm_weight) (ne_mm_to_mm_cost : mm_to ≠ mm_cost) (ne_mm_weight_mm_cost : mm_weight ≠ mm_cost) (ne_nu_col : mm_numbers ≠ mm_column) (ne_di_si : mm_directs ≠ mm_sizes) (ne_di_ma : mm_directs ≠ mm_many) (ne_di_so : mm_directs ≠ mm_sorts) (ne_di_af : mm_directs ≠ af) (ne_di_au : mm_directs ≠ au) (ne_di_aw : mm_directs ≠ aw) (ne_di_ac : mm_directs ≠ ac) (ne_di_mm_from : mm_directs ≠ mm_from) (ne_di_mm_to : mm_directs ≠ mm_to) (ne_di_mm_weight : mm_directs ≠ mm_weight) (ne_di_mm_cost : mm_directs ≠ mm_cost) : Rn (gG D cI cJ cZ cT lo b 7 xs) mL_law d 554 [(0, .ref b), (1, .ref x), (2, .ref y), (3, .int ((nI 0)))] [] hp n kr wr (fun r _ _ => r = some (.int 1)) := by
  refine r_aload_n (pc := 554) dL_law_554 (i := 1) rfl rfl ?_
  refine r_aload_n (pc := 555) dL_law_555 (i := 0) rfl rfl ?_
  refine r_iload_n (pc := 556) dL_law_556 (i := 3) rfl rfl ?_
  refine r_iconst (pc := 557) (v := 1) dL_law_557 (by decide) ?_
  refine r_iadd (pc := 558) (v := (nI 1)) dL_law_558 (by decide) ?_
  refine w_sld (pc := 559) (v := (xs 1)) dL_law_559 (show vp_in (nI 1) 7 from vp_in_nI (by decide) (by decide)) (congrArg xs (nI_clamp (by decide))) ?_
  refine r_aload_n (pc := 560) dL_law_560 (i := 0) rfl rfl ?_
  refine r_iload_n (pc := 561) dL_law_561 (i := 3) rfl rfl ?_
  refine r_iconst (pc := 562) (v := 2) dL_law_562 (by decide) ?_
  refine r_iadd (pc := 563) (v := (nI 2)) dL_law_563 (by decide) ?_
  refine w_sld (pc := 564) (v := (xs 2)) dL_law_564 (show vp_in (nI 2) 7 from vp_in_nI (by decide) (by decide)) (congrArg xs (nI_clamp (by decide))) ?_
  refine r_aload_n (pc := 565) dL_law_565 (i := 0) rfl rfl ?_
  refine r_iload_n (pc := 566) dL_law_566 (i := 3) rfl rfl ?_
  refine r_iconst (pc := 567) (v := 3) dL_law_567 (by decide) ?_
  refine r_iadd (pc := 568) (v := (nI 3)) dL_law_568 (by decide) ?_
  refine w_sld (pc := 569) (v := (xs 3)) dL_law_569 (show vp_in (nI 3) 7 from vp_in_nI (by decide) (by decide)) (congrArg xs (nI_clamp (by decide))) ?_
  refine r_aload_n (pc := 570) dL_law_570 (i := 0) rfl rfl ?_
  refine r_iload_n (pc := 571) dL_law_571 (i := 3) rfl rfl ?_
  refine r_iconst (pc := 572) (v := 4) dL_law_572 (by decide) ?_
  refine r_iadd (pc := 573) (v := (nI 4)) dL_law_573 (by decide) ?_
  refine w_sld (pc := 574) (v := (xs 4)) dL_law_574 (show vp_in (nI 4) 7 from vp_in_nI (by decide) (by decide)) (congrArg xs (nI_clamp (by decide))) ?_
  refine r_aload_n (pc := 575) dL_law_575 (i := 0) rfl rfl ?_
  refine r_iload_n (pc := 576) dL_law_576 (i := 3) rfl rfl ?_
  refine r_iconst (pc := 577) (v := 5) dL_law_577 (by decide) ?_
  refine r_iadd (pc := 578) (v := (nI 5)) dL_law_578 (by decide) ?_
  refine w_sld (pc := 579) (v := (xs 5)) dL_law_579 (show vp_in (nI 5) 7 from vp_in_nI (by decide) (by decide)) (congrArg xs (nI_clamp (by decide))) ?_
  refine r_if_eq (pc := 580) (tgt := 587) dL_law_580 (by decide) (fun c580 => ?_) (fun c580 => ?_)
  · refine r_iconst (pc := 587) (v := 0) dL_law_587 (by decide) ?_
    refine r_aload_n (pc := 588) dL_law_588 (i := 0) rfl rfl ?_
    refine r_iload_n (pc := 589) dL_law_589 (i := 3) rfl rfl ?_
    refine r_bipush (pc := 590) (v := 6) dL_law_590 (by decide) ?_
    refine r_iadd (pc := 592) (v := (nI 6)) dL_law_592 (by decide) ?_
    refine w_sld (pc := 593) (v := (xs 6)) dL_law_593 (show vp_in (nI 6) 7 from vp_in_nI (by decide) (by decide)) (congrArg xs (nI_clamp (by decide))) ?_
    refine r_callV (pc := 594) (as := [.int ((xs 1)), .int ((xs 2)), .int ((xs 3)), .int ((xs 4)), .int 0, .int ((xs 6))]) (st := []) kL_53 rfl dL_law_594 gc0 (c_X11_run_n (d := d - 1) (x := x) (th := th) (dr := dr) (sk := sk) (sh := sh) (se := se) (pa := pa) (fl := fl) (sa := sa) (cnt := 0) (rf := 0) (p1 := (xs 1)) (p2 := (xs 2)) (p3 := (xs 3)) (p4 := (xs 4)) (q5 := false) (p6 := (xs 6)) (by omega) gc0 (no0 (xs 1)) (no0 (xs 2))) rfl (by omega) (Nat.le_of_ble_eq_true rfl) (by omega) (by omega) rfl (fun r9 hp_1 nn_2 hq_3 => ?_)
    obtain ⟨rfl, hq_3n, h_4, ho_5⟩ := hq_3
    subst nn_2
    change Rn _ _ _ 597 _ [.int ((-1))] _ _ _ _ _
    refine r_aload_n (pc := 597) dL_law_597 (i := 2) rfl rfl ?_
    refine r_aload_n (pc := 598) dL_law_598 (i := 0) rfl rfl ?_
    refine r_iload_n (pc := 599) dL_law_599 (i := 3) rfl rfl ?_
    refine r_iconst (pc := 600) (v := 1) dL_law_600 (by decide) ?_
    refine r_iadd (pc := 601) (v := (nI 1)) dL_law_601 (by decide) ?_
    refine w_sld (pc := 602) (v := (xs 1)) dL_law_602 (show vp_in (nI 1) 7 from vp_in_nI (by decide) (by decide)) (congrArg xs (nI_clamp (by decide))) ?_
    refine r_aload_n (pc := 603) dL_law_603 (i := 0) rfl rfl ?_
    refine r_iload_n (pc := 604) dL_law_604 (i := 3) rfl rfl ?_
    refine r_iconst (pc := 605) (v := 2) dL_law_605 (by decide) ?_
    refine r_iadd (pc := 606) (v := (nI 2)) dL_law_606 (by decide) ?_
    refine w_sld (pc := 607) (v := (xs 2)) dL_law_607 (show vp_in (nI 2) 7 from vp_in_nI (by decide) (by decide)) (congrArg xs (nI_clamp (by decide))) ?_
    refine r_aload_n (pc := 608) dL_law_608 (i := 0) rfl rfl ?_
    refine r_iload_n (pc := 609) dL_law_609 (i := 3) rfl rfl ?_
    refine r_iconst (pc := 610) (v := 3) dL_law_610 (by decide) ?_
    refine r_iadd (pc := 611) (v := (nI 3)) dL_law_611 (by decide) ?_
    refine w_sld (pc := 612) (v := (xs 3)) dL_law_612 (show vp_in (nI 3) 7 from vp_in_nI (by decide) (by decide)) (congrArg xs (nI_clamp (by decide))) ?_
    refine r_aload_n (pc := 613) dL_law_613 (i := 0) rfl rfl ?_
    refine r_iload_n (pc := 614) dL_law_614 (i := 3) rfl rfl ?_
    refine r_iconst (pc := 615) (v := 4) dL_law_615 (by decide) ?_
    refine r_iadd (pc := 616) (v := (nI 4)) dL_law_616 (by decide) ?_
    refine w_sld (pc := 617) (v := (xs 4)) dL_law_617 (show vp_in (nI 4) 7 from vp_in_nI (by decide) (by decide)) (congrArg xs (nI_clamp (by decide))) ?_
    refine r_aload_n (pc := 618) dL_law_618 (i := 0) rfl rfl ?_
    refine r_iload_n (pc := 619) dL_law_619 (i := 3) rfl rfl ?_
    refine r_iconst (pc := 620) (v := 5) dL_law_620 (by decide) ?_
    refine r_iadd (pc := 621) (v := (nI 5)) dL_law_621 (by decide) ?_
    refine w_sld (pc := 622) (v := (xs 5)) dL_law_622 (show vp_in (nI 5) 7 from vp_in_nI (by decide) (by decide)) (congrArg xs (nI_clamp (by decide))) ?_
    refine r_if_eq (pc := 623) (tgt := 630) dL_law_623 (by decide) (fun _ => ?_) (fun c9 => absurd (c580) c9)
    refine r_iconst (pc := 630) (v := 0) dL_law_630 (by decide) ?_
    refine r_aload_n (pc := 631) dL_law_631 (i := 0) rfl rfl ?_
    refine r_iload_n (pc := 632) dL_law_632 (i := 3) rfl rfl ?_
    refine r_bipush (pc := 633) (v := 6) dL_law_633 (by decide) ?_
    refine r_iadd (pc := 635) (v := (nI 6)) dL_law_635 (by decide) ?_
    refine w_sld (pc := 636) (v := (xs 6)) dL_law_636 (show vp_in (nI 6) 7 from vp_in_nI (by decide) (by decide)) (congrArg xs (nI_clamp (by decide))) ?_
    have h_9 : hp_1 y = some (.inr (11, [.int 0, .int 0, .ref mm_sorts, .ref mm_sizes, .ref mm_directs, .ref mm_many, .ref mm_from, .ref mm_to, .ref mm_weight, .ref mm_cost, .ref mm_numbers, .ref mm_state, .ref mm_worth, .ref mm_long1, .ref mm_howMany, .ref mm_rows, .ref mm_inPart, .ref mm_partCount, .ref mm_nf, .ref mm_nt, .ref mm_nw, .ref mm_nc, .int 0, .ref mm_column, .ref mm_next, .ref mm_inside, .ref mm_beside, .ref mm_solid, .ref mm_below, .ref mm_best, .ref mm_ways1, .ref mm_round, .ref mm_round2, .ref mm_label, .ref mm_bridge, .ref mm_outs, .ref mm_ins, .ref mm_least, .ref mm_spans, .ref mm_joinedWith, .ref mm_gone, .ref mm_dear, .ref mm_by, .ref mm_ahead, .ref mm_image])) := (ho_5 y _ gc7 (ne_c gc7 gc0 (by intro h9; cases h9)))
    refine r_callV (pc := 637) (as := [.int ((xs 1)), .int ((xs 2)), .int ((xs 3)), .int ((xs 4)), .int 0, .int ((xs 6))]) (st := [.int ((-1))]) kL_57 rfl dL_law_637 h_9 (c_X12_run_n (d := d - 1) (y := y) (mm_sorts := mm_sorts) (mm_sizes := mm_sizes) (mm_directs := mm_directs) (mm_many := mm_many) (mm_from := mm_from) (mm_to := mm_to) (mm_weight := mm_weight) (mm_cost := mm_cost) (mm_numbers := mm_numbers) (mm_state := mm_state) (mm_worth := mm_worth) (mm_long1 := mm_long1) (mm_howMany := mm_howMany) (mm_rows := mm_rows) (mm_inPart := mm_inPart) (mm_partCount := mm_partCount) (mm_nf := mm_nf) (mm_nt := mm_nt) (mm_nw := mm_nw) (mm_nc := mm_nc) (mm_column := mm_column) (mm_next := mm_next) (mm_inside := mm_inside) (mm_beside := mm_beside) (mm_solid := mm_solid) (mm_below := mm_below) (mm_best := mm_best) (mm_ways1 := mm_ways1) (mm_round := mm_round) (mm_round2 := mm_round2) (mm_label := mm_label) (mm_bridge := mm_bridge) (mm_outs := mm_outs) (mm_ins := mm_ins) (mm_least := mm_least) (mm_spans := mm_spans) (mm_joinedWith := mm_joinedWith) (mm_gone := mm_gone) (mm_dear := mm_dear) (mm_by := mm_by) (mm_ahead := mm_ahead) (mm_image := mm_image) (rf := 0) (cnt := 0) (nm := 0) (p1 := (xs 1)) (p2 := (xs 2)) (p3 := (xs 3)) (p4 := (xs 4)) (q5 := false) (p6 := (xs 6)) (by omega) h_9 (no0 (xs 1))) rfl (by omega) (Nat.le_of_ble_eq_true rfl) (by omega) (by omega) rfl (fun r9 hp_6 nn_7 hq_8 => ?_)
    obtain ⟨rfl, hq_8n, h_10, ho_11⟩ := hq_8
    subst nn_7
    change Rn _ _ _ 640 _ [.int ((-1)), .int ((-1))] _ _ _ _ _
    refine r_icmp_eq (pc := 640) (tgt := 1077) dL_law_640 (by decide) (fun _ => ?_) (fun c9 => absurd (rfl) c9)
    refine Rn.pick (lv' := [(0, .ref b), (1, .ref x), (2, .ref y), (3, .int ((nI 0)))]) [0, 1, 2, 3] rfl ?_
    exact law_end
  · refine r_iconst (pc := 583) (v := 1) dL_law_583 (by decide) ?_
    refine r_goto (pc := 584) (tgt := 588) dL_law_584 (by decide) ?_
    refine r_aload_n (pc := 588) dL_law_588 (i := 0) rfl rfl ?_
    refine r_iload_n (pc := 589) dL_law_589 (i := 3) rfl rfl ?_
    refine r_bipush (pc := 590) (v := 6) dL_law_590 (by decide) ?_
    refine r_iadd (pc := 592) (v := (nI 6)) dL_law_592 (by decide) ?_
    refine w_sld (pc := 593) (v := (xs 6)) dL_law_593 (show vp_in (nI 6) 7 from vp_in_nI (by decide) (by decide)) (congrArg xs (nI_clamp (by decide))) ?_
    refine r_callV (pc := 594) (as := [.int ((xs 1)), .int ((xs 2)), .int ((xs 3)), .int ((xs 4)), .int 1, .int ((xs 6))]) (st := []) kL_53 rfl dL_law_594 gc0 (c_X11_run_n (d := d - 1) (x := x) (th := th) (dr := dr) (sk := sk) (sh := sh) (se := se) (pa := pa) (fl := fl) (sa := sa) (cnt := 0) (rf := 0) (p1 := (xs 1)) (p2 := (xs 2)) (p3 := (xs 3)) (p4 := (xs 4)) (q5 := true) (p6 := (xs 6)) (by omega) gc0 (no0 (xs 1)) (no0 (xs 2))) rfl (by omega) (Nat.le_of_ble_eq_true rfl) (by omega) (by omega) rfl (fun r9 hp_12 nn_13 hq_14 => ?_)
    obtain ⟨rfl, hq_14n, h_15, ho_16⟩ := hq_14
    subst nn_13
    change Rn _ _ _ 597 _ [.int ((-1))] _ _ _ _ _
    refine r_aload_n (pc := 597) dL_law_597 (i := 2) rfl rfl ?_
    refine r_aload_n (pc := 598) dL_law_598 (i := 0) rfl rfl ?_
    refine r_iload_n (pc := 599) dL_law_599 (i := 3) rfl rfl ?_
    refine r_iconst (pc := 600) (v := 1) dL_law_600 (by decide) ?_
    refine r_iadd (pc := 601) (v := (nI 1)) dL_law_601 (by decide) ?_
    refine w_sld (pc := 602) (v := (xs 1)) dL_law_602 (show vp_in (nI 1) 7 from vp_in_nI (by decide) (by decide)) (congrArg xs (nI_clamp (by decide))) ?_
    refine r_aload_n (pc := 603) dL_law_603 (i := 0) rfl rfl ?_
    refine r_iload_n (pc := 604) dL_law_604 (i := 3) rfl rfl ?_
    refine r_iconst (pc := 605) (v := 2) dL_law_605 (by decide) ?_
    refine r_iadd (pc := 606) (v := (nI 2)) dL_law_606 (by decide) ?_
    refine w_sld (pc := 607) (v := (xs 2)) dL_law_607 (show vp_in (nI 2) 7 from vp_in_nI (by decide) (by decide)) (congrArg xs (nI_clamp (by decide))) ?_
    refine r_aload_n (pc := 608) dL_law_608 (i := 0) rfl rfl ?_
    refine r_iload_n (pc := 609) dL_law_609 (i := 3) rfl rfl ?_
    refine r_iconst (pc := 610) (v := 3) dL_law_610 (by decide) ?_
    refine r_iadd (pc := 611) (v := (nI 3)) dL_law_611 (by decide) ?_
    refine w_sld (pc := 612) (v := (xs 3)) dL_law_612 (show vp_in (nI 3) 7 from vp_in_nI (by decide) (by decide)) (congrArg xs (nI_clamp (by decide))) ?_
    refine r_aload_n (pc := 613) dL_law_613 (i := 0) rfl rfl ?_
    refine r_iload_n (pc := 614) dL_law_614 (i := 3) rfl rfl ?_
    refine r_iconst (pc := 615) (v := 4) dL_law_615 (by decide) ?_
    refine r_iadd (pc := 616) (v := (nI 4)) dL_law_616 (by decide) ?_
    refine w_sld (pc := 617) (v := (xs 4)) dL_law_617 (show vp_in (nI 4) 7 from vp_in_nI (by decide) (by decide)) (congrArg xs (nI_clamp (by decide))) ?_
    refine r_aload_n (pc := 618) dL_law_618 (i := 0) rfl rfl ?_
    refine r_iload_n (pc := 619) dL_law_619 (i := 3) rfl rfl ?_
    refine r_iconst (pc := 620) (v := 5) dL_law_620 (by decide) ?_
    refine r_iadd (pc := 621) (v := (nI 5)) dL_law_621 (by decide) ?_
    refine w_sld (pc := 622) (v := (xs 5)) dL_law_622 (show vp_in (nI 5) 7 from vp_in_nI (by decide) (by decide)) (congrArg xs (nI_clamp (by decide))) ?_
    refine r_if_eq (pc := 623) (tgt := 630) dL_law_623 (by decide) (fun c9 => absurd c9 (c580)) (fun _ => ?_)
    refine r_iconst (pc := 626) (v := 1) dL_law_626 (by decide) ?_
    refine r_goto (pc := 627) (tgt := 631) dL_law_627 (by decide) ?_
    refine r_aload_n (pc := 631) dL_law_631 (i := 0) rfl rfl ?_
    refine r_iload_n (pc := 632) dL_law_632 (i := 3) rfl rfl ?_
    refine r_bipush (pc := 633) (v := 6) dL_law_633 (by decide) ?_
    refine r_iadd (pc := 635) (v := (nI 6)) dL_law_635 (by decide) ?_
    refine w_sld (pc := 636) (v := (xs 6)) dL_law_636 (show vp_in (nI 6) 7 from vp_in_nI (by decide) (by decide)) (congrArg xs (nI_clamp (by decide))) ?_
    have h_20 : hp_12 y = some (.inr (11, [.int 0, .int 0, .ref mm_sorts, .ref mm_sizes, .ref mm_directs, .ref mm_many, .ref mm_from, .ref mm_to, .ref mm_weight, .ref mm_cost, .ref mm_numbers, .ref mm_state, .ref mm_worth, .ref mm_long1, .ref mm_howMany, .ref mm_rows, .ref mm_inPart, .ref mm_partCount, .ref mm_nf, .ref mm_nt, .ref mm_nw, .ref mm_nc, .int 0, .ref mm_column, .ref mm_next, .ref mm_inside, .ref mm_beside, .ref mm_solid, .ref mm_below, .ref mm_best, .ref mm_ways1, .ref mm_round, .ref mm_round2, .ref mm_label, .ref mm_bridge, .ref mm_outs, .ref mm_ins, .ref mm_least, .ref mm_spans, .ref mm_joinedWith, .ref mm_gone, .ref mm_dear, .ref mm_by, .ref mm_ahead, .ref mm_image])) := (ho_16 y _ gc7 (ne_c gc7 gc0 (by intro h9; cases h9)))
    refine r_callV (pc := 637) (as := [.int ((xs 1)), .int ((xs 2)), .int ((xs 3)), .int ((xs 4)), .int 1, .int ((xs 6))]) (st := [.int ((-1))]) kL_57 rfl dL_law_637 h_20 (c_X12_run_n (d := d - 1) (y := y) (mm_sorts := mm_sorts) (mm_sizes := mm_sizes) (mm_directs := mm_directs) (mm_many := mm_many) (mm_from := mm_from) (mm_to := mm_to) (mm_weight := mm_weight) (mm_cost := mm_cost) (mm_numbers := mm_numbers) (mm_state := mm_state) (mm_worth := mm_worth) (mm_long1 := mm_long1) (mm_howMany := mm_howMany) (mm_rows := mm_rows) (mm_inPart := mm_inPart) (mm_partCount := mm_partCount) (mm_nf := mm_nf) (mm_nt := mm_nt) (mm_nw := mm_nw) (mm_nc := mm_nc) (mm_column := mm_column) (mm_next := mm_next) (mm_inside := mm_inside) (mm_beside := mm_beside) (mm_solid := mm_solid) (mm_below := mm_below) (mm_best := mm_best) (mm_ways1 := mm_ways1) (mm_round := mm_round) (mm_round2 := mm_round2) (mm_label := mm_label) (mm_bridge := mm_bridge) (mm_outs := mm_outs) (mm_ins := mm_ins) (mm_least := mm_least) (mm_spans := mm_spans) (mm_joinedWith := mm_joinedWith) (mm_gone := mm_gone) (mm_dear := mm_dear) (mm_by := mm_by) (mm_ahead := mm_ahead) (mm_image := mm_image) (rf := 0) (cnt := 0) (nm := 0) (p1 := (xs 1)) (p2 := (xs 2)) (p3 := (xs 3)) (p4 := (xs 4)) (q5 := true) (p6 := (xs 6)) (by omega) h_20 (no0 (xs 1))) rfl (by omega) (Nat.le_of_ble_eq_true rfl) (by omega) (by omega) rfl (fun r9 hp_17 nn_18 hq_19 => ?_)
    obtain ⟨rfl, hq_19n, h_21, ho_22⟩ := hq_19
    subst nn_18
    change Rn _ _ _ 640 _ [.int ((-1)), .int ((-1))] _ _ _ _ _
    refine r_icmp_eq (pc := 640) (tgt := 1077) dL_law_640 (by decide) (fun _ => ?_) (fun c9 => absurd (rfl) c9)
    refine Rn.pick (lv' := [(0, .ref b), (1, .ref x), (2, .ref y), (3, .int ((nI 0)))]) [0, 1, 2, 3] rfl ?_
    exact law_end
set_option maxHeartbeats 4000000 in
set_option maxRecDepth 100000 in
theorem law_9 {D : va_G} {cI cJ cZ cT : ClassId} {lo b : Nat} {xs : Nat → Int32} {hp : MH} {n d kr wr : Nat} {x th dr sk sh se pa fl sa af au aw ac al : Nat} {y mm_sorts mm_sizes mm_directs mm_many mm_from mm_to mm_weight mm_cost mm_numbers mm_state mm_worth mm_long1 mm_howMany mm_rows mm_inPart mm_partCount mm_nf mm_nt mm_nw mm_nc mm_column mm_next mm_inside mm_beside mm_solid mm_below mm_best mm_ways1 mm_round mm_round2 mm_label mm_bridge mm_outs mm_ins mm_least mm_spans mm_joinedWith mm_gone mm_dear mm_by mm_ahead mm_image : Nat} (hd0 : 10 ≤ d) (hkr : 20 ≤ kr) (hwr : 300 ≤ wr) (gc0 : hp x = some (.inr (10, [.ref th, .int 0, .int 0, .ref dr, .ref sk, .ref sh, .ref se, .ref pa, .ref fl, .ref sa]))) (gc1 : hp th = some (.inl (cT, 120, .inr (.inr (.inr (.inr (fun _ => none))))))) (gc2 : hp dr = some (.inr (1, [.int 1, .int 0, .int 0, .ref af, .ref au, .ref aw, .ref ac, .ref al]))) (gc3 : hp af = some (.inl (cI, 60, .inl (fun _ => 0)))) (gc4 : hp au = some (.inl (cI, 60, .inl (fun _ => 0)))) (gc5 : hp aw = some (.inl (cI, 60, .inl (fun _ => 0)))) (gc6 : hp ac = some (.inl (cI, 60, .inl (fun _ => 0)))) (gc7 : hp y = some (.inr (11, [.int 0, .int 0, .ref mm_sorts, .ref mm_sizes, .ref mm_directs, .ref mm_many, .ref mm_from, .ref mm_to, .ref mm_weight, .ref mm_cost, .ref mm_numbers, .ref mm_state, .ref mm_worth, .ref mm_long1, .ref mm_howMany, .ref mm_rows, .ref mm_inPart, .ref mm_partCount, .ref mm_nf, .ref mm_nt, .ref mm_nw, .ref mm_nc, .int 0, .ref mm_column, .ref mm_next, .ref mm_inside, .ref mm_beside, .ref mm_solid, .ref mm_below, .ref mm_best, .ref mm_ways1, .ref mm_round, .ref mm_round2, .ref mm_label, .ref mm_bridge, .ref mm_outs, .ref mm_ins, .ref mm_least, .ref mm_spans, .ref mm_joinedWith, .ref mm_gone, .ref mm_dear, .ref mm_by, .ref mm_ahead, .ref mm_image]))) (gc8 : hp mm_sorts = some (.inl (cI, 121, .inl (fun _ => 0)))) (gc9 : hp mm_sizes = some (.inl (cI, 121, .inl (upd (fun _ => 0) 120 1)))) (gc10 : hp mm_directs = some (.inl (cZ, 121, .inl (upd (fun _ => 0) 120 0)))) (gc11 : hp mm_many = some (.inl (cI, 121, .inl (upd (fun _ => 0) 120 0)))) (gc12 : hp mm_from = some (.inl (cI, 7260, .inl (fun _ => 0)))) (gc13 : hp mm_to = some (.inl (cI, 7260, .inl (fun _ => 0)))) (gc14 : hp mm_weight = some (.inl (cI, 7260, .inl (fun _ => 0)))) (gc15 : hp mm_cost = some (.inl (cI, 7260, .inl (fun _ => 0)))) (gc16 : hp mm_numbers = some (.inl (cJ, 1936, .inr (.inl (fun _ => 0))))) (gc17 : hp mm_column = some (.inl (cJ, 16, .inr (.inl (fun _ => 0))))) (ne_af_au : af ≠ au) (ne_af_aw : af ≠ aw) (ne_af_ac : af ≠ ac) (ne_af_mm_sorts : af ≠ mm_sorts) (ne_af_mm_sizes : af ≠ mm_sizes) (ne_af_mm_many : af ≠ mm_many) (ne_af_mm_from : af ≠ mm_from) (ne_af_mm_to : af ≠ mm_to) (ne_af_mm_weight : af ≠ mm_weight) (ne_af_mm_cost : af ≠ mm_cost) (ne_au_aw : au ≠ aw) (ne_au_ac : au ≠ ac) (ne_au_mm_sorts : au ≠ mm_sorts) (ne_au_mm_sizes : au ≠ mm_sizes) (ne_au_mm_many : au ≠ mm_many) (ne_au_mm_from : au ≠ mm_from) (ne_au_mm_to : au ≠ mm_to) (ne_au_mm_weight : au ≠ mm_weight) (ne_au_mm_cost : au ≠ mm_cost) (ne_aw_ac : aw ≠ ac) (ne_aw_mm_sorts : aw ≠ mm_sorts) (ne_aw_mm_sizes : aw ≠ mm_sizes) (ne_aw_mm_many : aw ≠ mm_many) (ne_aw_mm_from : aw ≠ mm_from) (ne_aw_mm_to : aw ≠ mm_to) (ne_aw_mm_weight : aw ≠ mm_weight) (ne_aw_mm_cost : aw ≠ mm_cost) (ne_ac_mm_sorts : ac ≠ mm_sorts) (ne_ac_mm_sizes : ac ≠ mm_sizes) (ne_ac_mm_many : ac ≠ mm_many) (ne_ac_mm_from : ac ≠ mm_from) (ne_ac_mm_to : ac ≠ mm_to) (ne_ac_mm_weight : ac ≠ mm_weight) (ne_ac_mm_cost : ac ≠ mm_cost) (ne_mm_sorts_mm_sizes : mm_sorts ≠ mm_sizes) (ne_mm_sorts_mm_many : mm_sorts ≠ mm_many) (ne_mm_sorts_mm_from : mm_sorts ≠ mm_from) (ne_mm_sorts_mm_to : mm_sorts ≠ mm_to) (ne_mm_sorts_mm_weight : mm_sorts ≠ mm_weight) (ne_mm_sorts_mm_cost : mm_sorts ≠ mm_cost) (ne_mm_sizes_mm_many : mm_sizes ≠ mm_many) (ne_mm_sizes_mm_from : mm_sizes ≠ mm_from) (ne_mm_sizes_mm_to : mm_sizes ≠ mm_to) (ne_mm_sizes_mm_weight : mm_sizes ≠ mm_weight) (ne_mm_sizes_mm_cost : mm_sizes ≠ mm_cost) (ne_mm_many_mm_from : mm_many ≠ mm_from) (ne_mm_many_mm_to : mm_many ≠ mm_to) (ne_mm_many_mm_weight : mm_many ≠ mm_weight) (ne_mm_many_mm_cost : mm_many ≠ mm_cost) (ne_mm_from_mm_to : mm_from ≠ mm_to) (ne_mm_from_mm_weight : mm_from ≠ mm_weight) (ne_mm_from_mm_cost : mm_from ≠ mm_cost) (ne_mm_to_mm_weight : mm_to ≠ mm_weight) (ne_mm_to_mm_cost : mm_to ≠ mm_cost) (ne_mm_weight_mm_cost : mm_weight ≠ mm_cost) (ne_nu_col : mm_numbers ≠ mm_column) (ne_di_si : mm_directs ≠ mm_sizes) (ne_di_ma : mm_directs ≠ mm_many) (ne_di_so : mm_directs ≠ mm_sorts) (ne_di_af : mm_directs ≠ af) (ne_di_au : mm_directs ≠ au) (ne_di_aw : mm_directs ≠ aw) (ne_di_ac : mm_directs ≠ ac) (ne_di_mm_from : mm_directs ≠ mm_from) (ne_di_mm_to : mm_directs ≠ mm_to) (ne_di_mm_weight : mm_directs ≠ mm_weight) (ne_di_mm_cost : mm_directs ≠ mm_cost) : Rn (gG D cI cJ cZ cT lo b 7 xs) mL_law d 645 [(0, .ref b), (1, .ref x), (2, .ref y), (3, .int ((nI 0)))] [] hp n kr wr (fun r _ _ => r = some (.int 1)) := by
  refine r_aload_n (pc := 645) dL_law_645 (i := 1) rfl rfl ?_
  refine r_aload_n (pc := 646) dL_law_646 (i := 0) rfl rfl ?_
  refine r_iload_n (pc := 647) dL_law_647 (i := 3) rfl rfl ?_
  refine r_iconst (pc := 648) (v := 1) dL_law_648 (by decide) ?_
  refine r_iadd (pc := 649) (v := (nI 1)) dL_law_649 (by decide) ?_
  refine w_sld (pc := 650) (v := (xs 1)) dL_law_650 (show vp_in (nI 1) 7 from vp_in_nI (by decide) (by decide)) (congrArg xs (nI_clamp (by decide))) ?_
  refine r_aload_n (pc := 651) dL_law_651 (i := 0) rfl rfl ?_
  refine r_iload_n (pc := 652) dL_law_652 (i := 3) rfl rfl ?_
  refine r_iconst (pc := 653) (v := 2) dL_law_653 (by decide) ?_
  refine r_iadd (pc := 654) (v := (nI 2)) dL_law_654 (by decide) ?_
  refine w_sld (pc := 655) (v := (xs 2)) dL_law_655 (show vp_in (nI 2) 7 from vp_in_nI (by decide) (by decide)) (congrArg xs (nI_clamp (by decide))) ?_
  refine r_aload_n (pc := 656) dL_law_656 (i := 0) rfl rfl ?_
  refine r_iload_n (pc := 657) dL_law_657 (i := 3) rfl rfl ?_
  refine r_iconst (pc := 658) (v := 3) dL_law_658 (by decide) ?_
  refine r_iadd (pc := 659) (v := (nI 3)) dL_law_659 (by decide) ?_
  refine w_sld (pc := 660) (v := (xs 3)) dL_law_660 (show vp_in (nI 3) 7 from vp_in_nI (by decide) (by decide)) (congrArg xs (nI_clamp (by decide))) ?_
  refine r_callV (pc := 661) (as := [.int ((xs 1)), .int ((xs 2)), .int ((xs 3))]) (st := []) kL_58 rfl dL_law_661 gc0 (c_X11_ways_n (d := d - 1) (x := x) (th := th) (dr := dr) (sk := sk) (sh := sh) (se := se) (pa := pa) (fl := fl) (sa := sa) (cnt := 0) (rf := 0) (p1 := (xs 1)) (p2 := (xs 2)) (p3 := (xs 3)) (by omega) gc0 (no0 (xs 1))) rfl (by omega) (Nat.le_of_ble_eq_true rfl) (by omega) (by omega) rfl (fun r9 hp_1 nn_2 hq_3 => ?_)
  obtain ⟨rfl, hq_3n, h_4, ho_5⟩ := hq_3
  subst nn_2
  change Rn _ _ _ 664 _ [.int ((-1))] _ _ _ _ _
  refine r_aload_n (pc := 664) dL_law_664 (i := 2) rfl rfl ?_
  refine r_aload_n (pc := 665) dL_law_665 (i := 0) rfl rfl ?_
  refine r_iload_n (pc := 666) dL_law_666 (i := 3) rfl rfl ?_
  refine r_iconst (pc := 667) (v := 1) dL_law_667 (by decide) ?_
  refine r_iadd (pc := 668) (v := (nI 1)) dL_law_668 (by decide) ?_
  refine w_sld (pc := 669) (v := (xs 1)) dL_law_669 (show vp_in (nI 1) 7 from vp_in_nI (by decide) (by decide)) (congrArg xs (nI_clamp (by decide))) ?_
  refine r_aload_n (pc := 670) dL_law_670 (i := 0) rfl rfl ?_
  refine r_iload_n (pc := 671) dL_law_671 (i := 3) rfl rfl ?_
  refine r_iconst (pc := 672) (v := 2) dL_law_672 (by decide) ?_
  refine r_iadd (pc := 673) (v := (nI 2)) dL_law_673 (by decide) ?_
  refine w_sld (pc := 674) (v := (xs 2)) dL_law_674 (show vp_in (nI 2) 7 from vp_in_nI (by decide) (by decide)) (congrArg xs (nI_clamp (by decide))) ?_
  refine r_aload_n (pc := 675) dL_law_675 (i := 0) rfl rfl ?_
  refine r_iload_n (pc := 676) dL_law_676 (i := 3) rfl rfl ?_
  refine r_iconst (pc := 677) (v := 3) dL_law_677 (by decide) ?_
  refine r_iadd (pc := 678) (v := (nI 3)) dL_law_678 (by decide) ?_
  refine w_sld (pc := 679) (v := (xs 3)) dL_law_679 (show vp_in (nI 3) 7 from vp_in_nI (by decide) (by decide)) (congrArg xs (nI_clamp (by decide))) ?_
  have h_9 : hp_1 y = some (.inr (11, [.int 0, .int 0, .ref mm_sorts, .ref mm_sizes, .ref mm_directs, .ref mm_many, .ref mm_from, .ref mm_to, .ref mm_weight, .ref mm_cost, .ref mm_numbers, .ref mm_state, .ref mm_worth, .ref mm_long1, .ref mm_howMany, .ref mm_rows, .ref mm_inPart, .ref mm_partCount, .ref mm_nf, .ref mm_nt, .ref mm_nw, .ref mm_nc, .int 0, .ref mm_column, .ref mm_next, .ref mm_inside, .ref mm_beside, .ref mm_solid, .ref mm_below, .ref mm_best, .ref mm_ways1, .ref mm_round, .ref mm_round2, .ref mm_label, .ref mm_bridge, .ref mm_outs, .ref mm_ins, .ref mm_least, .ref mm_spans, .ref mm_joinedWith, .ref mm_gone, .ref mm_dear, .ref mm_by, .ref mm_ahead, .ref mm_image])) := (ho_5 y _ gc7 (ne_c gc7 gc0 (by intro h9; cases h9)))
  refine r_callV (pc := 680) (as := [.int ((xs 1)), .int ((xs 2)), .int ((xs 3))]) (st := [.int ((-1))]) kL_61 rfl dL_law_680 h_9 (c_X12_ways_n (d := d - 1) (y := y) (mm_sorts := mm_sorts) (mm_sizes := mm_sizes) (mm_directs := mm_directs) (mm_many := mm_many) (mm_from := mm_from) (mm_to := mm_to) (mm_weight := mm_weight) (mm_cost := mm_cost) (mm_numbers := mm_numbers) (mm_state := mm_state) (mm_worth := mm_worth) (mm_long1 := mm_long1) (mm_howMany := mm_howMany) (mm_rows := mm_rows) (mm_inPart := mm_inPart) (mm_partCount := mm_partCount) (mm_nf := mm_nf) (mm_nt := mm_nt) (mm_nw := mm_nw) (mm_nc := mm_nc) (mm_column := mm_column) (mm_next := mm_next) (mm_inside := mm_inside) (mm_beside := mm_beside) (mm_solid := mm_solid) (mm_below := mm_below) (mm_best := mm_best) (mm_ways1 := mm_ways1) (mm_round := mm_round) (mm_round2 := mm_round2) (mm_label := mm_label) (mm_bridge := mm_bridge) (mm_outs := mm_outs) (mm_ins := mm_ins) (mm_least := mm_least) (mm_spans := mm_spans) (mm_joinedWith := mm_joinedWith) (mm_gone := mm_gone) (mm_dear := mm_dear) (mm_by := mm_by) (mm_ahead := mm_ahead) (mm_image := mm_image) (rf := 0) (cnt := 0) (nm := 0) (p1 := (xs 1)) (p2 := (xs 2)) (p3 := (xs 3)) (by omega) h_9 (no0 (xs 1))) rfl (by omega) (Nat.le_of_ble_eq_true rfl) (by omega) (by omega) rfl (fun r9 hp_6 nn_7 hq_8 => ?_)
  obtain ⟨rfl, hq_8n, h_10, ho_11⟩ := hq_8
  subst nn_7
  change Rn _ _ _ 683 _ [.int ((-1)), .int ((-1))] _ _ _ _ _
  refine r_icmp_eq (pc := 683) (tgt := 1077) dL_law_683 (by decide) (fun _ => ?_) (fun c9 => absurd (rfl) c9)
  refine Rn.pick (lv' := [(0, .ref b), (1, .ref x), (2, .ref y), (3, .int ((nI 0)))]) [0, 1, 2, 3] rfl ?_
  exact law_end
set_option maxHeartbeats 4000000 in
set_option maxRecDepth 100000 in
theorem law_10 {D : va_G} {cI cJ cZ cT : ClassId} {lo b : Nat} {xs : Nat → Int32} {hp : MH} {n d kr wr : Nat} {x th dr sk sh se pa fl sa af au aw ac al : Nat} {y mm_sorts mm_sizes mm_directs mm_many mm_from mm_to mm_weight mm_cost mm_numbers mm_state mm_worth mm_long1 mm_howMany mm_rows mm_inPart mm_partCount mm_nf mm_nt mm_nw mm_nc mm_column mm_next mm_inside mm_beside mm_solid mm_below mm_best mm_ways1 mm_round mm_round2 mm_label mm_bridge mm_outs mm_ins mm_least mm_spans mm_joinedWith mm_gone mm_dear mm_by mm_ahead mm_image : Nat} (hd0 : 10 ≤ d) (hkr : 20 ≤ kr) (hwr : 300 ≤ wr) (gc0 : hp x = some (.inr (10, [.ref th, .int 0, .int 0, .ref dr, .ref sk, .ref sh, .ref se, .ref pa, .ref fl, .ref sa]))) (gc1 : hp th = some (.inl (cT, 120, .inr (.inr (.inr (.inr (fun _ => none))))))) (gc2 : hp dr = some (.inr (1, [.int 1, .int 0, .int 0, .ref af, .ref au, .ref aw, .ref ac, .ref al]))) (gc3 : hp af = some (.inl (cI, 60, .inl (fun _ => 0)))) (gc4 : hp au = some (.inl (cI, 60, .inl (fun _ => 0)))) (gc5 : hp aw = some (.inl (cI, 60, .inl (fun _ => 0)))) (gc6 : hp ac = some (.inl (cI, 60, .inl (fun _ => 0)))) (gc7 : hp y = some (.inr (11, [.int 0, .int 0, .ref mm_sorts, .ref mm_sizes, .ref mm_directs, .ref mm_many, .ref mm_from, .ref mm_to, .ref mm_weight, .ref mm_cost, .ref mm_numbers, .ref mm_state, .ref mm_worth, .ref mm_long1, .ref mm_howMany, .ref mm_rows, .ref mm_inPart, .ref mm_partCount, .ref mm_nf, .ref mm_nt, .ref mm_nw, .ref mm_nc, .int 0, .ref mm_column, .ref mm_next, .ref mm_inside, .ref mm_beside, .ref mm_solid, .ref mm_below, .ref mm_best, .ref mm_ways1, .ref mm_round, .ref mm_round2, .ref mm_label, .ref mm_bridge, .ref mm_outs, .ref mm_ins, .ref mm_least, .ref mm_spans, .ref mm_joinedWith, .ref mm_gone, .ref mm_dear, .ref mm_by, .ref mm_ahead, .ref mm_image]))) (gc8 : hp mm_sorts = some (.inl (cI, 121, .inl (fun _ => 0)))) (gc9 : hp mm_sizes = some (.inl (cI, 121, .inl (upd (fun _ => 0) 120 1)))) (gc10 : hp mm_directs = some (.inl (cZ, 121, .inl (upd (fun _ => 0) 120 0)))) (gc11 : hp mm_many = some (.inl (cI, 121, .inl (upd (fun _ => 0) 120 0)))) (gc12 : hp mm_from = some (.inl (cI, 7260, .inl (fun _ => 0)))) (gc13 : hp mm_to = some (.inl (cI, 7260, .inl (fun _ => 0)))) (gc14 : hp mm_weight = some (.inl (cI, 7260, .inl (fun _ => 0)))) (gc15 : hp mm_cost = some (.inl (cI, 7260, .inl (fun _ => 0)))) (gc16 : hp mm_numbers = some (.inl (cJ, 1936, .inr (.inl (fun _ => 0))))) (gc17 : hp mm_column = some (.inl (cJ, 16, .inr (.inl (fun _ => 0))))) (ne_af_au : af ≠ au) (ne_af_aw : af ≠ aw) (ne_af_ac : af ≠ ac) (ne_af_mm_sorts : af ≠ mm_sorts) (ne_af_mm_sizes : af ≠ mm_sizes) (ne_af_mm_many : af ≠ mm_many) (ne_af_mm_from : af ≠ mm_from) (ne_af_mm_to : af ≠ mm_to) (ne_af_mm_weight : af ≠ mm_weight) (ne_af_mm_cost : af ≠ mm_cost) (ne_au_aw : au ≠ aw) (ne_au_ac : au ≠ ac) (ne_au_mm_sorts : au ≠ mm_sorts) (ne_au_mm_sizes : au ≠ mm_sizes) (ne_au_mm_many : au ≠ mm_many) (ne_au_mm_from : au ≠ mm_from) (ne_au_mm_to : au ≠ mm_to) (ne_au_mm_weight : au ≠ mm_weight) (ne_au_mm_cost : au ≠ mm_cost) (ne_aw_ac : aw ≠ ac) (ne_aw_mm_sorts : aw ≠ mm_sorts) (ne_aw_mm_sizes : aw ≠ mm_sizes) (ne_aw_mm_many : aw ≠ mm_many) (ne_aw_mm_from : aw ≠ mm_from) (ne_aw_mm_to : aw ≠ mm_to) (ne_aw_mm_weight : aw ≠ mm_weight) (ne_aw_mm_cost : aw ≠ mm_cost) (ne_ac_mm_sorts : ac ≠ mm_sorts) (ne_ac_mm_sizes : ac ≠ mm_sizes) (ne_ac_mm_many : ac ≠ mm_many) (ne_ac_mm_from : ac ≠ mm_from) (ne_ac_mm_to : ac ≠ mm_to) (ne_ac_mm_weight : ac ≠ mm_weight) (ne_ac_mm_cost : ac ≠ mm_cost) (ne_mm_sorts_mm_sizes : mm_sorts ≠ mm_sizes) (ne_mm_sorts_mm_many : mm_sorts ≠ mm_many) (ne_mm_sorts_mm_from : mm_sorts ≠ mm_from) (ne_mm_sorts_mm_to : mm_sorts ≠ mm_to) (ne_mm_sorts_mm_weight : mm_sorts ≠ mm_weight) (ne_mm_sorts_mm_cost : mm_sorts ≠ mm_cost) (ne_mm_sizes_mm_many : mm_sizes ≠ mm_many) (ne_mm_sizes_mm_from : mm_sizes ≠ mm_from) (ne_mm_sizes_mm_to : mm_sizes ≠ mm_to) (ne_mm_sizes_mm_weight : mm_sizes ≠ mm_weight) (ne_mm_sizes_mm_cost : mm_sizes ≠ mm_cost) (ne_mm_many_mm_from : mm_many ≠ mm_from) (ne_mm_many_mm_to : mm_many ≠ mm_to) (ne_mm_many_mm_weight : mm_many ≠ mm_weight) (ne_mm_many_mm_cost : mm_many ≠ mm_cost) (ne_mm_from_mm_to : mm_from ≠ mm_to) (ne_mm_from_mm_weight : mm_from ≠ mm_weight) (ne_mm_from_mm_cost : mm_from ≠ mm_cost) (ne_mm_to_mm_weight : mm_to ≠ mm_weight) (ne_mm_to_mm_cost : mm_to ≠ mm_cost) (ne_mm_weight_mm_cost : mm_weight ≠ mm_cost) (ne_nu_col : mm_numbers ≠ mm_column) (ne_di_si : mm_directs ≠ mm_sizes) (ne_di_ma : mm_directs ≠ mm_many) (ne_di_so : mm_directs ≠ mm_sorts) (ne_di_af : mm_directs ≠ af) (ne_di_au : mm_directs ≠ au) (ne_di_aw : mm_directs ≠ aw) (ne_di_ac : mm_directs ≠ ac) (ne_di_mm_from : mm_directs ≠ mm_from) (ne_di_mm_to : mm_directs ≠ mm_to) (ne_di_mm_weight : mm_directs ≠ mm_weight) (ne_di_mm_cost : mm_directs ≠ mm_cost) : Rn (gG D cI cJ cZ cT lo b 7 xs) mL_law d 688 [(0, .ref b), (1, .ref x), (2, .ref y), (3, .int ((nI 0)))] [] hp n kr wr (fun r _ _ => r = some (.int 1)) := by
  refine r_aload_n (pc := 688) dL_law_688 (i := 1) rfl rfl ?_
  refine r_aload_n (pc := 689) dL_law_689 (i := 0) rfl rfl ?_
  refine r_iload_n (pc := 690) dL_law_690 (i := 3) rfl rfl ?_
  refine r_iconst (pc := 691) (v := 1) dL_law_691 (by decide) ?_
  refine r_iadd (pc := 692) (v := (nI 1)) dL_law_692 (by decide) ?_
  refine w_sld (pc := 693) (v := (xs 1)) dL_law_693 (show vp_in (nI 1) 7 from vp_in_nI (by decide) (by decide)) (congrArg xs (nI_clamp (by decide))) ?_
  refine r_aload_n (pc := 694) dL_law_694 (i := 0) rfl rfl ?_
  refine r_iload_n (pc := 695) dL_law_695 (i := 3) rfl rfl ?_
  refine r_iconst (pc := 696) (v := 2) dL_law_696 (by decide) ?_
  refine r_iadd (pc := 697) (v := (nI 2)) dL_law_697 (by decide) ?_
  refine w_sld (pc := 698) (v := (xs 2)) dL_law_698 (show vp_in (nI 2) 7 from vp_in_nI (by decide) (by decide)) (congrArg xs (nI_clamp (by decide))) ?_
  refine r_aload_n (pc := 699) dL_law_699 (i := 0) rfl rfl ?_
  refine r_iload_n (pc := 700) dL_law_700 (i := 3) rfl rfl ?_
  refine r_iconst (pc := 701) (v := 3) dL_law_701 (by decide) ?_
  refine r_iadd (pc := 702) (v := (nI 3)) dL_law_702 (by decide) ?_
  refine w_sld (pc := 703) (v := (xs 3)) dL_law_703 (show vp_in (nI 3) 7 from vp_in_nI (by decide) (by decide)) (congrArg xs (nI_clamp (by decide))) ?_
  refine r_callV (pc := 704) (as := [.int ((xs 1)), .int ((xs 2)), .int ((xs 3))]) (st := []) kL_62 rfl dL_law_704 gc0 (c_X11_parts_n (d := d - 1) (x := x) (th := th) (dr := dr) (sk := sk) (sh := sh) (se := se) (pa := pa) (fl := fl) (sa := sa) (cnt := 0) (rf := 0) (p1 := (xs 1)) (p2 := (xs 2)) (p3 := (xs 3)) (by omega) gc0 (no0 (xs 1)) (no0 (xs 3))) rfl (by omega) (Nat.le_of_ble_eq_true rfl) (by omega) (by omega) rfl (fun r9 hp_1 nn_2 hq_3 => ?_)
  obtain ⟨rfl, hq_3n, h_4, ho_5⟩ := hq_3
  subst nn_2
  change Rn _ _ _ 707 _ [.int ((-1))] _ _ _ _ _
  refine r_aload_n (pc := 707) dL_law_707 (i := 2) rfl rfl ?_
  refine r_aload_n (pc := 708) dL_law_708 (i := 0) rfl rfl ?_
  refine r_iload_n (pc := 709) dL_law_709 (i := 3) rfl rfl ?_
  refine r_iconst (pc := 710) (v := 1) dL_law_710 (by decide) ?_
  refine r_iadd (pc := 711) (v := (nI 1)) dL_law_711 (by decide) ?_
  refine w_sld (pc := 712) (v := (xs 1)) dL_law_712 (show vp_in (nI 1) 7 from vp_in_nI (by decide) (by decide)) (congrArg xs (nI_clamp (by decide))) ?_
  refine r_aload_n (pc := 713) dL_law_713 (i := 0) rfl rfl ?_
  refine r_iload_n (pc := 714) dL_law_714 (i := 3) rfl rfl ?_
  refine r_iconst (pc := 715) (v := 2) dL_law_715 (by decide) ?_
  refine r_iadd (pc := 716) (v := (nI 2)) dL_law_716 (by decide) ?_
  refine w_sld (pc := 717) (v := (xs 2)) dL_law_717 (show vp_in (nI 2) 7 from vp_in_nI (by decide) (by decide)) (congrArg xs (nI_clamp (by decide))) ?_
  refine r_aload_n (pc := 718) dL_law_718 (i := 0) rfl rfl ?_
  refine r_iload_n (pc := 719) dL_law_719 (i := 3) rfl rfl ?_
  refine r_iconst (pc := 720) (v := 3) dL_law_720 (by decide) ?_
  refine r_iadd (pc := 721) (v := (nI 3)) dL_law_721 (by decide) ?_
  refine w_sld (pc := 722) (v := (xs 3)) dL_law_722 (show vp_in (nI 3) 7 from vp_in_nI (by decide) (by decide)) (congrArg xs (nI_clamp (by decide))) ?_
  have h_9 : hp_1 y = some (.inr (11, [.int 0, .int 0, .ref mm_sorts, .ref mm_sizes, .ref mm_directs, .ref mm_many, .ref mm_from, .ref mm_to, .ref mm_weight, .ref mm_cost, .ref mm_numbers, .ref mm_state, .ref mm_worth, .ref mm_long1, .ref mm_howMany, .ref mm_rows, .ref mm_inPart, .ref mm_partCount, .ref mm_nf, .ref mm_nt, .ref mm_nw, .ref mm_nc, .int 0, .ref mm_column, .ref mm_next, .ref mm_inside, .ref mm_beside, .ref mm_solid, .ref mm_below, .ref mm_best, .ref mm_ways1, .ref mm_round, .ref mm_round2, .ref mm_label, .ref mm_bridge, .ref mm_outs, .ref mm_ins, .ref mm_least, .ref mm_spans, .ref mm_joinedWith, .ref mm_gone, .ref mm_dear, .ref mm_by, .ref mm_ahead, .ref mm_image])) := (ho_5 y _ gc7 (ne_c gc7 gc0 (by intro h9; cases h9)))
  refine r_callV (pc := 723) (as := [.int ((xs 1)), .int ((xs 2)), .int ((xs 3))]) (st := [.int ((-1))]) kL_65 rfl dL_law_723 h_9 (c_X12_parts_n (d := d - 1) (y := y) (mm_sorts := mm_sorts) (mm_sizes := mm_sizes) (mm_directs := mm_directs) (mm_many := mm_many) (mm_from := mm_from) (mm_to := mm_to) (mm_weight := mm_weight) (mm_cost := mm_cost) (mm_numbers := mm_numbers) (mm_state := mm_state) (mm_worth := mm_worth) (mm_long1 := mm_long1) (mm_howMany := mm_howMany) (mm_rows := mm_rows) (mm_inPart := mm_inPart) (mm_partCount := mm_partCount) (mm_nf := mm_nf) (mm_nt := mm_nt) (mm_nw := mm_nw) (mm_nc := mm_nc) (mm_column := mm_column) (mm_next := mm_next) (mm_inside := mm_inside) (mm_beside := mm_beside) (mm_solid := mm_solid) (mm_below := mm_below) (mm_best := mm_best) (mm_ways1 := mm_ways1) (mm_round := mm_round) (mm_round2 := mm_round2) (mm_label := mm_label) (mm_bridge := mm_bridge) (mm_outs := mm_outs) (mm_ins := mm_ins) (mm_least := mm_least) (mm_spans := mm_spans) (mm_joinedWith := mm_joinedWith) (mm_gone := mm_gone) (mm_dear := mm_dear) (mm_by := mm_by) (mm_ahead := mm_ahead) (mm_image := mm_image) (rf := 0) (cnt := 0) (nm := 0) (p1 := (xs 1)) (p2 := (xs 2)) (p3 := (xs 3)) (by omega) h_9 (no0 (xs 1))) rfl (by omega) (Nat.le_of_ble_eq_true rfl) (by omega) (by omega) rfl (fun r9 hp_6 nn_7 hq_8 => ?_)
  obtain ⟨rfl, hq_8n, h_10, ho_11⟩ := hq_8
  subst nn_7
  change Rn _ _ _ 726 _ [.int ((-1)), .int ((-1))] _ _ _ _ _
  refine r_icmp_eq (pc := 726) (tgt := 1077) dL_law_726 (by decide) (fun _ => ?_) (fun c9 => absurd (rfl) c9)
  refine Rn.pick (lv' := [(0, .ref b), (1, .ref x), (2, .ref y), (3, .int ((nI 0)))]) [0, 1, 2, 3] rfl ?_
  exact law_end
set_option maxHeartbeats 4000000 in
set_option maxRecDepth 100000 in
theorem law_11 {D : va_G} {cI cJ cZ cT : ClassId} {lo b : Nat} {xs : Nat → Int32} {hp : MH} {n d kr wr : Nat} {x th dr sk sh se pa fl sa af au aw ac al : Nat} {y mm_sorts mm_sizes mm_directs mm_many mm_from mm_to mm_weight mm_cost mm_numbers mm_state mm_worth mm_long1 mm_howMany mm_rows mm_inPart mm_partCount mm_nf mm_nt mm_nw mm_nc mm_column mm_next mm_inside mm_beside mm_solid mm_below mm_best mm_ways1 mm_round mm_round2 mm_label mm_bridge mm_outs mm_ins mm_least mm_spans mm_joinedWith mm_gone mm_dear mm_by mm_ahead mm_image : Nat} (hd0 : 10 ≤ d) (hkr : 20 ≤ kr) (hwr : 300 ≤ wr) (gc0 : hp x = some (.inr (10, [.ref th, .int 0, .int 0, .ref dr, .ref sk, .ref sh, .ref se, .ref pa, .ref fl, .ref sa]))) (gc1 : hp th = some (.inl (cT, 120, .inr (.inr (.inr (.inr (fun _ => none))))))) (gc2 : hp dr = some (.inr (1, [.int 1, .int 0, .int 0, .ref af, .ref au, .ref aw, .ref ac, .ref al]))) (gc3 : hp af = some (.inl (cI, 60, .inl (fun _ => 0)))) (gc4 : hp au = some (.inl (cI, 60, .inl (fun _ => 0)))) (gc5 : hp aw = some (.inl (cI, 60, .inl (fun _ => 0)))) (gc6 : hp ac = some (.inl (cI, 60, .inl (fun _ => 0)))) (gc7 : hp y = some (.inr (11, [.int 0, .int 0, .ref mm_sorts, .ref mm_sizes, .ref mm_directs, .ref mm_many, .ref mm_from, .ref mm_to, .ref mm_weight, .ref mm_cost, .ref mm_numbers, .ref mm_state, .ref mm_worth, .ref mm_long1, .ref mm_howMany, .ref mm_rows, .ref mm_inPart, .ref mm_partCount, .ref mm_nf, .ref mm_nt, .ref mm_nw, .ref mm_nc, .int 0, .ref mm_column, .ref mm_next, .ref mm_inside, .ref mm_beside, .ref mm_solid, .ref mm_below, .ref mm_best, .ref mm_ways1, .ref mm_round, .ref mm_round2, .ref mm_label, .ref mm_bridge, .ref mm_outs, .ref mm_ins, .ref mm_least, .ref mm_spans, .ref mm_joinedWith, .ref mm_gone, .ref mm_dear, .ref mm_by, .ref mm_ahead, .ref mm_image]))) (gc8 : hp mm_sorts = some (.inl (cI, 121, .inl (fun _ => 0)))) (gc9 : hp mm_sizes = some (.inl (cI, 121, .inl (upd (fun _ => 0) 120 1)))) (gc10 : hp mm_directs = some (.inl (cZ, 121, .inl (upd (fun _ => 0) 120 0)))) (gc11 : hp mm_many = some (.inl (cI, 121, .inl (upd (fun _ => 0) 120 0)))) (gc12 : hp mm_from = some (.inl (cI, 7260, .inl (fun _ => 0)))) (gc13 : hp mm_to = some (.inl (cI, 7260, .inl (fun _ => 0)))) (gc14 : hp mm_weight = some (.inl (cI, 7260, .inl (fun _ => 0)))) (gc15 : hp mm_cost = some (.inl (cI, 7260, .inl (fun _ => 0)))) (gc16 : hp mm_numbers = some (.inl (cJ, 1936, .inr (.inl (fun _ => 0))))) (gc17 : hp mm_column = some (.inl (cJ, 16, .inr (.inl (fun _ => 0))))) (ne_af_au : af ≠ au) (ne_af_aw : af ≠ aw) (ne_af_ac : af ≠ ac) (ne_af_mm_sorts : af ≠ mm_sorts) (ne_af_mm_sizes : af ≠ mm_sizes) (ne_af_mm_many : af ≠ mm_many) (ne_af_mm_from : af ≠ mm_from) (ne_af_mm_to : af ≠ mm_to) (ne_af_mm_weight : af ≠ mm_weight) (ne_af_mm_cost : af ≠ mm_cost) (ne_au_aw : au ≠ aw) (ne_au_ac : au ≠ ac) (ne_au_mm_sorts : au ≠ mm_sorts) (ne_au_mm_sizes : au ≠ mm_sizes) (ne_au_mm_many : au ≠ mm_many) (ne_au_mm_from : au ≠ mm_from) (ne_au_mm_to : au ≠ mm_to) (ne_au_mm_weight : au ≠ mm_weight) (ne_au_mm_cost : au ≠ mm_cost) (ne_aw_ac : aw ≠ ac) (ne_aw_mm_sorts : aw ≠ mm_sorts) (ne_aw_mm_sizes : aw ≠ mm_sizes) (ne_aw_mm_many : aw ≠ mm_many) (ne_aw_mm_from : aw ≠ mm_from) (ne_aw_mm_to : aw ≠ mm_to) (ne_aw_mm_weight : aw ≠ mm_weight) (ne_aw_mm_cost : aw ≠ mm_cost) (ne_ac_mm_sorts : ac ≠ mm_sorts) (ne_ac_mm_sizes : ac ≠ mm_sizes) (ne_ac_mm_many : ac ≠ mm_many) (ne_ac_mm_from : ac ≠ mm_from) (ne_ac_mm_to : ac ≠ mm_to) (ne_ac_mm_weight : ac ≠ mm_weight) (ne_ac_mm_cost : ac ≠ mm_cost) (ne_mm_sorts_mm_sizes : mm_sorts ≠ mm_sizes) (ne_mm_sorts_mm_many : mm_sorts ≠ mm_many) (ne_mm_sorts_mm_from : mm_sorts ≠ mm_from) (ne_mm_sorts_mm_to : mm_sorts ≠ mm_to) (ne_mm_sorts_mm_weight : mm_sorts ≠ mm_weight) (ne_mm_sorts_mm_cost : mm_sorts ≠ mm_cost) (ne_mm_sizes_mm_many : mm_sizes ≠ mm_many) (ne_mm_sizes_mm_from : mm_sizes ≠ mm_from) (ne_mm_sizes_mm_to : mm_sizes ≠ mm_to) (ne_mm_sizes_mm_weight : mm_sizes ≠ mm_weight) (ne_mm_sizes_mm_cost : mm_sizes ≠ mm_cost) (ne_mm_many_mm_from : mm_many ≠ mm_from) (ne_mm_many_mm_to : mm_many ≠ mm_to) (ne_mm_many_mm_weight : mm_many ≠ mm_weight) (ne_mm_many_mm_cost : mm_many ≠ mm_cost) (ne_mm_from_mm_to : mm_from ≠ mm_to) (ne_mm_from_mm_weight : mm_from ≠ mm_weight) (ne_mm_from_mm_cost : mm_from ≠ mm_cost) (ne_mm_to_mm_weight : mm_to ≠ mm_weight) (ne_mm_to_mm_cost : mm_to ≠ mm_cost) (ne_mm_weight_mm_cost : mm_weight ≠ mm_cost) (ne_nu_col : mm_numbers ≠ mm_column) (ne_di_si : mm_directs ≠ mm_sizes) (ne_di_ma : mm_directs ≠ mm_many) (ne_di_so : mm_directs ≠ mm_sorts) (ne_di_af : mm_directs ≠ af) (ne_di_au : mm_directs ≠ au) (ne_di_aw : mm_directs ≠ aw) (ne_di_ac : mm_directs ≠ ac) (ne_di_mm_from : mm_directs ≠ mm_from) (ne_di_mm_to : mm_directs ≠ mm_to) (ne_di_mm_weight : mm_directs ≠ mm_weight) (ne_di_mm_cost : mm_directs ≠ mm_cost) : Rn (gG D cI cJ cZ cT lo b 7 xs) mL_law d 731 [(0, .ref b), (1, .ref x), (2, .ref y), (3, .int ((nI 0)))] [] hp n kr wr (fun r _ _ => r = some (.int 1)) := by
  refine r_aload_n (pc := 731) dL_law_731 (i := 1) rfl rfl ?_
  refine r_callV (pc := 732) (as := []) (st := []) kL_66 rfl dL_law_732 gc0 (c_X11_drop_n (d := d - 1) (x := x) (th := th) (dr := dr) (sk := sk) (sh := sh) (se := se) (pa := pa) (fl := fl) (sa := sa) (cnt := 0) (rf := 0) (by omega) gc0 (by decide)) rfl (by omega) (Nat.le_of_ble_eq_true rfl) (by omega) (by omega) rfl (fun r9 hp_1 nn_2 hq_3 => ?_)
  obtain ⟨rfl, hq_3n, h_4, ho_5⟩ := hq_3
  subst nn_2
  change Rn _ _ _ 735 _ [.int ((-1))] _ _ _ _ _
  refine r_aload_n (pc := 735) dL_law_735 (i := 2) rfl rfl ?_
  have h_9 : hp_1 y = some (.inr (11, [.int 0, .int 0, .ref mm_sorts, .ref mm_sizes, .ref mm_directs, .ref mm_many, .ref mm_from, .ref mm_to, .ref mm_weight, .ref mm_cost, .ref mm_numbers, .ref mm_state, .ref mm_worth, .ref mm_long1, .ref mm_howMany, .ref mm_rows, .ref mm_inPart, .ref mm_partCount, .ref mm_nf, .ref mm_nt, .ref mm_nw, .ref mm_nc, .int 0, .ref mm_column, .ref mm_next, .ref mm_inside, .ref mm_beside, .ref mm_solid, .ref mm_below, .ref mm_best, .ref mm_ways1, .ref mm_round, .ref mm_round2, .ref mm_label, .ref mm_bridge, .ref mm_outs, .ref mm_ins, .ref mm_least, .ref mm_spans, .ref mm_joinedWith, .ref mm_gone, .ref mm_dear, .ref mm_by, .ref mm_ahead, .ref mm_image])) := (ho_5 y _ gc7 (ne_c gc7 gc0 (by intro h9; cases h9)))
  refine r_callV (pc := 736) (as := []) (st := [.int ((-1))]) kL_69 rfl dL_law_736 h_9 (c_X12_drop_n (d := d - 1) (y := y) (mm_sorts := mm_sorts) (mm_sizes := mm_sizes) (mm_directs := mm_directs) (mm_many := mm_many) (mm_from := mm_from) (mm_to := mm_to) (mm_weight := mm_weight) (mm_cost := mm_cost) (mm_numbers := mm_numbers) (mm_state := mm_state) (mm_worth := mm_worth) (mm_long1 := mm_long1) (mm_howMany := mm_howMany) (mm_rows := mm_rows) (mm_inPart := mm_inPart) (mm_partCount := mm_partCount) (mm_nf := mm_nf) (mm_nt := mm_nt) (mm_nw := mm_nw) (mm_nc := mm_nc) (mm_column := mm_column) (mm_next := mm_next) (mm_inside := mm_inside) (mm_beside := mm_beside) (mm_solid := mm_solid) (mm_below := mm_below) (mm_best := mm_best) (mm_ways1 := mm_ways1) (mm_round := mm_round) (mm_round2 := mm_round2) (mm_label := mm_label) (mm_bridge := mm_bridge) (mm_outs := mm_outs) (mm_ins := mm_ins) (mm_least := mm_least) (mm_spans := mm_spans) (mm_joinedWith := mm_joinedWith) (mm_gone := mm_gone) (mm_dear := mm_dear) (mm_by := mm_by) (mm_ahead := mm_ahead) (mm_image := mm_image) (rf := 0) (cnt := 0) (nm := 0) (by omega) h_9 ) rfl (by omega) (Nat.le_of_ble_eq_true rfl) (by omega) (by omega) rfl (fun r9 hp_6 nn_7 hq_8 => ?_)
  obtain ⟨rfl, hq_8n, h_10, ho_11⟩ := hq_8
  subst nn_7
  change Rn _ _ _ 739 _ [.int ((-1)), .int ((-1))] _ _ _ _ _
  refine r_icmp_eq (pc := 739) (tgt := 1077) dL_law_739 (by decide) (fun _ => ?_) (fun c9 => absurd (rfl) c9)
  refine Rn.pick (lv' := [(0, .ref b), (1, .ref x), (2, .ref y), (3, .int ((nI 0)))]) [0, 1, 2, 3] rfl ?_
  exact law_end
set_option maxHeartbeats 4000000 in
set_option maxRecDepth 100000 in
theorem law_12 {D : va_G} {cI cJ cZ cT : ClassId} {lo b : Nat} {xs : Nat → Int32} {hp : MH} {n d kr wr : Nat} {x th dr sk sh se pa fl sa af au aw ac al : Nat} {y mm_sorts mm_sizes mm_directs mm_many mm_from mm_to mm_weight mm_cost mm_numbers mm_state mm_worth mm_long1 mm_howMany mm_rows mm_inPart mm_partCount mm_nf mm_nt mm_nw mm_nc mm_column mm_next mm_inside mm_beside mm_solid mm_below mm_best mm_ways1 mm_round mm_round2 mm_label mm_bridge mm_outs mm_ins mm_least mm_spans mm_joinedWith mm_gone mm_dear mm_by mm_ahead mm_image : Nat} (hd0 : 10 ≤ d) (hkr : 20 ≤ kr) (hwr : 300 ≤ wr) (gc0 : hp x = some (.inr (10, [.ref th, .int 0, .int 0, .ref dr, .ref sk, .ref sh, .ref se, .ref pa, .ref fl, .ref sa]))) (gc1 : hp th = some (.inl (cT, 120, .inr (.inr (.inr (.inr (fun _ => none))))))) (gc2 : hp dr = some (.inr (1, [.int 1, .int 0, .int 0, .ref af, .ref au, .ref aw, .ref ac, .ref al]))) (gc3 : hp af = some (.inl (cI, 60, .inl (fun _ => 0)))) (gc4 : hp au = some (.inl (cI, 60, .inl (fun _ => 0)))) (gc5 : hp aw = some (.inl (cI, 60, .inl (fun _ => 0)))) (gc6 : hp ac = some (.inl (cI, 60, .inl (fun _ => 0)))) (gc7 : hp y = some (.inr (11, [.int 0, .int 0, .ref mm_sorts, .ref mm_sizes, .ref mm_directs, .ref mm_many, .ref mm_from, .ref mm_to, .ref mm_weight, .ref mm_cost, .ref mm_numbers, .ref mm_state, .ref mm_worth, .ref mm_long1, .ref mm_howMany, .ref mm_rows, .ref mm_inPart, .ref mm_partCount, .ref mm_nf, .ref mm_nt, .ref mm_nw, .ref mm_nc, .int 0, .ref mm_column, .ref mm_next, .ref mm_inside, .ref mm_beside, .ref mm_solid, .ref mm_below, .ref mm_best, .ref mm_ways1, .ref mm_round, .ref mm_round2, .ref mm_label, .ref mm_bridge, .ref mm_outs, .ref mm_ins, .ref mm_least, .ref mm_spans, .ref mm_joinedWith, .ref mm_gone, .ref mm_dear, .ref mm_by, .ref mm_ahead, .ref mm_image]))) (gc8 : hp mm_sorts = some (.inl (cI, 121, .inl (fun _ => 0)))) (gc9 : hp mm_sizes = some (.inl (cI, 121, .inl (upd (fun _ => 0) 120 1)))) (gc10 : hp mm_directs = some (.inl (cZ, 121, .inl (upd (fun _ => 0) 120 0)))) (gc11 : hp mm_many = some (.inl (cI, 121, .inl (upd (fun _ => 0) 120 0)))) (gc12 : hp mm_from = some (.inl (cI, 7260, .inl (fun _ => 0)))) (gc13 : hp mm_to = some (.inl (cI, 7260, .inl (fun _ => 0)))) (gc14 : hp mm_weight = some (.inl (cI, 7260, .inl (fun _ => 0)))) (gc15 : hp mm_cost = some (.inl (cI, 7260, .inl (fun _ => 0)))) (gc16 : hp mm_numbers = some (.inl (cJ, 1936, .inr (.inl (fun _ => 0))))) (gc17 : hp mm_column = some (.inl (cJ, 16, .inr (.inl (fun _ => 0))))) (ne_af_au : af ≠ au) (ne_af_aw : af ≠ aw) (ne_af_ac : af ≠ ac) (ne_af_mm_sorts : af ≠ mm_sorts) (ne_af_mm_sizes : af ≠ mm_sizes) (ne_af_mm_many : af ≠ mm_many) (ne_af_mm_from : af ≠ mm_from) (ne_af_mm_to : af ≠ mm_to) (ne_af_mm_weight : af ≠ mm_weight) (ne_af_mm_cost : af ≠ mm_cost) (ne_au_aw : au ≠ aw) (ne_au_ac : au ≠ ac) (ne_au_mm_sorts : au ≠ mm_sorts) (ne_au_mm_sizes : au ≠ mm_sizes) (ne_au_mm_many : au ≠ mm_many) (ne_au_mm_from : au ≠ mm_from) (ne_au_mm_to : au ≠ mm_to) (ne_au_mm_weight : au ≠ mm_weight) (ne_au_mm_cost : au ≠ mm_cost) (ne_aw_ac : aw ≠ ac) (ne_aw_mm_sorts : aw ≠ mm_sorts) (ne_aw_mm_sizes : aw ≠ mm_sizes) (ne_aw_mm_many : aw ≠ mm_many) (ne_aw_mm_from : aw ≠ mm_from) (ne_aw_mm_to : aw ≠ mm_to) (ne_aw_mm_weight : aw ≠ mm_weight) (ne_aw_mm_cost : aw ≠ mm_cost) (ne_ac_mm_sorts : ac ≠ mm_sorts) (ne_ac_mm_sizes : ac ≠ mm_sizes) (ne_ac_mm_many : ac ≠ mm_many) (ne_ac_mm_from : ac ≠ mm_from) (ne_ac_mm_to : ac ≠ mm_to) (ne_ac_mm_weight : ac ≠ mm_weight) (ne_ac_mm_cost : ac ≠ mm_cost) (ne_mm_sorts_mm_sizes : mm_sorts ≠ mm_sizes) (ne_mm_sorts_mm_many : mm_sorts ≠ mm_many) (ne_mm_sorts_mm_from : mm_sorts ≠ mm_from) (ne_mm_sorts_mm_to : mm_sorts ≠ mm_to) (ne_mm_sorts_mm_weight : mm_sorts ≠ mm_weight) (ne_mm_sorts_mm_cost : mm_sorts ≠ mm_cost) (ne_mm_sizes_mm_many : mm_sizes ≠ mm_many) (ne_mm_sizes_mm_from : mm_sizes ≠ mm_from) (ne_mm_sizes_mm_to : mm_sizes ≠ mm_to) (ne_mm_sizes_mm_weight : mm_sizes ≠ mm_weight) (ne_mm_sizes_mm_cost : mm_sizes ≠ mm_cost) (ne_mm_many_mm_from : mm_many ≠ mm_from) (ne_mm_many_mm_to : mm_many ≠ mm_to) (ne_mm_many_mm_weight : mm_many ≠ mm_weight) (ne_mm_many_mm_cost : mm_many ≠ mm_cost) (ne_mm_from_mm_to : mm_from ≠ mm_to) (ne_mm_from_mm_weight : mm_from ≠ mm_weight) (ne_mm_from_mm_cost : mm_from ≠ mm_cost) (ne_mm_to_mm_weight : mm_to ≠ mm_weight) (ne_mm_to_mm_cost : mm_to ≠ mm_cost) (ne_mm_weight_mm_cost : mm_weight ≠ mm_cost) (ne_nu_col : mm_numbers ≠ mm_column) (ne_di_si : mm_directs ≠ mm_sizes) (ne_di_ma : mm_directs ≠ mm_many) (ne_di_so : mm_directs ≠ mm_sorts) (ne_di_af : mm_directs ≠ af) (ne_di_au : mm_directs ≠ au) (ne_di_aw : mm_directs ≠ aw) (ne_di_ac : mm_directs ≠ ac) (ne_di_mm_from : mm_directs ≠ mm_from) (ne_di_mm_to : mm_directs ≠ mm_to) (ne_di_mm_weight : mm_directs ≠ mm_weight) (ne_di_mm_cost : mm_directs ≠ mm_cost) : Rn (gG D cI cJ cZ cT lo b 7 xs) mL_law d 744 [(0, .ref b), (1, .ref x), (2, .ref y), (3, .int ((nI 0)))] [] hp n kr wr (fun r _ _ => r = some (.int 1)) := by
  refine r_aload_n (pc := 744) dL_law_744 (i := 1) rfl rfl ?_
  refine r_callV (pc := 745) (as := []) (st := []) kL_70 rfl dL_law_745 gc0 (c_X11_refused (d := d - 1) (x := x) (th := th) (dr := dr) (sk := sk) (sh := sh) (se := se) (pa := pa) (fl := fl) (sa := sa) (cnt := 0) (rf := 0) (by omega) gc0 ) rfl (by omega) (Nat.le_of_ble_eq_true rfl) (by omega) (by omega) rfl (fun r9 hp_1 nn_2 hq_3 => ?_)
  obtain ⟨rfl, hq_3n, ho_4⟩ := hq_3
  subst nn_2
  change Rn _ _ _ 748 _ [.int 0] _ _ _ _ _
  refine r_aload_n (pc := 748) dL_law_748 (i := 2) rfl rfl ?_
  have h_8 : hp_1 y = some (.inr (11, [.int 0, .int 0, .ref mm_sorts, .ref mm_sizes, .ref mm_directs, .ref mm_many, .ref mm_from, .ref mm_to, .ref mm_weight, .ref mm_cost, .ref mm_numbers, .ref mm_state, .ref mm_worth, .ref mm_long1, .ref mm_howMany, .ref mm_rows, .ref mm_inPart, .ref mm_partCount, .ref mm_nf, .ref mm_nt, .ref mm_nw, .ref mm_nc, .int 0, .ref mm_column, .ref mm_next, .ref mm_inside, .ref mm_beside, .ref mm_solid, .ref mm_below, .ref mm_best, .ref mm_ways1, .ref mm_round, .ref mm_round2, .ref mm_label, .ref mm_bridge, .ref mm_outs, .ref mm_ins, .ref mm_least, .ref mm_spans, .ref mm_joinedWith, .ref mm_gone, .ref mm_dear, .ref mm_by, .ref mm_ahead, .ref mm_image])) := (ho_4 y _ gc7)
  refine r_callV (pc := 749) (as := []) (st := [.int 0]) kL_73 rfl dL_law_749 h_8 (c_X12_refused (d := d - 1) (y := y) (mm_sorts := mm_sorts) (mm_sizes := mm_sizes) (mm_directs := mm_directs) (mm_many := mm_many) (mm_from := mm_from) (mm_to := mm_to) (mm_weight := mm_weight) (mm_cost := mm_cost) (mm_numbers := mm_numbers) (mm_state := mm_state) (mm_worth := mm_worth) (mm_long1 := mm_long1) (mm_howMany := mm_howMany) (mm_rows := mm_rows) (mm_inPart := mm_inPart) (mm_partCount := mm_partCount) (mm_nf := mm_nf) (mm_nt := mm_nt) (mm_nw := mm_nw) (mm_nc := mm_nc) (mm_column := mm_column) (mm_next := mm_next) (mm_inside := mm_inside) (mm_beside := mm_beside) (mm_solid := mm_solid) (mm_below := mm_below) (mm_best := mm_best) (mm_ways1 := mm_ways1) (mm_round := mm_round) (mm_round2 := mm_round2) (mm_label := mm_label) (mm_bridge := mm_bridge) (mm_outs := mm_outs) (mm_ins := mm_ins) (mm_least := mm_least) (mm_spans := mm_spans) (mm_joinedWith := mm_joinedWith) (mm_gone := mm_gone) (mm_dear := mm_dear) (mm_by := mm_by) (mm_ahead := mm_ahead) (mm_image := mm_image) (rf := 0) (cnt := 0) (nm := 0) (by omega) h_8 ) rfl (by omega) (Nat.le_of_ble_eq_true rfl) (by omega) (by omega) rfl (fun r9 hp_5 nn_6 hq_7 => ?_)
  obtain ⟨rfl, hq_7n, ho_9⟩ := hq_7
  subst nn_6
  change Rn _ _ _ 752 _ [.int 0, .int 0] _ _ _ _ _
  refine r_icmp_eq (pc := 752) (tgt := 1077) dL_law_752 (by decide) (fun _ => ?_) (fun c9 => absurd (rfl) c9)
  refine Rn.pick (lv' := [(0, .ref b), (1, .ref x), (2, .ref y), (3, .int ((nI 0)))]) [0, 1, 2, 3] rfl ?_
  exact law_end
set_option maxHeartbeats 4000000 in
set_option maxRecDepth 100000 in
theorem law_13 {D : va_G} {cI cJ cZ cT : ClassId} {lo b : Nat} {xs : Nat → Int32} {hp : MH} {n d kr wr : Nat} {x th dr sk sh se pa fl sa af au aw ac al : Nat} {y mm_sorts mm_sizes mm_directs mm_many mm_from mm_to mm_weight mm_cost mm_numbers mm_state mm_worth mm_long1 mm_howMany mm_rows mm_inPart mm_partCount mm_nf mm_nt mm_nw mm_nc mm_column mm_next mm_inside mm_beside mm_solid mm_below mm_best mm_ways1 mm_round mm_round2 mm_label mm_bridge mm_outs mm_ins mm_least mm_spans mm_joinedWith mm_gone mm_dear mm_by mm_ahead mm_image : Nat} (hd0 : 10 ≤ d) (hkr : 20 ≤ kr) (hwr : 300 ≤ wr) (gc0 : hp x = some (.inr (10, [.ref th, .int 0, .int 0, .ref dr, .ref sk, .ref sh, .ref se, .ref pa, .ref fl, .ref sa]))) (gc1 : hp th = some (.inl (cT, 120, .inr (.inr (.inr (.inr (fun _ => none))))))) (gc2 : hp dr = some (.inr (1, [.int 1, .int 0, .int 0, .ref af, .ref au, .ref aw, .ref ac, .ref al]))) (gc3 : hp af = some (.inl (cI, 60, .inl (fun _ => 0)))) (gc4 : hp au = some (.inl (cI, 60, .inl (fun _ => 0)))) (gc5 : hp aw = some (.inl (cI, 60, .inl (fun _ => 0)))) (gc6 : hp ac = some (.inl (cI, 60, .inl (fun _ => 0)))) (gc7 : hp y = some (.inr (11, [.int 0, .int 0, .ref mm_sorts, .ref mm_sizes, .ref mm_directs, .ref mm_many, .ref mm_from, .ref mm_to, .ref mm_weight, .ref mm_cost, .ref mm_numbers, .ref mm_state, .ref mm_worth, .ref mm_long1, .ref mm_howMany, .ref mm_rows, .ref mm_inPart, .ref mm_partCount, .ref mm_nf, .ref mm_nt, .ref mm_nw, .ref mm_nc, .int 0, .ref mm_column, .ref mm_next, .ref mm_inside, .ref mm_beside, .ref mm_solid, .ref mm_below, .ref mm_best, .ref mm_ways1, .ref mm_round, .ref mm_round2, .ref mm_label, .ref mm_bridge, .ref mm_outs, .ref mm_ins, .ref mm_least, .ref mm_spans, .ref mm_joinedWith, .ref mm_gone, .ref mm_dear, .ref mm_by, .ref mm_ahead, .ref mm_image]))) (gc8 : hp mm_sorts = some (.inl (cI, 121, .inl (fun _ => 0)))) (gc9 : hp mm_sizes = some (.inl (cI, 121, .inl (upd (fun _ => 0) 120 1)))) (gc10 : hp mm_directs = some (.inl (cZ, 121, .inl (upd (fun _ => 0) 120 0)))) (gc11 : hp mm_many = some (.inl (cI, 121, .inl (upd (fun _ => 0) 120 0)))) (gc12 : hp mm_from = some (.inl (cI, 7260, .inl (fun _ => 0)))) (gc13 : hp mm_to = some (.inl (cI, 7260, .inl (fun _ => 0)))) (gc14 : hp mm_weight = some (.inl (cI, 7260, .inl (fun _ => 0)))) (gc15 : hp mm_cost = some (.inl (cI, 7260, .inl (fun _ => 0)))) (gc16 : hp mm_numbers = some (.inl (cJ, 1936, .inr (.inl (fun _ => 0))))) (gc17 : hp mm_column = some (.inl (cJ, 16, .inr (.inl (fun _ => 0))))) (ne_af_au : af ≠ au) (ne_af_aw : af ≠ aw) (ne_af_ac : af ≠ ac) (ne_af_mm_sorts : af ≠ mm_sorts) (ne_af_mm_sizes : af ≠ mm_sizes) (ne_af_mm_many : af ≠ mm_many) (ne_af_mm_from : af ≠ mm_from) (ne_af_mm_to : af ≠ mm_to) (ne_af_mm_weight : af ≠ mm_weight) (ne_af_mm_cost : af ≠ mm_cost) (ne_au_aw : au ≠ aw) (ne_au_ac : au ≠ ac) (ne_au_mm_sorts : au ≠ mm_sorts) (ne_au_mm_sizes : au ≠ mm_sizes) (ne_au_mm_many : au ≠ mm_many) (ne_au_mm_from : au ≠ mm_from) (ne_au_mm_to : au ≠ mm_to) (ne_au_mm_weight : au ≠ mm_weight) (ne_au_mm_cost : au ≠ mm_cost) (ne_aw_ac : aw ≠ ac) (ne_aw_mm_sorts : aw ≠ mm_sorts) (ne_aw_mm_sizes : aw ≠ mm_sizes) (ne_aw_mm_many : aw ≠ mm_many) (ne_aw_mm_from : aw ≠ mm_from) (ne_aw_mm_to : aw ≠ mm_to) (ne_aw_mm_weight : aw ≠ mm_weight) (ne_aw_mm_cost : aw ≠ mm_cost) (ne_ac_mm_sorts : ac ≠ mm_sorts) (ne_ac_mm_sizes : ac ≠ mm_sizes) (ne_ac_mm_many : ac ≠ mm_many) (ne_ac_mm_from : ac ≠ mm_from) (ne_ac_mm_to : ac ≠ mm_to) (ne_ac_mm_weight : ac ≠ mm_weight) (ne_ac_mm_cost : ac ≠ mm_cost) (ne_mm_sorts_mm_sizes : mm_sorts ≠ mm_sizes) (ne_mm_sorts_mm_many : mm_sorts ≠ mm_many) (ne_mm_sorts_mm_from : mm_sorts ≠ mm_from) (ne_mm_sorts_mm_to : mm_sorts ≠ mm_to) (ne_mm_sorts_mm_weight : mm_sorts ≠ mm_weight) (ne_mm_sorts_mm_cost : mm_sorts ≠ mm_cost) (ne_mm_sizes_mm_many : mm_sizes ≠ mm_many) (ne_mm_sizes_mm_from : mm_sizes ≠ mm_from) (ne_mm_sizes_mm_to : mm_sizes ≠ mm_to) (ne_mm_sizes_mm_weight : mm_sizes ≠ mm_weight) (ne_mm_sizes_mm_cost : mm_sizes ≠ mm_cost) (ne_mm_many_mm_from : mm_many ≠ mm_from) (ne_mm_many_mm_to : mm_many ≠ mm_to) (ne_mm_many_mm_weight : mm_many ≠ mm_weight) (ne_mm_many_mm_cost : mm_many ≠ mm_cost) (ne_mm_from_mm_to : mm_from ≠ mm_to) (ne_mm_from_mm_weight : mm_from ≠ mm_weight) (ne_mm_from_mm_cost : mm_from ≠ mm_cost) (ne_mm_to_mm_weight : mm_to ≠ mm_weight) (ne_mm_to_mm_cost : mm_to ≠ mm_cost) (ne_mm_weight_mm_cost : mm_weight ≠ mm_cost) (ne_nu_col : mm_numbers ≠ mm_column) (ne_di_si : mm_directs ≠ mm_sizes) (ne_di_ma : mm_directs ≠ mm_many) (ne_di_so : mm_directs ≠ mm_sorts) (ne_di_af : mm_directs ≠ af) (ne_di_au : mm_directs ≠ au) (ne_di_aw : mm_directs ≠ aw) (ne_di_ac : mm_directs ≠ ac) (ne_di_mm_from : mm_directs ≠ mm_from) (ne_di_mm_to : mm_directs ≠ mm_to) (ne_di_mm_weight : mm_directs ≠ mm_weight) (ne_di_mm_cost : mm_directs ≠ mm_cost) : Rn (gG D cI cJ cZ cT lo b 7 xs) mL_law d 757 [(0, .ref b), (1, .ref x), (2, .ref y), (3, .int ((nI 0)))] [] hp n kr wr (fun r _ _ => r = some (.int 1)) := by
  refine r_aload_n (pc := 757) dL_law_757 (i := 1) rfl rfl ?_
  refine r_callV (pc := 758) (as := []) (st := []) kL_74 rfl dL_law_758 gc0 (c_X11_handles (d := d - 1) (x := x) (th := th) (dr := dr) (sk := sk) (sh := sh) (se := se) (pa := pa) (fl := fl) (sa := sa) (cnt := 0) (rf := 0) (by omega) gc0 ) rfl (by omega) (Nat.le_of_ble_eq_true rfl) (by omega) (by omega) rfl (fun r9 hp_1 nn_2 hq_3 => ?_)
  obtain ⟨rfl, hq_3n, h_4, ho_5⟩ := hq_3
  subst nn_2
  change Rn _ _ _ 761 _ [.int 0] _ _ _ _ _
  refine r_aload_n (pc := 761) dL_law_761 (i := 2) rfl rfl ?_
  have h_9 : hp_1 y = some (.inr (11, [.int 0, .int 0, .ref mm_sorts, .ref mm_sizes, .ref mm_directs, .ref mm_many, .ref mm_from, .ref mm_to, .ref mm_weight, .ref mm_cost, .ref mm_numbers, .ref mm_state, .ref mm_worth, .ref mm_long1, .ref mm_howMany, .ref mm_rows, .ref mm_inPart, .ref mm_partCount, .ref mm_nf, .ref mm_nt, .ref mm_nw, .ref mm_nc, .int 0, .ref mm_column, .ref mm_next, .ref mm_inside, .ref mm_beside, .ref mm_solid, .ref mm_below, .ref mm_best, .ref mm_ways1, .ref mm_round, .ref mm_round2, .ref mm_label, .ref mm_bridge, .ref mm_outs, .ref mm_ins, .ref mm_least, .ref mm_spans, .ref mm_joinedWith, .ref mm_gone, .ref mm_dear, .ref mm_by, .ref mm_ahead, .ref mm_image])) := (ho_5 y _ gc7 (ne_c gc7 gc0 (by intro h9; cases h9)))
  refine r_callV (pc := 762) (as := []) (st := [.int 0]) kL_77 rfl dL_law_762 h_9 (c_X12_handles (d := d - 1) (y := y) (mm_sorts := mm_sorts) (mm_sizes := mm_sizes) (mm_directs := mm_directs) (mm_many := mm_many) (mm_from := mm_from) (mm_to := mm_to) (mm_weight := mm_weight) (mm_cost := mm_cost) (mm_numbers := mm_numbers) (mm_state := mm_state) (mm_worth := mm_worth) (mm_long1 := mm_long1) (mm_howMany := mm_howMany) (mm_rows := mm_rows) (mm_inPart := mm_inPart) (mm_partCount := mm_partCount) (mm_nf := mm_nf) (mm_nt := mm_nt) (mm_nw := mm_nw) (mm_nc := mm_nc) (mm_column := mm_column) (mm_next := mm_next) (mm_inside := mm_inside) (mm_beside := mm_beside) (mm_solid := mm_solid) (mm_below := mm_below) (mm_best := mm_best) (mm_ways1 := mm_ways1) (mm_round := mm_round) (mm_round2 := mm_round2) (mm_label := mm_label) (mm_bridge := mm_bridge) (mm_outs := mm_outs) (mm_ins := mm_ins) (mm_least := mm_least) (mm_spans := mm_spans) (mm_joinedWith := mm_joinedWith) (mm_gone := mm_gone) (mm_dear := mm_dear) (mm_by := mm_by) (mm_ahead := mm_ahead) (mm_image := mm_image) (rf := 0) (cnt := 0) (nm := 0) (by omega) h_9 ) rfl (by omega) (Nat.le_of_ble_eq_true rfl) (by omega) (by omega) rfl (fun r9 hp_6 nn_7 hq_8 => ?_)
  obtain ⟨rfl, hq_8n, h_10, ho_11⟩ := hq_8
  subst nn_7
  change Rn _ _ _ 765 _ [.int 0, .int 0] _ _ _ _ _
  refine r_icmp_eq (pc := 765) (tgt := 1077) dL_law_765 (by decide) (fun _ => ?_) (fun c9 => absurd (rfl) c9)
  refine Rn.pick (lv' := [(0, .ref b), (1, .ref x), (2, .ref y), (3, .int ((nI 0)))]) [0, 1, 2, 3] rfl ?_
  exact law_end
set_option maxHeartbeats 4000000 in
set_option maxRecDepth 100000 in
theorem law_14 {D : va_G} {cI cJ cZ cT : ClassId} {lo b : Nat} {xs : Nat → Int32} {hp : MH} {n d kr wr : Nat} {x th dr sk sh se pa fl sa af au aw ac al : Nat} {y mm_sorts mm_sizes mm_directs mm_many mm_from mm_to mm_weight mm_cost mm_numbers mm_state mm_worth mm_long1 mm_howMany mm_rows mm_inPart mm_partCount mm_nf mm_nt mm_nw mm_nc mm_column mm_next mm_inside mm_beside mm_solid mm_below mm_best mm_ways1 mm_round mm_round2 mm_label mm_bridge mm_outs mm_ins mm_least mm_spans mm_joinedWith mm_gone mm_dear mm_by mm_ahead mm_image : Nat} (hd0 : 10 ≤ d) (hkr : 20 ≤ kr) (hwr : 300 ≤ wr) (gc0 : hp x = some (.inr (10, [.ref th, .int 0, .int 0, .ref dr, .ref sk, .ref sh, .ref se, .ref pa, .ref fl, .ref sa]))) (gc1 : hp th = some (.inl (cT, 120, .inr (.inr (.inr (.inr (fun _ => none))))))) (gc2 : hp dr = some (.inr (1, [.int 1, .int 0, .int 0, .ref af, .ref au, .ref aw, .ref ac, .ref al]))) (gc3 : hp af = some (.inl (cI, 60, .inl (fun _ => 0)))) (gc4 : hp au = some (.inl (cI, 60, .inl (fun _ => 0)))) (gc5 : hp aw = some (.inl (cI, 60, .inl (fun _ => 0)))) (gc6 : hp ac = some (.inl (cI, 60, .inl (fun _ => 0)))) (gc7 : hp y = some (.inr (11, [.int 0, .int 0, .ref mm_sorts, .ref mm_sizes, .ref mm_directs, .ref mm_many, .ref mm_from, .ref mm_to, .ref mm_weight, .ref mm_cost, .ref mm_numbers, .ref mm_state, .ref mm_worth, .ref mm_long1, .ref mm_howMany, .ref mm_rows, .ref mm_inPart, .ref mm_partCount, .ref mm_nf, .ref mm_nt, .ref mm_nw, .ref mm_nc, .int 0, .ref mm_column, .ref mm_next, .ref mm_inside, .ref mm_beside, .ref mm_solid, .ref mm_below, .ref mm_best, .ref mm_ways1, .ref mm_round, .ref mm_round2, .ref mm_label, .ref mm_bridge, .ref mm_outs, .ref mm_ins, .ref mm_least, .ref mm_spans, .ref mm_joinedWith, .ref mm_gone, .ref mm_dear, .ref mm_by, .ref mm_ahead, .ref mm_image]))) (gc8 : hp mm_sorts = some (.inl (cI, 121, .inl (fun _ => 0)))) (gc9 : hp mm_sizes = some (.inl (cI, 121, .inl (upd (fun _ => 0) 120 1)))) (gc10 : hp mm_directs = some (.inl (cZ, 121, .inl (upd (fun _ => 0) 120 0)))) (gc11 : hp mm_many = some (.inl (cI, 121, .inl (upd (fun _ => 0) 120 0)))) (gc12 : hp mm_from = some (.inl (cI, 7260, .inl (fun _ => 0)))) (gc13 : hp mm_to = some (.inl (cI, 7260, .inl (fun _ => 0)))) (gc14 : hp mm_weight = some (.inl (cI, 7260, .inl (fun _ => 0)))) (gc15 : hp mm_cost = some (.inl (cI, 7260, .inl (fun _ => 0)))) (gc16 : hp mm_numbers = some (.inl (cJ, 1936, .inr (.inl (fun _ => 0))))) (gc17 : hp mm_column = some (.inl (cJ, 16, .inr (.inl (fun _ => 0))))) (ne_af_au : af ≠ au) (ne_af_aw : af ≠ aw) (ne_af_ac : af ≠ ac) (ne_af_mm_sorts : af ≠ mm_sorts) (ne_af_mm_sizes : af ≠ mm_sizes) (ne_af_mm_many : af ≠ mm_many) (ne_af_mm_from : af ≠ mm_from) (ne_af_mm_to : af ≠ mm_to) (ne_af_mm_weight : af ≠ mm_weight) (ne_af_mm_cost : af ≠ mm_cost) (ne_au_aw : au ≠ aw) (ne_au_ac : au ≠ ac) (ne_au_mm_sorts : au ≠ mm_sorts) (ne_au_mm_sizes : au ≠ mm_sizes) (ne_au_mm_many : au ≠ mm_many) (ne_au_mm_from : au ≠ mm_from) (ne_au_mm_to : au ≠ mm_to) (ne_au_mm_weight : au ≠ mm_weight) (ne_au_mm_cost : au ≠ mm_cost) (ne_aw_ac : aw ≠ ac) (ne_aw_mm_sorts : aw ≠ mm_sorts) (ne_aw_mm_sizes : aw ≠ mm_sizes) (ne_aw_mm_many : aw ≠ mm_many) (ne_aw_mm_from : aw ≠ mm_from) (ne_aw_mm_to : aw ≠ mm_to) (ne_aw_mm_weight : aw ≠ mm_weight) (ne_aw_mm_cost : aw ≠ mm_cost) (ne_ac_mm_sorts : ac ≠ mm_sorts) (ne_ac_mm_sizes : ac ≠ mm_sizes) (ne_ac_mm_many : ac ≠ mm_many) (ne_ac_mm_from : ac ≠ mm_from) (ne_ac_mm_to : ac ≠ mm_to) (ne_ac_mm_weight : ac ≠ mm_weight) (ne_ac_mm_cost : ac ≠ mm_cost) (ne_mm_sorts_mm_sizes : mm_sorts ≠ mm_sizes) (ne_mm_sorts_mm_many : mm_sorts ≠ mm_many) (ne_mm_sorts_mm_from : mm_sorts ≠ mm_from) (ne_mm_sorts_mm_to : mm_sorts ≠ mm_to) (ne_mm_sorts_mm_weight : mm_sorts ≠ mm_weight) (ne_mm_sorts_mm_cost : mm_sorts ≠ mm_cost) (ne_mm_sizes_mm_many : mm_sizes ≠ mm_many) (ne_mm_sizes_mm_from : mm_sizes ≠ mm_from) (ne_mm_sizes_mm_to : mm_sizes ≠ mm_to) (ne_mm_sizes_mm_weight : mm_sizes ≠ mm_weight) (ne_mm_sizes_mm_cost : mm_sizes ≠ mm_cost) (ne_mm_many_mm_from : mm_many ≠ mm_from) (ne_mm_many_mm_to : mm_many ≠ mm_to) (ne_mm_many_mm_weight : mm_many ≠ mm_weight) (ne_mm_many_mm_cost : mm_many ≠ mm_cost) (ne_mm_from_mm_to : mm_from ≠ mm_to) (ne_mm_from_mm_weight : mm_from ≠ mm_weight) (ne_mm_from_mm_cost : mm_from ≠ mm_cost) (ne_mm_to_mm_weight : mm_to ≠ mm_weight) (ne_mm_to_mm_cost : mm_to ≠ mm_cost) (ne_mm_weight_mm_cost : mm_weight ≠ mm_cost) (ne_nu_col : mm_numbers ≠ mm_column) (ne_di_si : mm_directs ≠ mm_sizes) (ne_di_ma : mm_directs ≠ mm_many) (ne_di_so : mm_directs ≠ mm_sorts) (ne_di_af : mm_directs ≠ af) (ne_di_au : mm_directs ≠ au) (ne_di_aw : mm_directs ≠ aw) (ne_di_ac : mm_directs ≠ ac) (ne_di_mm_from : mm_directs ≠ mm_from) (ne_di_mm_to : mm_directs ≠ mm_to) (ne_di_mm_weight : mm_directs ≠ mm_weight) (ne_di_mm_cost : mm_directs ≠ mm_cost) : Rn (gG D cI cJ cZ cT lo b 7 xs) mL_law d 770 [(0, .ref b), (1, .ref x), (2, .ref y), (3, .int ((nI 0)))] [] hp n kr wr (fun r _ _ => r = some (.int 1)) := by
  refine r_aload_n (pc := 770) dL_law_770 (i := 1) rfl rfl ?_
  refine r_aload_n (pc := 771) dL_law_771 (i := 0) rfl rfl ?_
  refine r_iload_n (pc := 772) dL_law_772 (i := 3) rfl rfl ?_
  refine r_iconst (pc := 773) (v := 1) dL_law_773 (by decide) ?_
  refine r_iadd (pc := 774) (v := (nI 1)) dL_law_774 (by decide) ?_
  refine w_sld (pc := 775) (v := (xs 1)) dL_law_775 (show vp_in (nI 1) 7 from vp_in_nI (by decide) (by decide)) (congrArg xs (nI_clamp (by decide))) ?_
  refine r_callV (pc := 776) (as := [.int ((xs 1))]) (st := []) kL_78 rfl dL_law_776 gc0 (c_X11_sort_n (d := d - 1) (x := x) (th := th) (dr := dr) (sk := sk) (sh := sh) (se := se) (pa := pa) (fl := fl) (sa := sa) (cnt := 0) (rf := 0) (p1 := (xs 1)) (by omega) gc0 (no0 (xs 1))) rfl (by omega) (Nat.le_of_ble_eq_true rfl) (by omega) (by omega) rfl (fun r9 hp_1 nn_2 hq_3 => ?_)
  obtain ⟨rfl, hq_3n, h_4, ho_5⟩ := hq_3
  subst nn_2
  change Rn _ _ _ 779 _ [.int 0] _ _ _ _ _
  refine r_aload_n (pc := 779) dL_law_779 (i := 2) rfl rfl ?_
  refine r_aload_n (pc := 780) dL_law_780 (i := 0) rfl rfl ?_
  refine r_iload_n (pc := 781) dL_law_781 (i := 3) rfl rfl ?_
  refine r_iconst (pc := 782) (v := 1) dL_law_782 (by decide) ?_
  refine r_iadd (pc := 783) (v := (nI 1)) dL_law_783 (by decide) ?_
  refine w_sld (pc := 784) (v := (xs 1)) dL_law_784 (show vp_in (nI 1) 7 from vp_in_nI (by decide) (by decide)) (congrArg xs (nI_clamp (by decide))) ?_
  have h_9 : hp_1 y = some (.inr (11, [.int 0, .int 0, .ref mm_sorts, .ref mm_sizes, .ref mm_directs, .ref mm_many, .ref mm_from, .ref mm_to, .ref mm_weight, .ref mm_cost, .ref mm_numbers, .ref mm_state, .ref mm_worth, .ref mm_long1, .ref mm_howMany, .ref mm_rows, .ref mm_inPart, .ref mm_partCount, .ref mm_nf, .ref mm_nt, .ref mm_nw, .ref mm_nc, .int 0, .ref mm_column, .ref mm_next, .ref mm_inside, .ref mm_beside, .ref mm_solid, .ref mm_below, .ref mm_best, .ref mm_ways1, .ref mm_round, .ref mm_round2, .ref mm_label, .ref mm_bridge, .ref mm_outs, .ref mm_ins, .ref mm_least, .ref mm_spans, .ref mm_joinedWith, .ref mm_gone, .ref mm_dear, .ref mm_by, .ref mm_ahead, .ref mm_image])) := (ho_5 y _ gc7 (ne_c gc7 gc0 (by intro h9; cases h9)))
  refine r_callV (pc := 785) (as := [.int ((xs 1))]) (st := [.int 0]) kL_82 rfl dL_law_785 h_9 (c_X12_sort_n (d := d - 1) (y := y) (mm_sorts := mm_sorts) (mm_sizes := mm_sizes) (mm_directs := mm_directs) (mm_many := mm_many) (mm_from := mm_from) (mm_to := mm_to) (mm_weight := mm_weight) (mm_cost := mm_cost) (mm_numbers := mm_numbers) (mm_state := mm_state) (mm_worth := mm_worth) (mm_long1 := mm_long1) (mm_howMany := mm_howMany) (mm_rows := mm_rows) (mm_inPart := mm_inPart) (mm_partCount := mm_partCount) (mm_nf := mm_nf) (mm_nt := mm_nt) (mm_nw := mm_nw) (mm_nc := mm_nc) (mm_column := mm_column) (mm_next := mm_next) (mm_inside := mm_inside) (mm_beside := mm_beside) (mm_solid := mm_solid) (mm_below := mm_below) (mm_best := mm_best) (mm_ways1 := mm_ways1) (mm_round := mm_round) (mm_round2 := mm_round2) (mm_label := mm_label) (mm_bridge := mm_bridge) (mm_outs := mm_outs) (mm_ins := mm_ins) (mm_least := mm_least) (mm_spans := mm_spans) (mm_joinedWith := mm_joinedWith) (mm_gone := mm_gone) (mm_dear := mm_dear) (mm_by := mm_by) (mm_ahead := mm_ahead) (mm_image := mm_image) (rf := 0) (cnt := 0) (nm := 0) (p1 := (xs 1)) (by omega) h_9 (no0 (xs 1))) rfl (by omega) (Nat.le_of_ble_eq_true rfl) (by omega) (by omega) rfl (fun r9 hp_6 nn_7 hq_8 => ?_)
  obtain ⟨rfl, hq_8n, h_10, ho_11⟩ := hq_8
  subst nn_7
  change Rn _ _ _ 788 _ [.int 0, .int 0] _ _ _ _ _
  refine r_icmp_eq (pc := 788) (tgt := 1077) dL_law_788 (by decide) (fun _ => ?_) (fun c9 => absurd (rfl) c9)
  refine Rn.pick (lv' := [(0, .ref b), (1, .ref x), (2, .ref y), (3, .int ((nI 0)))]) [0, 1, 2, 3] rfl ?_
  exact law_end
set_option maxHeartbeats 4000000 in
set_option maxRecDepth 100000 in
theorem law_15 {D : va_G} {cI cJ cZ cT : ClassId} {lo b : Nat} {xs : Nat → Int32} {hp : MH} {n d kr wr : Nat} {x th dr sk sh se pa fl sa af au aw ac al : Nat} {y mm_sorts mm_sizes mm_directs mm_many mm_from mm_to mm_weight mm_cost mm_numbers mm_state mm_worth mm_long1 mm_howMany mm_rows mm_inPart mm_partCount mm_nf mm_nt mm_nw mm_nc mm_column mm_next mm_inside mm_beside mm_solid mm_below mm_best mm_ways1 mm_round mm_round2 mm_label mm_bridge mm_outs mm_ins mm_least mm_spans mm_joinedWith mm_gone mm_dear mm_by mm_ahead mm_image : Nat} (hd0 : 10 ≤ d) (hkr : 20 ≤ kr) (hwr : 300 ≤ wr) (gc0 : hp x = some (.inr (10, [.ref th, .int 0, .int 0, .ref dr, .ref sk, .ref sh, .ref se, .ref pa, .ref fl, .ref sa]))) (gc1 : hp th = some (.inl (cT, 120, .inr (.inr (.inr (.inr (fun _ => none))))))) (gc2 : hp dr = some (.inr (1, [.int 1, .int 0, .int 0, .ref af, .ref au, .ref aw, .ref ac, .ref al]))) (gc3 : hp af = some (.inl (cI, 60, .inl (fun _ => 0)))) (gc4 : hp au = some (.inl (cI, 60, .inl (fun _ => 0)))) (gc5 : hp aw = some (.inl (cI, 60, .inl (fun _ => 0)))) (gc6 : hp ac = some (.inl (cI, 60, .inl (fun _ => 0)))) (gc7 : hp y = some (.inr (11, [.int 0, .int 0, .ref mm_sorts, .ref mm_sizes, .ref mm_directs, .ref mm_many, .ref mm_from, .ref mm_to, .ref mm_weight, .ref mm_cost, .ref mm_numbers, .ref mm_state, .ref mm_worth, .ref mm_long1, .ref mm_howMany, .ref mm_rows, .ref mm_inPart, .ref mm_partCount, .ref mm_nf, .ref mm_nt, .ref mm_nw, .ref mm_nc, .int 0, .ref mm_column, .ref mm_next, .ref mm_inside, .ref mm_beside, .ref mm_solid, .ref mm_below, .ref mm_best, .ref mm_ways1, .ref mm_round, .ref mm_round2, .ref mm_label, .ref mm_bridge, .ref mm_outs, .ref mm_ins, .ref mm_least, .ref mm_spans, .ref mm_joinedWith, .ref mm_gone, .ref mm_dear, .ref mm_by, .ref mm_ahead, .ref mm_image]))) (gc8 : hp mm_sorts = some (.inl (cI, 121, .inl (fun _ => 0)))) (gc9 : hp mm_sizes = some (.inl (cI, 121, .inl (upd (fun _ => 0) 120 1)))) (gc10 : hp mm_directs = some (.inl (cZ, 121, .inl (upd (fun _ => 0) 120 0)))) (gc11 : hp mm_many = some (.inl (cI, 121, .inl (upd (fun _ => 0) 120 0)))) (gc12 : hp mm_from = some (.inl (cI, 7260, .inl (fun _ => 0)))) (gc13 : hp mm_to = some (.inl (cI, 7260, .inl (fun _ => 0)))) (gc14 : hp mm_weight = some (.inl (cI, 7260, .inl (fun _ => 0)))) (gc15 : hp mm_cost = some (.inl (cI, 7260, .inl (fun _ => 0)))) (gc16 : hp mm_numbers = some (.inl (cJ, 1936, .inr (.inl (fun _ => 0))))) (gc17 : hp mm_column = some (.inl (cJ, 16, .inr (.inl (fun _ => 0))))) (ne_af_au : af ≠ au) (ne_af_aw : af ≠ aw) (ne_af_ac : af ≠ ac) (ne_af_mm_sorts : af ≠ mm_sorts) (ne_af_mm_sizes : af ≠ mm_sizes) (ne_af_mm_many : af ≠ mm_many) (ne_af_mm_from : af ≠ mm_from) (ne_af_mm_to : af ≠ mm_to) (ne_af_mm_weight : af ≠ mm_weight) (ne_af_mm_cost : af ≠ mm_cost) (ne_au_aw : au ≠ aw) (ne_au_ac : au ≠ ac) (ne_au_mm_sorts : au ≠ mm_sorts) (ne_au_mm_sizes : au ≠ mm_sizes) (ne_au_mm_many : au ≠ mm_many) (ne_au_mm_from : au ≠ mm_from) (ne_au_mm_to : au ≠ mm_to) (ne_au_mm_weight : au ≠ mm_weight) (ne_au_mm_cost : au ≠ mm_cost) (ne_aw_ac : aw ≠ ac) (ne_aw_mm_sorts : aw ≠ mm_sorts) (ne_aw_mm_sizes : aw ≠ mm_sizes) (ne_aw_mm_many : aw ≠ mm_many) (ne_aw_mm_from : aw ≠ mm_from) (ne_aw_mm_to : aw ≠ mm_to) (ne_aw_mm_weight : aw ≠ mm_weight) (ne_aw_mm_cost : aw ≠ mm_cost) (ne_ac_mm_sorts : ac ≠ mm_sorts) (ne_ac_mm_sizes : ac ≠ mm_sizes) (ne_ac_mm_many : ac ≠ mm_many) (ne_ac_mm_from : ac ≠ mm_from) (ne_ac_mm_to : ac ≠ mm_to) (ne_ac_mm_weight : ac ≠ mm_weight) (ne_ac_mm_cost : ac ≠ mm_cost) (ne_mm_sorts_mm_sizes : mm_sorts ≠ mm_sizes) (ne_mm_sorts_mm_many : mm_sorts ≠ mm_many) (ne_mm_sorts_mm_from : mm_sorts ≠ mm_from) (ne_mm_sorts_mm_to : mm_sorts ≠ mm_to) (ne_mm_sorts_mm_weight : mm_sorts ≠ mm_weight) (ne_mm_sorts_mm_cost : mm_sorts ≠ mm_cost) (ne_mm_sizes_mm_many : mm_sizes ≠ mm_many) (ne_mm_sizes_mm_from : mm_sizes ≠ mm_from) (ne_mm_sizes_mm_to : mm_sizes ≠ mm_to) (ne_mm_sizes_mm_weight : mm_sizes ≠ mm_weight) (ne_mm_sizes_mm_cost : mm_sizes ≠ mm_cost) (ne_mm_many_mm_from : mm_many ≠ mm_from) (ne_mm_many_mm_to : mm_many ≠ mm_to) (ne_mm_many_mm_weight : mm_many ≠ mm_weight) (ne_mm_many_mm_cost : mm_many ≠ mm_cost) (ne_mm_from_mm_to : mm_from ≠ mm_to) (ne_mm_from_mm_weight : mm_from ≠ mm_weight) (ne_mm_from_mm_cost : mm_from ≠ mm_cost) (ne_mm_to_mm_weight : mm_to ≠ mm_weight) (ne_mm_to_mm_cost : mm_to ≠ mm_cost) (ne_mm_weight_mm_cost : mm_weight ≠ mm_cost) (ne_nu_col : mm_numbers ≠ mm_column) (ne_di_si : mm_directs ≠ mm_sizes) (ne_di_ma : mm_directs ≠ mm_many) (ne_di_so : mm_directs ≠ mm_sorts) (ne_di_af : mm_directs ≠ af) (ne_di_au : mm_directs ≠ au) (ne_di_aw : mm_directs ≠ aw) (ne_di_ac : mm_directs ≠ ac) (ne_di_mm_from : mm_directs ≠ mm_from) (ne_di_mm_to : mm_directs ≠ mm_to) (ne_di_mm_weight : mm_directs ≠ mm_weight) (ne_di_mm_cost : mm_directs ≠ mm_cost) : Rn (gG D cI cJ cZ cT lo b 7 xs) mL_law d 793 [(0, .ref b), (1, .ref x), (2, .ref y), (3, .int ((nI 0)))] [] hp n kr wr (fun r _ _ => r = some (.int 1)) := by
  refine r_aload_n (pc := 793) dL_law_793 (i := 1) rfl rfl ?_
  refine r_aload_n (pc := 794) dL_law_794 (i := 0) rfl rfl ?_
  refine r_iload_n (pc := 795) dL_law_795 (i := 3) rfl rfl ?_
  refine r_iconst (pc := 796) (v := 1) dL_law_796 (by decide) ?_
  refine r_iadd (pc := 797) (v := (nI 1)) dL_law_797 (by decide) ?_
  refine w_sld (pc := 798) (v := (xs 1)) dL_law_798 (show vp_in (nI 1) 7 from vp_in_nI (by decide) (by decide)) (congrArg xs (nI_clamp (by decide))) ?_
  refine r_aload_n (pc := 799) dL_law_799 (i := 0) rfl rfl ?_
  refine r_iload_n (pc := 800) dL_law_800 (i := 3) rfl rfl ?_
  refine r_iconst (pc := 801) (v := 2) dL_law_801 (by decide) ?_
  refine r_iadd (pc := 802) (v := (nI 2)) dL_law_802 (by decide) ?_
  refine w_sld (pc := 803) (v := (xs 2)) dL_law_803 (show vp_in (nI 2) 7 from vp_in_nI (by decide) (by decide)) (congrArg xs (nI_clamp (by decide))) ?_
  refine r_aload_n (pc := 804) dL_law_804 (i := 0) rfl rfl ?_
  refine r_iload_n (pc := 805) dL_law_805 (i := 3) rfl rfl ?_
  refine r_iconst (pc := 806) (v := 3) dL_law_806 (by decide) ?_
  refine r_iadd (pc := 807) (v := (nI 3)) dL_law_807 (by decide) ?_
  refine w_sld (pc := 808) (v := (xs 3)) dL_law_808 (show vp_in (nI 3) 7 from vp_in_nI (by decide) (by decide)) (congrArg xs (nI_clamp (by decide))) ?_
  refine r_callV (pc := 809) (as := [.int ((xs 1)), .int ((xs 2)), .int ((xs 3))]) (st := []) kL_83 rfl dL_law_809 gc0 (c_X11_of_n (d := d - 1) (x := x) (th := th) (dr := dr) (sk := sk) (sh := sh) (se := se) (pa := pa) (fl := fl) (sa := sa) (cnt := 0) (rf := 0) (p1 := (xs 1)) (p2 := (xs 2)) (p3 := (xs 3)) (by omega) gc0 (no0 (xs 1))) rfl (by omega) (Nat.le_of_ble_eq_true rfl) (by omega) (by omega) rfl (fun r9 hp_1 nn_2 hq_3 => ?_)
  obtain ⟨rfl, hq_3n, h_4, ho_5⟩ := hq_3
  subst nn_2
  change Rn _ _ _ 812 _ [.int 0] _ _ _ _ _
  refine r_aload_n (pc := 812) dL_law_812 (i := 2) rfl rfl ?_
  refine r_aload_n (pc := 813) dL_law_813 (i := 0) rfl rfl ?_
  refine r_iload_n (pc := 814) dL_law_814 (i := 3) rfl rfl ?_
  refine r_iconst (pc := 815) (v := 1) dL_law_815 (by decide) ?_
  refine r_iadd (pc := 816) (v := (nI 1)) dL_law_816 (by decide) ?_
  refine w_sld (pc := 817) (v := (xs 1)) dL_law_817 (show vp_in (nI 1) 7 from vp_in_nI (by decide) (by decide)) (congrArg xs (nI_clamp (by decide))) ?_
  refine r_aload_n (pc := 818) dL_law_818 (i := 0) rfl rfl ?_
  refine r_iload_n (pc := 819) dL_law_819 (i := 3) rfl rfl ?_
  refine r_iconst (pc := 820) (v := 2) dL_law_820 (by decide) ?_
  refine r_iadd (pc := 821) (v := (nI 2)) dL_law_821 (by decide) ?_
  refine w_sld (pc := 822) (v := (xs 2)) dL_law_822 (show vp_in (nI 2) 7 from vp_in_nI (by decide) (by decide)) (congrArg xs (nI_clamp (by decide))) ?_
  refine r_aload_n (pc := 823) dL_law_823 (i := 0) rfl rfl ?_
  refine r_iload_n (pc := 824) dL_law_824 (i := 3) rfl rfl ?_
  refine r_iconst (pc := 825) (v := 3) dL_law_825 (by decide) ?_
  refine r_iadd (pc := 826) (v := (nI 3)) dL_law_826 (by decide) ?_
  refine w_sld (pc := 827) (v := (xs 3)) dL_law_827 (show vp_in (nI 3) 7 from vp_in_nI (by decide) (by decide)) (congrArg xs (nI_clamp (by decide))) ?_
  have h_9 : hp_1 y = some (.inr (11, [.int 0, .int 0, .ref mm_sorts, .ref mm_sizes, .ref mm_directs, .ref mm_many, .ref mm_from, .ref mm_to, .ref mm_weight, .ref mm_cost, .ref mm_numbers, .ref mm_state, .ref mm_worth, .ref mm_long1, .ref mm_howMany, .ref mm_rows, .ref mm_inPart, .ref mm_partCount, .ref mm_nf, .ref mm_nt, .ref mm_nw, .ref mm_nc, .int 0, .ref mm_column, .ref mm_next, .ref mm_inside, .ref mm_beside, .ref mm_solid, .ref mm_below, .ref mm_best, .ref mm_ways1, .ref mm_round, .ref mm_round2, .ref mm_label, .ref mm_bridge, .ref mm_outs, .ref mm_ins, .ref mm_least, .ref mm_spans, .ref mm_joinedWith, .ref mm_gone, .ref mm_dear, .ref mm_by, .ref mm_ahead, .ref mm_image])) := (ho_5 y _ gc7 (ne_c gc7 gc0 (by intro h9; cases h9)))
  refine r_callV (pc := 828) (as := [.int ((xs 1)), .int ((xs 2)), .int ((xs 3))]) (st := [.int 0]) kL_86 rfl dL_law_828 h_9 (c_X12_of_n (d := d - 1) (y := y) (mm_sorts := mm_sorts) (mm_sizes := mm_sizes) (mm_directs := mm_directs) (mm_many := mm_many) (mm_from := mm_from) (mm_to := mm_to) (mm_weight := mm_weight) (mm_cost := mm_cost) (mm_numbers := mm_numbers) (mm_state := mm_state) (mm_worth := mm_worth) (mm_long1 := mm_long1) (mm_howMany := mm_howMany) (mm_rows := mm_rows) (mm_inPart := mm_inPart) (mm_partCount := mm_partCount) (mm_nf := mm_nf) (mm_nt := mm_nt) (mm_nw := mm_nw) (mm_nc := mm_nc) (mm_column := mm_column) (mm_next := mm_next) (mm_inside := mm_inside) (mm_beside := mm_beside) (mm_solid := mm_solid) (mm_below := mm_below) (mm_best := mm_best) (mm_ways1 := mm_ways1) (mm_round := mm_round) (mm_round2 := mm_round2) (mm_label := mm_label) (mm_bridge := mm_bridge) (mm_outs := mm_outs) (mm_ins := mm_ins) (mm_least := mm_least) (mm_spans := mm_spans) (mm_joinedWith := mm_joinedWith) (mm_gone := mm_gone) (mm_dear := mm_dear) (mm_by := mm_by) (mm_ahead := mm_ahead) (mm_image := mm_image) (rf := 0) (cnt := 0) (nm := 0) (p1 := (xs 1)) (p2 := (xs 2)) (p3 := (xs 3)) (by omega) h_9 (no0 (xs 1))) rfl (by omega) (Nat.le_of_ble_eq_true rfl) (by omega) (by omega) rfl (fun r9 hp_6 nn_7 hq_8 => ?_)
  obtain ⟨rfl, hq_8n, h_10, ho_11⟩ := hq_8
  subst nn_7
  change Rn _ _ _ 831 _ [.int 0, .int 0] _ _ _ _ _
  refine r_icmp_eq (pc := 831) (tgt := 1077) dL_law_831 (by decide) (fun _ => ?_) (fun c9 => absurd (rfl) c9)
  refine Rn.pick (lv' := [(0, .ref b), (1, .ref x), (2, .ref y), (3, .int ((nI 0)))]) [0, 1, 2, 3] rfl ?_
  exact law_end
set_option maxHeartbeats 4000000 in
set_option maxRecDepth 100000 in
theorem law_16 {D : va_G} {cI cJ cZ cT : ClassId} {lo b : Nat} {xs : Nat → Int32} {hp : MH} {n d kr wr : Nat} {x th dr sk sh se pa fl sa af au aw ac al : Nat} {y mm_sorts mm_sizes mm_directs mm_many mm_from mm_to mm_weight mm_cost mm_numbers mm_state mm_worth mm_long1 mm_howMany mm_rows mm_inPart mm_partCount mm_nf mm_nt mm_nw mm_nc mm_column mm_next mm_inside mm_beside mm_solid mm_below mm_best mm_ways1 mm_round mm_round2 mm_label mm_bridge mm_outs mm_ins mm_least mm_spans mm_joinedWith mm_gone mm_dear mm_by mm_ahead mm_image : Nat} (hd0 : 10 ≤ d) (hkr : 20 ≤ kr) (hwr : 300 ≤ wr) (gc0 : hp x = some (.inr (10, [.ref th, .int 0, .int 0, .ref dr, .ref sk, .ref sh, .ref se, .ref pa, .ref fl, .ref sa]))) (gc1 : hp th = some (.inl (cT, 120, .inr (.inr (.inr (.inr (fun _ => none))))))) (gc2 : hp dr = some (.inr (1, [.int 1, .int 0, .int 0, .ref af, .ref au, .ref aw, .ref ac, .ref al]))) (gc3 : hp af = some (.inl (cI, 60, .inl (fun _ => 0)))) (gc4 : hp au = some (.inl (cI, 60, .inl (fun _ => 0)))) (gc5 : hp aw = some (.inl (cI, 60, .inl (fun _ => 0)))) (gc6 : hp ac = some (.inl (cI, 60, .inl (fun _ => 0)))) (gc7 : hp y = some (.inr (11, [.int 0, .int 0, .ref mm_sorts, .ref mm_sizes, .ref mm_directs, .ref mm_many, .ref mm_from, .ref mm_to, .ref mm_weight, .ref mm_cost, .ref mm_numbers, .ref mm_state, .ref mm_worth, .ref mm_long1, .ref mm_howMany, .ref mm_rows, .ref mm_inPart, .ref mm_partCount, .ref mm_nf, .ref mm_nt, .ref mm_nw, .ref mm_nc, .int 0, .ref mm_column, .ref mm_next, .ref mm_inside, .ref mm_beside, .ref mm_solid, .ref mm_below, .ref mm_best, .ref mm_ways1, .ref mm_round, .ref mm_round2, .ref mm_label, .ref mm_bridge, .ref mm_outs, .ref mm_ins, .ref mm_least, .ref mm_spans, .ref mm_joinedWith, .ref mm_gone, .ref mm_dear, .ref mm_by, .ref mm_ahead, .ref mm_image]))) (gc8 : hp mm_sorts = some (.inl (cI, 121, .inl (fun _ => 0)))) (gc9 : hp mm_sizes = some (.inl (cI, 121, .inl (upd (fun _ => 0) 120 1)))) (gc10 : hp mm_directs = some (.inl (cZ, 121, .inl (upd (fun _ => 0) 120 0)))) (gc11 : hp mm_many = some (.inl (cI, 121, .inl (upd (fun _ => 0) 120 0)))) (gc12 : hp mm_from = some (.inl (cI, 7260, .inl (fun _ => 0)))) (gc13 : hp mm_to = some (.inl (cI, 7260, .inl (fun _ => 0)))) (gc14 : hp mm_weight = some (.inl (cI, 7260, .inl (fun _ => 0)))) (gc15 : hp mm_cost = some (.inl (cI, 7260, .inl (fun _ => 0)))) (gc16 : hp mm_numbers = some (.inl (cJ, 1936, .inr (.inl (fun _ => 0))))) (gc17 : hp mm_column = some (.inl (cJ, 16, .inr (.inl (fun _ => 0))))) (ne_af_au : af ≠ au) (ne_af_aw : af ≠ aw) (ne_af_ac : af ≠ ac) (ne_af_mm_sorts : af ≠ mm_sorts) (ne_af_mm_sizes : af ≠ mm_sizes) (ne_af_mm_many : af ≠ mm_many) (ne_af_mm_from : af ≠ mm_from) (ne_af_mm_to : af ≠ mm_to) (ne_af_mm_weight : af ≠ mm_weight) (ne_af_mm_cost : af ≠ mm_cost) (ne_au_aw : au ≠ aw) (ne_au_ac : au ≠ ac) (ne_au_mm_sorts : au ≠ mm_sorts) (ne_au_mm_sizes : au ≠ mm_sizes) (ne_au_mm_many : au ≠ mm_many) (ne_au_mm_from : au ≠ mm_from) (ne_au_mm_to : au ≠ mm_to) (ne_au_mm_weight : au ≠ mm_weight) (ne_au_mm_cost : au ≠ mm_cost) (ne_aw_ac : aw ≠ ac) (ne_aw_mm_sorts : aw ≠ mm_sorts) (ne_aw_mm_sizes : aw ≠ mm_sizes) (ne_aw_mm_many : aw ≠ mm_many) (ne_aw_mm_from : aw ≠ mm_from) (ne_aw_mm_to : aw ≠ mm_to) (ne_aw_mm_weight : aw ≠ mm_weight) (ne_aw_mm_cost : aw ≠ mm_cost) (ne_ac_mm_sorts : ac ≠ mm_sorts) (ne_ac_mm_sizes : ac ≠ mm_sizes) (ne_ac_mm_many : ac ≠ mm_many) (ne_ac_mm_from : ac ≠ mm_from) (ne_ac_mm_to : ac ≠ mm_to) (ne_ac_mm_weight : ac ≠ mm_weight) (ne_ac_mm_cost : ac ≠ mm_cost) (ne_mm_sorts_mm_sizes : mm_sorts ≠ mm_sizes) (ne_mm_sorts_mm_many : mm_sorts ≠ mm_many) (ne_mm_sorts_mm_from : mm_sorts ≠ mm_from) (ne_mm_sorts_mm_to : mm_sorts ≠ mm_to) (ne_mm_sorts_mm_weight : mm_sorts ≠ mm_weight) (ne_mm_sorts_mm_cost : mm_sorts ≠ mm_cost) (ne_mm_sizes_mm_many : mm_sizes ≠ mm_many) (ne_mm_sizes_mm_from : mm_sizes ≠ mm_from) (ne_mm_sizes_mm_to : mm_sizes ≠ mm_to) (ne_mm_sizes_mm_weight : mm_sizes ≠ mm_weight) (ne_mm_sizes_mm_cost : mm_sizes ≠ mm_cost) (ne_mm_many_mm_from : mm_many ≠ mm_from) (ne_mm_many_mm_to : mm_many ≠ mm_to) (ne_mm_many_mm_weight : mm_many ≠ mm_weight) (ne_mm_many_mm_cost : mm_many ≠ mm_cost) (ne_mm_from_mm_to : mm_from ≠ mm_to) (ne_mm_from_mm_weight : mm_from ≠ mm_weight) (ne_mm_from_mm_cost : mm_from ≠ mm_cost) (ne_mm_to_mm_weight : mm_to ≠ mm_weight) (ne_mm_to_mm_cost : mm_to ≠ mm_cost) (ne_mm_weight_mm_cost : mm_weight ≠ mm_cost) (ne_nu_col : mm_numbers ≠ mm_column) (ne_di_si : mm_directs ≠ mm_sizes) (ne_di_ma : mm_directs ≠ mm_many) (ne_di_so : mm_directs ≠ mm_sorts) (ne_di_af : mm_directs ≠ af) (ne_di_au : mm_directs ≠ au) (ne_di_aw : mm_directs ≠ aw) (ne_di_ac : mm_directs ≠ ac) (ne_di_mm_from : mm_directs ≠ mm_from) (ne_di_mm_to : mm_directs ≠ mm_to) (ne_di_mm_weight : mm_directs ≠ mm_weight) (ne_di_mm_cost : mm_directs ≠ mm_cost) : Rn (gG D cI cJ cZ cT lo b 7 xs) mL_law d 836 [(0, .ref b), (1, .ref x), (2, .ref y), (3, .int ((nI 0)))] [] hp n kr wr (fun r _ _ => r = some (.int 1)) := by
  refine r_aload_n (pc := 836) dL_law_836 (i := 1) rfl rfl ?_
  refine r_aload_n (pc := 837) dL_law_837 (i := 0) rfl rfl ?_
  refine r_iload_n (pc := 838) dL_law_838 (i := 3) rfl rfl ?_
  refine r_iconst (pc := 839) (v := 1) dL_law_839 (by decide) ?_
  refine r_iadd (pc := 840) (v := (nI 1)) dL_law_840 (by decide) ?_
  refine w_sld (pc := 841) (v := (xs 1)) dL_law_841 (show vp_in (nI 1) 7 from vp_in_nI (by decide) (by decide)) (congrArg xs (nI_clamp (by decide))) ?_
  refine r_aload_n (pc := 842) dL_law_842 (i := 0) rfl rfl ?_
  refine r_iload_n (pc := 843) dL_law_843 (i := 3) rfl rfl ?_
  refine r_iconst (pc := 844) (v := 2) dL_law_844 (by decide) ?_
  refine r_iadd (pc := 845) (v := (nI 2)) dL_law_845 (by decide) ?_
  refine w_sld (pc := 846) (v := (xs 2)) dL_law_846 (show vp_in (nI 2) 7 from vp_in_nI (by decide) (by decide)) (congrArg xs (nI_clamp (by decide))) ?_
  refine r_callV (pc := 847) (as := [.int ((xs 1)), .int ((xs 2))]) (st := []) kL_87 rfl dL_law_847 gc0 (c_X11_at_n (d := d - 1) (x := x) (th := th) (dr := dr) (sk := sk) (sh := sh) (se := se) (pa := pa) (fl := fl) (sa := sa) (cnt := 0) (rf := 0) (p1 := (xs 1)) (p2 := (xs 2)) (by omega) gc0 (no0 (xs 1))) rfl (by omega) (Nat.le_of_ble_eq_true rfl) (by omega) (by omega) rfl (fun r9 hp_1 nn_2 hq_3 => ?_)
  obtain ⟨rfl, hq_3n, h_4, ho_5⟩ := hq_3
  subst nn_2
  change Rn _ _ _ 850 _ [.long 0] _ _ _ _ _
  refine r_aload_n (pc := 850) dL_law_850 (i := 2) rfl rfl ?_
  refine r_aload_n (pc := 851) dL_law_851 (i := 0) rfl rfl ?_
  refine r_iload_n (pc := 852) dL_law_852 (i := 3) rfl rfl ?_
  refine r_iconst (pc := 853) (v := 1) dL_law_853 (by decide) ?_
  refine r_iadd (pc := 854) (v := (nI 1)) dL_law_854 (by decide) ?_
  refine w_sld (pc := 855) (v := (xs 1)) dL_law_855 (show vp_in (nI 1) 7 from vp_in_nI (by decide) (by decide)) (congrArg xs (nI_clamp (by decide))) ?_
  refine r_aload_n (pc := 856) dL_law_856 (i := 0) rfl rfl ?_
  refine r_iload_n (pc := 857) dL_law_857 (i := 3) rfl rfl ?_
  refine r_iconst (pc := 858) (v := 2) dL_law_858 (by decide) ?_
  refine r_iadd (pc := 859) (v := (nI 2)) dL_law_859 (by decide) ?_
  refine w_sld (pc := 860) (v := (xs 2)) dL_law_860 (show vp_in (nI 2) 7 from vp_in_nI (by decide) (by decide)) (congrArg xs (nI_clamp (by decide))) ?_
  have h_9 : hp_1 y = some (.inr (11, [.int 0, .int 0, .ref mm_sorts, .ref mm_sizes, .ref mm_directs, .ref mm_many, .ref mm_from, .ref mm_to, .ref mm_weight, .ref mm_cost, .ref mm_numbers, .ref mm_state, .ref mm_worth, .ref mm_long1, .ref mm_howMany, .ref mm_rows, .ref mm_inPart, .ref mm_partCount, .ref mm_nf, .ref mm_nt, .ref mm_nw, .ref mm_nc, .int 0, .ref mm_column, .ref mm_next, .ref mm_inside, .ref mm_beside, .ref mm_solid, .ref mm_below, .ref mm_best, .ref mm_ways1, .ref mm_round, .ref mm_round2, .ref mm_label, .ref mm_bridge, .ref mm_outs, .ref mm_ins, .ref mm_least, .ref mm_spans, .ref mm_joinedWith, .ref mm_gone, .ref mm_dear, .ref mm_by, .ref mm_ahead, .ref mm_image])) := (ho_5 y _ gc7 (ne_c gc7 gc0 (by intro h9; cases h9)))
  refine r_callV (pc := 861) (as := [.int ((xs 1)), .int ((xs 2))]) (st := [.long 0]) kL_91 rfl dL_law_861 h_9 (c_X12_at_n (d := d - 1) (y := y) (mm_sorts := mm_sorts) (mm_sizes := mm_sizes) (mm_directs := mm_directs) (mm_many := mm_many) (mm_from := mm_from) (mm_to := mm_to) (mm_weight := mm_weight) (mm_cost := mm_cost) (mm_numbers := mm_numbers) (mm_state := mm_state) (mm_worth := mm_worth) (mm_long1 := mm_long1) (mm_howMany := mm_howMany) (mm_rows := mm_rows) (mm_inPart := mm_inPart) (mm_partCount := mm_partCount) (mm_nf := mm_nf) (mm_nt := mm_nt) (mm_nw := mm_nw) (mm_nc := mm_nc) (mm_column := mm_column) (mm_next := mm_next) (mm_inside := mm_inside) (mm_beside := mm_beside) (mm_solid := mm_solid) (mm_below := mm_below) (mm_best := mm_best) (mm_ways1 := mm_ways1) (mm_round := mm_round) (mm_round2 := mm_round2) (mm_label := mm_label) (mm_bridge := mm_bridge) (mm_outs := mm_outs) (mm_ins := mm_ins) (mm_least := mm_least) (mm_spans := mm_spans) (mm_joinedWith := mm_joinedWith) (mm_gone := mm_gone) (mm_dear := mm_dear) (mm_by := mm_by) (mm_ahead := mm_ahead) (mm_image := mm_image) (rf := 0) (cnt := 0) (nm := 0) (p1 := (xs 1)) (p2 := (xs 2)) (by omega) h_9 (no0 (xs 1))) rfl (by omega) (Nat.le_of_ble_eq_true rfl) (by omega) (by omega) rfl (fun r9 hp_6 nn_7 hq_8 => ?_)
  obtain ⟨rfl, hq_8n, h_10, ho_11⟩ := hq_8
  subst nn_7
  change Rn _ _ _ 864 _ [.long 0, .long 0] _ _ _ _ _
  refine r_lcmp (pc := 864) dL_law_864 ?_
  refine r_if_eq (pc := 865) (tgt := 1077) dL_law_865 (by decide) (fun _ => ?_) (fun c9 => absurd (rfl) c9)
  refine Rn.pick (lv' := [(0, .ref b), (1, .ref x), (2, .ref y), (3, .int ((nI 0)))]) [0, 1, 2, 3] rfl ?_
  exact law_end
set_option maxHeartbeats 4000000 in
set_option maxRecDepth 100000 in
theorem law_17 {D : va_G} {cI cJ cZ cT : ClassId} {lo b : Nat} {xs : Nat → Int32} {hp : MH} {n d kr wr : Nat} {x th dr sk sh se pa fl sa af au aw ac al : Nat} {y mm_sorts mm_sizes mm_directs mm_many mm_from mm_to mm_weight mm_cost mm_numbers mm_state mm_worth mm_long1 mm_howMany mm_rows mm_inPart mm_partCount mm_nf mm_nt mm_nw mm_nc mm_column mm_next mm_inside mm_beside mm_solid mm_below mm_best mm_ways1 mm_round mm_round2 mm_label mm_bridge mm_outs mm_ins mm_least mm_spans mm_joinedWith mm_gone mm_dear mm_by mm_ahead mm_image : Nat} (hd0 : 10 ≤ d) (hkr : 20 ≤ kr) (hwr : 300 ≤ wr) (gc0 : hp x = some (.inr (10, [.ref th, .int 0, .int 0, .ref dr, .ref sk, .ref sh, .ref se, .ref pa, .ref fl, .ref sa]))) (gc1 : hp th = some (.inl (cT, 120, .inr (.inr (.inr (.inr (fun _ => none))))))) (gc2 : hp dr = some (.inr (1, [.int 1, .int 0, .int 0, .ref af, .ref au, .ref aw, .ref ac, .ref al]))) (gc3 : hp af = some (.inl (cI, 60, .inl (fun _ => 0)))) (gc4 : hp au = some (.inl (cI, 60, .inl (fun _ => 0)))) (gc5 : hp aw = some (.inl (cI, 60, .inl (fun _ => 0)))) (gc6 : hp ac = some (.inl (cI, 60, .inl (fun _ => 0)))) (gc7 : hp y = some (.inr (11, [.int 0, .int 0, .ref mm_sorts, .ref mm_sizes, .ref mm_directs, .ref mm_many, .ref mm_from, .ref mm_to, .ref mm_weight, .ref mm_cost, .ref mm_numbers, .ref mm_state, .ref mm_worth, .ref mm_long1, .ref mm_howMany, .ref mm_rows, .ref mm_inPart, .ref mm_partCount, .ref mm_nf, .ref mm_nt, .ref mm_nw, .ref mm_nc, .int 0, .ref mm_column, .ref mm_next, .ref mm_inside, .ref mm_beside, .ref mm_solid, .ref mm_below, .ref mm_best, .ref mm_ways1, .ref mm_round, .ref mm_round2, .ref mm_label, .ref mm_bridge, .ref mm_outs, .ref mm_ins, .ref mm_least, .ref mm_spans, .ref mm_joinedWith, .ref mm_gone, .ref mm_dear, .ref mm_by, .ref mm_ahead, .ref mm_image]))) (gc8 : hp mm_sorts = some (.inl (cI, 121, .inl (fun _ => 0)))) (gc9 : hp mm_sizes = some (.inl (cI, 121, .inl (upd (fun _ => 0) 120 1)))) (gc10 : hp mm_directs = some (.inl (cZ, 121, .inl (upd (fun _ => 0) 120 0)))) (gc11 : hp mm_many = some (.inl (cI, 121, .inl (upd (fun _ => 0) 120 0)))) (gc12 : hp mm_from = some (.inl (cI, 7260, .inl (fun _ => 0)))) (gc13 : hp mm_to = some (.inl (cI, 7260, .inl (fun _ => 0)))) (gc14 : hp mm_weight = some (.inl (cI, 7260, .inl (fun _ => 0)))) (gc15 : hp mm_cost = some (.inl (cI, 7260, .inl (fun _ => 0)))) (gc16 : hp mm_numbers = some (.inl (cJ, 1936, .inr (.inl (fun _ => 0))))) (gc17 : hp mm_column = some (.inl (cJ, 16, .inr (.inl (fun _ => 0))))) (ne_af_au : af ≠ au) (ne_af_aw : af ≠ aw) (ne_af_ac : af ≠ ac) (ne_af_mm_sorts : af ≠ mm_sorts) (ne_af_mm_sizes : af ≠ mm_sizes) (ne_af_mm_many : af ≠ mm_many) (ne_af_mm_from : af ≠ mm_from) (ne_af_mm_to : af ≠ mm_to) (ne_af_mm_weight : af ≠ mm_weight) (ne_af_mm_cost : af ≠ mm_cost) (ne_au_aw : au ≠ aw) (ne_au_ac : au ≠ ac) (ne_au_mm_sorts : au ≠ mm_sorts) (ne_au_mm_sizes : au ≠ mm_sizes) (ne_au_mm_many : au ≠ mm_many) (ne_au_mm_from : au ≠ mm_from) (ne_au_mm_to : au ≠ mm_to) (ne_au_mm_weight : au ≠ mm_weight) (ne_au_mm_cost : au ≠ mm_cost) (ne_aw_ac : aw ≠ ac) (ne_aw_mm_sorts : aw ≠ mm_sorts) (ne_aw_mm_sizes : aw ≠ mm_sizes) (ne_aw_mm_many : aw ≠ mm_many) (ne_aw_mm_from : aw ≠ mm_from) (ne_aw_mm_to : aw ≠ mm_to) (ne_aw_mm_weight : aw ≠ mm_weight) (ne_aw_mm_cost : aw ≠ mm_cost) (ne_ac_mm_sorts : ac ≠ mm_sorts) (ne_ac_mm_sizes : ac ≠ mm_sizes) (ne_ac_mm_many : ac ≠ mm_many) (ne_ac_mm_from : ac ≠ mm_from) (ne_ac_mm_to : ac ≠ mm_to) (ne_ac_mm_weight : ac ≠ mm_weight) (ne_ac_mm_cost : ac ≠ mm_cost) (ne_mm_sorts_mm_sizes : mm_sorts ≠ mm_sizes) (ne_mm_sorts_mm_many : mm_sorts ≠ mm_many) (ne_mm_sorts_mm_from : mm_sorts ≠ mm_from) (ne_mm_sorts_mm_to : mm_sorts ≠ mm_to) (ne_mm_sorts_mm_weight : mm_sorts ≠ mm_weight) (ne_mm_sorts_mm_cost : mm_sorts ≠ mm_cost) (ne_mm_sizes_mm_many : mm_sizes ≠ mm_many) (ne_mm_sizes_mm_from : mm_sizes ≠ mm_from) (ne_mm_sizes_mm_to : mm_sizes ≠ mm_to) (ne_mm_sizes_mm_weight : mm_sizes ≠ mm_weight) (ne_mm_sizes_mm_cost : mm_sizes ≠ mm_cost) (ne_mm_many_mm_from : mm_many ≠ mm_from) (ne_mm_many_mm_to : mm_many ≠ mm_to) (ne_mm_many_mm_weight : mm_many ≠ mm_weight) (ne_mm_many_mm_cost : mm_many ≠ mm_cost) (ne_mm_from_mm_to : mm_from ≠ mm_to) (ne_mm_from_mm_weight : mm_from ≠ mm_weight) (ne_mm_from_mm_cost : mm_from ≠ mm_cost) (ne_mm_to_mm_weight : mm_to ≠ mm_weight) (ne_mm_to_mm_cost : mm_to ≠ mm_cost) (ne_mm_weight_mm_cost : mm_weight ≠ mm_cost) (ne_nu_col : mm_numbers ≠ mm_column) (ne_di_si : mm_directs ≠ mm_sizes) (ne_di_ma : mm_directs ≠ mm_many) (ne_di_so : mm_directs ≠ mm_sorts) (ne_di_af : mm_directs ≠ af) (ne_di_au : mm_directs ≠ au) (ne_di_aw : mm_directs ≠ aw) (ne_di_ac : mm_directs ≠ ac) (ne_di_mm_from : mm_directs ≠ mm_from) (ne_di_mm_to : mm_directs ≠ mm_to) (ne_di_mm_weight : mm_directs ≠ mm_weight) (ne_di_mm_cost : mm_directs ≠ mm_cost) : Rn (gG D cI cJ cZ cT lo b 7 xs) mL_law d 870 [(0, .ref b), (1, .ref x), (2, .ref y), (3, .int ((nI 0)))] [] hp n kr wr (fun r _ _ => r = some (.int 1)) := by
  refine r_aload_n (pc := 870) dL_law_870 (i := 1) rfl rfl ?_
  refine r_aload_n (pc := 871) dL_law_871 (i := 0) rfl rfl ?_
  refine r_iload_n (pc := 872) dL_law_872 (i := 3) rfl rfl ?_
  refine r_iconst (pc := 873) (v := 1) dL_law_873 (by decide) ?_
  refine r_iadd (pc := 874) (v := (nI 1)) dL_law_874 (by decide) ?_
  refine w_sld (pc := 875) (v := (xs 1)) dL_law_875 (show vp_in (nI 1) 7 from vp_in_nI (by decide) (by decide)) (congrArg xs (nI_clamp (by decide))) ?_
  refine r_aload_n (pc := 876) dL_law_876 (i := 0) rfl rfl ?_
  refine r_iload_n (pc := 877) dL_law_877 (i := 3) rfl rfl ?_
  refine r_iconst (pc := 878) (v := 2) dL_law_878 (by decide) ?_
  refine r_iadd (pc := 879) (v := (nI 2)) dL_law_879 (by decide) ?_
  refine w_sld (pc := 880) (v := (xs 2)) dL_law_880 (show vp_in (nI 2) 7 from vp_in_nI (by decide) (by decide)) (congrArg xs (nI_clamp (by decide))) ?_
  refine r_aload_n (pc := 881) dL_law_881 (i := 0) rfl rfl ?_
  refine r_iload_n (pc := 882) dL_law_882 (i := 3) rfl rfl ?_
  refine r_iconst (pc := 883) (v := 3) dL_law_883 (by decide) ?_
  refine r_iadd (pc := 884) (v := (nI 3)) dL_law_884 (by decide) ?_
  refine w_sld (pc := 885) (v := (xs 3)) dL_law_885 (show vp_in (nI 3) 7 from vp_in_nI (by decide) (by decide)) (congrArg xs (nI_clamp (by decide))) ?_
  refine r_callV (pc := 886) (as := [.int ((xs 1)), .int ((xs 2)), .int ((xs 3))]) (st := []) kL_92 rfl dL_law_886 gc0 (c_X11_way_n (d := d - 1) (x := x) (th := th) (dr := dr) (sk := sk) (sh := sh) (se := se) (pa := pa) (fl := fl) (sa := sa) (cnt := 0) (rf := 0) (p1 := (xs 1)) (p2 := (xs 2)) (p3 := (xs 3)) (by omega) gc0 (no0 (xs 1))) rfl (by omega) (Nat.le_of_ble_eq_true rfl) (by omega) (by omega) rfl (fun r9 hp_1 nn_2 hq_3 => ?_)
  obtain ⟨rfl, hq_3n, h_4, ho_5⟩ := hq_3
  subst nn_2
  change Rn _ _ _ 889 _ [.long 0] _ _ _ _ _
  refine r_aload_n (pc := 889) dL_law_889 (i := 2) rfl rfl ?_
  refine r_aload_n (pc := 890) dL_law_890 (i := 0) rfl rfl ?_
  refine r_iload_n (pc := 891) dL_law_891 (i := 3) rfl rfl ?_
  refine r_iconst (pc := 892) (v := 1) dL_law_892 (by decide) ?_
  refine r_iadd (pc := 893) (v := (nI 1)) dL_law_893 (by decide) ?_
  refine w_sld (pc := 894) (v := (xs 1)) dL_law_894 (show vp_in (nI 1) 7 from vp_in_nI (by decide) (by decide)) (congrArg xs (nI_clamp (by decide))) ?_
  refine r_aload_n (pc := 895) dL_law_895 (i := 0) rfl rfl ?_
  refine r_iload_n (pc := 896) dL_law_896 (i := 3) rfl rfl ?_
  refine r_iconst (pc := 897) (v := 2) dL_law_897 (by decide) ?_
  refine r_iadd (pc := 898) (v := (nI 2)) dL_law_898 (by decide) ?_
  refine w_sld (pc := 899) (v := (xs 2)) dL_law_899 (show vp_in (nI 2) 7 from vp_in_nI (by decide) (by decide)) (congrArg xs (nI_clamp (by decide))) ?_
  refine r_aload_n (pc := 900) dL_law_900 (i := 0) rfl rfl ?_
  refine r_iload_n (pc := 901) dL_law_901 (i := 3) rfl rfl ?_
  refine r_iconst (pc := 902) (v := 3) dL_law_902 (by decide) ?_
  refine r_iadd (pc := 903) (v := (nI 3)) dL_law_903 (by decide) ?_
  refine w_sld (pc := 904) (v := (xs 3)) dL_law_904 (show vp_in (nI 3) 7 from vp_in_nI (by decide) (by decide)) (congrArg xs (nI_clamp (by decide))) ?_
  have h_9 : hp_1 y = some (.inr (11, [.int 0, .int 0, .ref mm_sorts, .ref mm_sizes, .ref mm_directs, .ref mm_many, .ref mm_from, .ref mm_to, .ref mm_weight, .ref mm_cost, .ref mm_numbers, .ref mm_state, .ref mm_worth, .ref mm_long1, .ref mm_howMany, .ref mm_rows, .ref mm_inPart, .ref mm_partCount, .ref mm_nf, .ref mm_nt, .ref mm_nw, .ref mm_nc, .int 0, .ref mm_column, .ref mm_next, .ref mm_inside, .ref mm_beside, .ref mm_solid, .ref mm_below, .ref mm_best, .ref mm_ways1, .ref mm_round, .ref mm_round2, .ref mm_label, .ref mm_bridge, .ref mm_outs, .ref mm_ins, .ref mm_least, .ref mm_spans, .ref mm_joinedWith, .ref mm_gone, .ref mm_dear, .ref mm_by, .ref mm_ahead, .ref mm_image])) := (ho_5 y _ gc7 (ne_c gc7 gc0 (by intro h9; cases h9)))
  refine r_callV (pc := 905) (as := [.int ((xs 1)), .int ((xs 2)), .int ((xs 3))]) (st := [.long 0]) kL_96 rfl dL_law_905 h_9 (c_X12_way_n (d := d - 1) (y := y) (mm_sorts := mm_sorts) (mm_sizes := mm_sizes) (mm_directs := mm_directs) (mm_many := mm_many) (mm_from := mm_from) (mm_to := mm_to) (mm_weight := mm_weight) (mm_cost := mm_cost) (mm_numbers := mm_numbers) (mm_state := mm_state) (mm_worth := mm_worth) (mm_long1 := mm_long1) (mm_howMany := mm_howMany) (mm_rows := mm_rows) (mm_inPart := mm_inPart) (mm_partCount := mm_partCount) (mm_nf := mm_nf) (mm_nt := mm_nt) (mm_nw := mm_nw) (mm_nc := mm_nc) (mm_column := mm_column) (mm_next := mm_next) (mm_inside := mm_inside) (mm_beside := mm_beside) (mm_solid := mm_solid) (mm_below := mm_below) (mm_best := mm_best) (mm_ways1 := mm_ways1) (mm_round := mm_round) (mm_round2 := mm_round2) (mm_label := mm_label) (mm_bridge := mm_bridge) (mm_outs := mm_outs) (mm_ins := mm_ins) (mm_least := mm_least) (mm_spans := mm_spans) (mm_joinedWith := mm_joinedWith) (mm_gone := mm_gone) (mm_dear := mm_dear) (mm_by := mm_by) (mm_ahead := mm_ahead) (mm_image := mm_image) (rf := 0) (cnt := 0) (nm := 0) (p1 := (xs 1)) (p2 := (xs 2)) (p3 := (xs 3)) (by omega) h_9 (no0 (xs 1))) rfl (by omega) (Nat.le_of_ble_eq_true rfl) (by omega) (by omega) rfl (fun r9 hp_6 nn_7 hq_8 => ?_)
  obtain ⟨rfl, hq_8n, h_10, ho_11⟩ := hq_8
  subst nn_7
  change Rn _ _ _ 908 _ [.long 0, .long 0] _ _ _ _ _
  refine r_lcmp (pc := 908) dL_law_908 ?_
  refine r_if_eq (pc := 909) (tgt := 1077) dL_law_909 (by decide) (fun _ => ?_) (fun c9 => absurd (rfl) c9)
  refine Rn.pick (lv' := [(0, .ref b), (1, .ref x), (2, .ref y), (3, .int ((nI 0)))]) [0, 1, 2, 3] rfl ?_
  exact law_end
set_option maxHeartbeats 4000000 in
set_option maxRecDepth 100000 in
theorem law_18 {D : va_G} {cI cJ cZ cT : ClassId} {lo b : Nat} {xs : Nat → Int32} {hp : MH} {n d kr wr : Nat} {x th dr sk sh se pa fl sa af au aw ac al : Nat} {y mm_sorts mm_sizes mm_directs mm_many mm_from mm_to mm_weight mm_cost mm_numbers mm_state mm_worth mm_long1 mm_howMany mm_rows mm_inPart mm_partCount mm_nf mm_nt mm_nw mm_nc mm_column mm_next mm_inside mm_beside mm_solid mm_below mm_best mm_ways1 mm_round mm_round2 mm_label mm_bridge mm_outs mm_ins mm_least mm_spans mm_joinedWith mm_gone mm_dear mm_by mm_ahead mm_image : Nat} (hd0 : 10 ≤ d) (hkr : 20 ≤ kr) (hwr : 300 ≤ wr) (gc0 : hp x = some (.inr (10, [.ref th, .int 0, .int 0, .ref dr, .ref sk, .ref sh, .ref se, .ref pa, .ref fl, .ref sa]))) (gc1 : hp th = some (.inl (cT, 120, .inr (.inr (.inr (.inr (fun _ => none))))))) (gc2 : hp dr = some (.inr (1, [.int 1, .int 0, .int 0, .ref af, .ref au, .ref aw, .ref ac, .ref al]))) (gc3 : hp af = some (.inl (cI, 60, .inl (fun _ => 0)))) (gc4 : hp au = some (.inl (cI, 60, .inl (fun _ => 0)))) (gc5 : hp aw = some (.inl (cI, 60, .inl (fun _ => 0)))) (gc6 : hp ac = some (.inl (cI, 60, .inl (fun _ => 0)))) (gc7 : hp y = some (.inr (11, [.int 0, .int 0, .ref mm_sorts, .ref mm_sizes, .ref mm_directs, .ref mm_many, .ref mm_from, .ref mm_to, .ref mm_weight, .ref mm_cost, .ref mm_numbers, .ref mm_state, .ref mm_worth, .ref mm_long1, .ref mm_howMany, .ref mm_rows, .ref mm_inPart, .ref mm_partCount, .ref mm_nf, .ref mm_nt, .ref mm_nw, .ref mm_nc, .int 0, .ref mm_column, .ref mm_next, .ref mm_inside, .ref mm_beside, .ref mm_solid, .ref mm_below, .ref mm_best, .ref mm_ways1, .ref mm_round, .ref mm_round2, .ref mm_label, .ref mm_bridge, .ref mm_outs, .ref mm_ins, .ref mm_least, .ref mm_spans, .ref mm_joinedWith, .ref mm_gone, .ref mm_dear, .ref mm_by, .ref mm_ahead, .ref mm_image]))) (gc8 : hp mm_sorts = some (.inl (cI, 121, .inl (fun _ => 0)))) (gc9 : hp mm_sizes = some (.inl (cI, 121, .inl (upd (fun _ => 0) 120 1)))) (gc10 : hp mm_directs = some (.inl (cZ, 121, .inl (upd (fun _ => 0) 120 0)))) (gc11 : hp mm_many = some (.inl (cI, 121, .inl (upd (fun _ => 0) 120 0)))) (gc12 : hp mm_from = some (.inl (cI, 7260, .inl (fun _ => 0)))) (gc13 : hp mm_to = some (.inl (cI, 7260, .inl (fun _ => 0)))) (gc14 : hp mm_weight = some (.inl (cI, 7260, .inl (fun _ => 0)))) (gc15 : hp mm_cost = some (.inl (cI, 7260, .inl (fun _ => 0)))) (gc16 : hp mm_numbers = some (.inl (cJ, 1936, .inr (.inl (fun _ => 0))))) (gc17 : hp mm_column = some (.inl (cJ, 16, .inr (.inl (fun _ => 0))))) (ne_af_au : af ≠ au) (ne_af_aw : af ≠ aw) (ne_af_ac : af ≠ ac) (ne_af_mm_sorts : af ≠ mm_sorts) (ne_af_mm_sizes : af ≠ mm_sizes) (ne_af_mm_many : af ≠ mm_many) (ne_af_mm_from : af ≠ mm_from) (ne_af_mm_to : af ≠ mm_to) (ne_af_mm_weight : af ≠ mm_weight) (ne_af_mm_cost : af ≠ mm_cost) (ne_au_aw : au ≠ aw) (ne_au_ac : au ≠ ac) (ne_au_mm_sorts : au ≠ mm_sorts) (ne_au_mm_sizes : au ≠ mm_sizes) (ne_au_mm_many : au ≠ mm_many) (ne_au_mm_from : au ≠ mm_from) (ne_au_mm_to : au ≠ mm_to) (ne_au_mm_weight : au ≠ mm_weight) (ne_au_mm_cost : au ≠ mm_cost) (ne_aw_ac : aw ≠ ac) (ne_aw_mm_sorts : aw ≠ mm_sorts) (ne_aw_mm_sizes : aw ≠ mm_sizes) (ne_aw_mm_many : aw ≠ mm_many) (ne_aw_mm_from : aw ≠ mm_from) (ne_aw_mm_to : aw ≠ mm_to) (ne_aw_mm_weight : aw ≠ mm_weight) (ne_aw_mm_cost : aw ≠ mm_cost) (ne_ac_mm_sorts : ac ≠ mm_sorts) (ne_ac_mm_sizes : ac ≠ mm_sizes) (ne_ac_mm_many : ac ≠ mm_many) (ne_ac_mm_from : ac ≠ mm_from) (ne_ac_mm_to : ac ≠ mm_to) (ne_ac_mm_weight : ac ≠ mm_weight) (ne_ac_mm_cost : ac ≠ mm_cost) (ne_mm_sorts_mm_sizes : mm_sorts ≠ mm_sizes) (ne_mm_sorts_mm_many : mm_sorts ≠ mm_many) (ne_mm_sorts_mm_from : mm_sorts ≠ mm_from) (ne_mm_sorts_mm_to : mm_sorts ≠ mm_to) (ne_mm_sorts_mm_weight : mm_sorts ≠ mm_weight) (ne_mm_sorts_mm_cost : mm_sorts ≠ mm_cost) (ne_mm_sizes_mm_many : mm_sizes ≠ mm_many) (ne_mm_sizes_mm_from : mm_sizes ≠ mm_from) (ne_mm_sizes_mm_to : mm_sizes ≠ mm_to) (ne_mm_sizes_mm_weight : mm_sizes ≠ mm_weight) (ne_mm_sizes_mm_cost : mm_sizes ≠ mm_cost) (ne_mm_many_mm_from : mm_many ≠ mm_from) (ne_mm_many_mm_to : mm_many ≠ mm_to) (ne_mm_many_mm_weight : mm_many ≠ mm_weight) (ne_mm_many_mm_cost : mm_many ≠ mm_cost) (ne_mm_from_mm_to : mm_from ≠ mm_to) (ne_mm_from_mm_weight : mm_from ≠ mm_weight) (ne_mm_from_mm_cost : mm_from ≠ mm_cost) (ne_mm_to_mm_weight : mm_to ≠ mm_weight) (ne_mm_to_mm_cost : mm_to ≠ mm_cost) (ne_mm_weight_mm_cost : mm_weight ≠ mm_cost) (ne_nu_col : mm_numbers ≠ mm_column) (ne_di_si : mm_directs ≠ mm_sizes) (ne_di_ma : mm_directs ≠ mm_many) (ne_di_so : mm_directs ≠ mm_sorts) (ne_di_af : mm_directs ≠ af) (ne_di_au : mm_directs ≠ au) (ne_di_aw : mm_directs ≠ aw) (ne_di_ac : mm_directs ≠ ac) (ne_di_mm_from : mm_directs ≠ mm_from) (ne_di_mm_to : mm_directs ≠ mm_to) (ne_di_mm_weight : mm_directs ≠ mm_weight) (ne_di_mm_cost : mm_directs ≠ mm_cost) : Rn (gG D cI cJ cZ cT lo b 7 xs) mL_law d 914 [(0, .ref b), (1, .ref x), (2, .ref y), (3, .int ((nI 0)))] [] hp n kr wr (fun r _ _ => r = some (.int 1)) := by
  refine r_aload_n (pc := 914) dL_law_914 (i := 1) rfl rfl ?_
  refine r_aload_n (pc := 915) dL_law_915 (i := 0) rfl rfl ?_
  refine r_iload_n (pc := 916) dL_law_916 (i := 3) rfl rfl ?_
  refine r_iconst (pc := 917) (v := 1) dL_law_917 (by decide) ?_
  refine r_iadd (pc := 918) (v := (nI 1)) dL_law_918 (by decide) ?_
  refine w_sld (pc := 919) (v := (xs 1)) dL_law_919 (show vp_in (nI 1) 7 from vp_in_nI (by decide) (by decide)) (congrArg xs (nI_clamp (by decide))) ?_
  refine r_aload_n (pc := 920) dL_law_920 (i := 0) rfl rfl ?_
  refine r_iload_n (pc := 921) dL_law_921 (i := 3) rfl rfl ?_
  refine r_iconst (pc := 922) (v := 2) dL_law_922 (by decide) ?_
  refine r_iadd (pc := 923) (v := (nI 2)) dL_law_923 (by decide) ?_
  refine w_sld (pc := 924) (v := (xs 2)) dL_law_924 (show vp_in (nI 2) 7 from vp_in_nI (by decide) (by decide)) (congrArg xs (nI_clamp (by decide))) ?_
  refine r_aload_n (pc := 925) dL_law_925 (i := 0) rfl rfl ?_
  refine r_iload_n (pc := 926) dL_law_926 (i := 3) rfl rfl ?_
  refine r_iconst (pc := 927) (v := 3) dL_law_927 (by decide) ?_
  refine r_iadd (pc := 928) (v := (nI 3)) dL_law_928 (by decide) ?_
  refine w_sld (pc := 929) (v := (xs 3)) dL_law_929 (show vp_in (nI 3) 7 from vp_in_nI (by decide) (by decide)) (congrArg xs (nI_clamp (by decide))) ?_
  refine r_callV (pc := 930) (as := [.int ((xs 1)), .int ((xs 2)), .int ((xs 3))]) (st := []) kL_97 rfl dL_law_930 gc0 (c_X11_step_n (d := d - 1) (x := x) (th := th) (dr := dr) (sk := sk) (sh := sh) (se := se) (pa := pa) (fl := fl) (sa := sa) (cnt := 0) (rf := 0) (p1 := (xs 1)) (p2 := (xs 2)) (p3 := (xs 3)) (by omega) gc0 (no0 (xs 1))) rfl (by omega) (Nat.le_of_ble_eq_true rfl) (by omega) (by omega) rfl (fun r9 hp_1 nn_2 hq_3 => ?_)
  obtain ⟨rfl, hq_3n, h_4, ho_5⟩ := hq_3
  subst nn_2
  change Rn _ _ _ 933 _ [.int 0] _ _ _ _ _
  refine r_aload_n (pc := 933) dL_law_933 (i := 2) rfl rfl ?_
  refine r_aload_n (pc := 934) dL_law_934 (i := 0) rfl rfl ?_
  refine r_iload_n (pc := 935) dL_law_935 (i := 3) rfl rfl ?_
  refine r_iconst (pc := 936) (v := 1) dL_law_936 (by decide) ?_
  refine r_iadd (pc := 937) (v := (nI 1)) dL_law_937 (by decide) ?_
  refine w_sld (pc := 938) (v := (xs 1)) dL_law_938 (show vp_in (nI 1) 7 from vp_in_nI (by decide) (by decide)) (congrArg xs (nI_clamp (by decide))) ?_
  refine r_aload_n (pc := 939) dL_law_939 (i := 0) rfl rfl ?_
  refine r_iload_n (pc := 940) dL_law_940 (i := 3) rfl rfl ?_
  refine r_iconst (pc := 941) (v := 2) dL_law_941 (by decide) ?_
  refine r_iadd (pc := 942) (v := (nI 2)) dL_law_942 (by decide) ?_
  refine w_sld (pc := 943) (v := (xs 2)) dL_law_943 (show vp_in (nI 2) 7 from vp_in_nI (by decide) (by decide)) (congrArg xs (nI_clamp (by decide))) ?_
  refine r_aload_n (pc := 944) dL_law_944 (i := 0) rfl rfl ?_
  refine r_iload_n (pc := 945) dL_law_945 (i := 3) rfl rfl ?_
  refine r_iconst (pc := 946) (v := 3) dL_law_946 (by decide) ?_
  refine r_iadd (pc := 947) (v := (nI 3)) dL_law_947 (by decide) ?_
  refine w_sld (pc := 948) (v := (xs 3)) dL_law_948 (show vp_in (nI 3) 7 from vp_in_nI (by decide) (by decide)) (congrArg xs (nI_clamp (by decide))) ?_
  have h_9 : hp_1 y = some (.inr (11, [.int 0, .int 0, .ref mm_sorts, .ref mm_sizes, .ref mm_directs, .ref mm_many, .ref mm_from, .ref mm_to, .ref mm_weight, .ref mm_cost, .ref mm_numbers, .ref mm_state, .ref mm_worth, .ref mm_long1, .ref mm_howMany, .ref mm_rows, .ref mm_inPart, .ref mm_partCount, .ref mm_nf, .ref mm_nt, .ref mm_nw, .ref mm_nc, .int 0, .ref mm_column, .ref mm_next, .ref mm_inside, .ref mm_beside, .ref mm_solid, .ref mm_below, .ref mm_best, .ref mm_ways1, .ref mm_round, .ref mm_round2, .ref mm_label, .ref mm_bridge, .ref mm_outs, .ref mm_ins, .ref mm_least, .ref mm_spans, .ref mm_joinedWith, .ref mm_gone, .ref mm_dear, .ref mm_by, .ref mm_ahead, .ref mm_image])) := (ho_5 y _ gc7 (ne_c gc7 gc0 (by intro h9; cases h9)))
  refine r_callV (pc := 949) (as := [.int ((xs 1)), .int ((xs 2)), .int ((xs 3))]) (st := [.int 0]) kL_100 rfl dL_law_949 h_9 (c_X12_step_n (d := d - 1) (y := y) (mm_sorts := mm_sorts) (mm_sizes := mm_sizes) (mm_directs := mm_directs) (mm_many := mm_many) (mm_from := mm_from) (mm_to := mm_to) (mm_weight := mm_weight) (mm_cost := mm_cost) (mm_numbers := mm_numbers) (mm_state := mm_state) (mm_worth := mm_worth) (mm_long1 := mm_long1) (mm_howMany := mm_howMany) (mm_rows := mm_rows) (mm_inPart := mm_inPart) (mm_partCount := mm_partCount) (mm_nf := mm_nf) (mm_nt := mm_nt) (mm_nw := mm_nw) (mm_nc := mm_nc) (mm_column := mm_column) (mm_next := mm_next) (mm_inside := mm_inside) (mm_beside := mm_beside) (mm_solid := mm_solid) (mm_below := mm_below) (mm_best := mm_best) (mm_ways1 := mm_ways1) (mm_round := mm_round) (mm_round2 := mm_round2) (mm_label := mm_label) (mm_bridge := mm_bridge) (mm_outs := mm_outs) (mm_ins := mm_ins) (mm_least := mm_least) (mm_spans := mm_spans) (mm_joinedWith := mm_joinedWith) (mm_gone := mm_gone) (mm_dear := mm_dear) (mm_by := mm_by) (mm_ahead := mm_ahead) (mm_image := mm_image) (rf := 0) (cnt := 0) (nm := 0) (p1 := (xs 1)) (p2 := (xs 2)) (p3 := (xs 3)) (by omega) h_9 (no0 (xs 1))) rfl (by omega) (Nat.le_of_ble_eq_true rfl) (by omega) (by omega) rfl (fun r9 hp_6 nn_7 hq_8 => ?_)
  obtain ⟨rfl, hq_8n, h_10, ho_11⟩ := hq_8
  subst nn_7
  change Rn _ _ _ 952 _ [.int 0, .int 0] _ _ _ _ _
  refine r_icmp_eq (pc := 952) (tgt := 1077) dL_law_952 (by decide) (fun _ => ?_) (fun c9 => absurd (rfl) c9)
  refine Rn.pick (lv' := [(0, .ref b), (1, .ref x), (2, .ref y), (3, .int ((nI 0)))]) [0, 1, 2, 3] rfl ?_
  exact law_end
set_option maxHeartbeats 4000000 in
set_option maxRecDepth 100000 in
theorem law_19 {D : va_G} {cI cJ cZ cT : ClassId} {lo b : Nat} {xs : Nat → Int32} {hp : MH} {n d kr wr : Nat} {x th dr sk sh se pa fl sa af au aw ac al : Nat} {y mm_sorts mm_sizes mm_directs mm_many mm_from mm_to mm_weight mm_cost mm_numbers mm_state mm_worth mm_long1 mm_howMany mm_rows mm_inPart mm_partCount mm_nf mm_nt mm_nw mm_nc mm_column mm_next mm_inside mm_beside mm_solid mm_below mm_best mm_ways1 mm_round mm_round2 mm_label mm_bridge mm_outs mm_ins mm_least mm_spans mm_joinedWith mm_gone mm_dear mm_by mm_ahead mm_image : Nat} (hd0 : 10 ≤ d) (hkr : 20 ≤ kr) (hwr : 300 ≤ wr) (gc0 : hp x = some (.inr (10, [.ref th, .int 0, .int 0, .ref dr, .ref sk, .ref sh, .ref se, .ref pa, .ref fl, .ref sa]))) (gc1 : hp th = some (.inl (cT, 120, .inr (.inr (.inr (.inr (fun _ => none))))))) (gc2 : hp dr = some (.inr (1, [.int 1, .int 0, .int 0, .ref af, .ref au, .ref aw, .ref ac, .ref al]))) (gc3 : hp af = some (.inl (cI, 60, .inl (fun _ => 0)))) (gc4 : hp au = some (.inl (cI, 60, .inl (fun _ => 0)))) (gc5 : hp aw = some (.inl (cI, 60, .inl (fun _ => 0)))) (gc6 : hp ac = some (.inl (cI, 60, .inl (fun _ => 0)))) (gc7 : hp y = some (.inr (11, [.int 0, .int 0, .ref mm_sorts, .ref mm_sizes, .ref mm_directs, .ref mm_many, .ref mm_from, .ref mm_to, .ref mm_weight, .ref mm_cost, .ref mm_numbers, .ref mm_state, .ref mm_worth, .ref mm_long1, .ref mm_howMany, .ref mm_rows, .ref mm_inPart, .ref mm_partCount, .ref mm_nf, .ref mm_nt, .ref mm_nw, .ref mm_nc, .int 0, .ref mm_column, .ref mm_next, .ref mm_inside, .ref mm_beside, .ref mm_solid, .ref mm_below, .ref mm_best, .ref mm_ways1, .ref mm_round, .ref mm_round2, .ref mm_label, .ref mm_bridge, .ref mm_outs, .ref mm_ins, .ref mm_least, .ref mm_spans, .ref mm_joinedWith, .ref mm_gone, .ref mm_dear, .ref mm_by, .ref mm_ahead, .ref mm_image]))) (gc8 : hp mm_sorts = some (.inl (cI, 121, .inl (fun _ => 0)))) (gc9 : hp mm_sizes = some (.inl (cI, 121, .inl (upd (fun _ => 0) 120 1)))) (gc10 : hp mm_directs = some (.inl (cZ, 121, .inl (upd (fun _ => 0) 120 0)))) (gc11 : hp mm_many = some (.inl (cI, 121, .inl (upd (fun _ => 0) 120 0)))) (gc12 : hp mm_from = some (.inl (cI, 7260, .inl (fun _ => 0)))) (gc13 : hp mm_to = some (.inl (cI, 7260, .inl (fun _ => 0)))) (gc14 : hp mm_weight = some (.inl (cI, 7260, .inl (fun _ => 0)))) (gc15 : hp mm_cost = some (.inl (cI, 7260, .inl (fun _ => 0)))) (gc16 : hp mm_numbers = some (.inl (cJ, 1936, .inr (.inl (fun _ => 0))))) (gc17 : hp mm_column = some (.inl (cJ, 16, .inr (.inl (fun _ => 0))))) (ne_af_au : af ≠ au) (ne_af_aw : af ≠ aw) (ne_af_ac : af ≠ ac) (ne_af_mm_sorts : af ≠ mm_sorts) (ne_af_mm_sizes : af ≠ mm_sizes) (ne_af_mm_many : af ≠ mm_many) (ne_af_mm_from : af ≠ mm_from) (ne_af_mm_to : af ≠ mm_to) (ne_af_mm_weight : af ≠ mm_weight) (ne_af_mm_cost : af ≠ mm_cost) (ne_au_aw : au ≠ aw) (ne_au_ac : au ≠ ac) (ne_au_mm_sorts : au ≠ mm_sorts) (ne_au_mm_sizes : au ≠ mm_sizes) (ne_au_mm_many : au ≠ mm_many) (ne_au_mm_from : au ≠ mm_from) (ne_au_mm_to : au ≠ mm_to) (ne_au_mm_weight : au ≠ mm_weight) (ne_au_mm_cost : au ≠ mm_cost) (ne_aw_ac : aw ≠ ac) (ne_aw_mm_sorts : aw ≠ mm_sorts) (ne_aw_mm_sizes : aw ≠ mm_sizes) (ne_aw_mm_many : aw ≠ mm_many) (ne_aw_mm_from : aw ≠ mm_from) (ne_aw_mm_to : aw ≠ mm_to) (ne_aw_mm_weight : aw ≠ mm_weight) (ne_aw_mm_cost : aw ≠ mm_cost) (ne_ac_mm_sorts : ac ≠ mm_sorts) (ne_ac_mm_sizes : ac ≠ mm_sizes) (ne_ac_mm_many : ac ≠ mm_many) (ne_ac_mm_from : ac ≠ mm_from) (ne_ac_mm_to : ac ≠ mm_to) (ne_ac_mm_weight : ac ≠ mm_weight) (ne_ac_mm_cost : ac ≠ mm_cost) (ne_mm_sorts_mm_sizes : mm_sorts ≠ mm_sizes) (ne_mm_sorts_mm_many : mm_sorts ≠ mm_many) (ne_mm_sorts_mm_from : mm_sorts ≠ mm_from) (ne_mm_sorts_mm_to : mm_sorts ≠ mm_to) (ne_mm_sorts_mm_weight : mm_sorts ≠ mm_weight) (ne_mm_sorts_mm_cost : mm_sorts ≠ mm_cost) (ne_mm_sizes_mm_many : mm_sizes ≠ mm_many) (ne_mm_sizes_mm_from : mm_sizes ≠ mm_from) (ne_mm_sizes_mm_to : mm_sizes ≠ mm_to) (ne_mm_sizes_mm_weight : mm_sizes ≠ mm_weight) (ne_mm_sizes_mm_cost : mm_sizes ≠ mm_cost) (ne_mm_many_mm_from : mm_many ≠ mm_from) (ne_mm_many_mm_to : mm_many ≠ mm_to) (ne_mm_many_mm_weight : mm_many ≠ mm_weight) (ne_mm_many_mm_cost : mm_many ≠ mm_cost) (ne_mm_from_mm_to : mm_from ≠ mm_to) (ne_mm_from_mm_weight : mm_from ≠ mm_weight) (ne_mm_from_mm_cost : mm_from ≠ mm_cost) (ne_mm_to_mm_weight : mm_to ≠ mm_weight) (ne_mm_to_mm_cost : mm_to ≠ mm_cost) (ne_mm_weight_mm_cost : mm_weight ≠ mm_cost) (ne_nu_col : mm_numbers ≠ mm_column) (ne_di_si : mm_directs ≠ mm_sizes) (ne_di_ma : mm_directs ≠ mm_many) (ne_di_so : mm_directs ≠ mm_sorts) (ne_di_af : mm_directs ≠ af) (ne_di_au : mm_directs ≠ au) (ne_di_aw : mm_directs ≠ aw) (ne_di_ac : mm_directs ≠ ac) (ne_di_mm_from : mm_directs ≠ mm_from) (ne_di_mm_to : mm_directs ≠ mm_to) (ne_di_mm_weight : mm_directs ≠ mm_weight) (ne_di_mm_cost : mm_directs ≠ mm_cost) : Rn (gG D cI cJ cZ cT lo b 7 xs) mL_law d 957 [(0, .ref b), (1, .ref x), (2, .ref y), (3, .int ((nI 0)))] [] hp n kr wr (fun r _ _ => r = some (.int 1)) := by
  refine r_aload_n (pc := 957) dL_law_957 (i := 1) rfl rfl ?_
  refine r_aload_n (pc := 958) dL_law_958 (i := 0) rfl rfl ?_
  refine r_iload_n (pc := 959) dL_law_959 (i := 3) rfl rfl ?_
  refine r_iconst (pc := 960) (v := 1) dL_law_960 (by decide) ?_
  refine r_iadd (pc := 961) (v := (nI 1)) dL_law_961 (by decide) ?_
  refine w_sld (pc := 962) (v := (xs 1)) dL_law_962 (show vp_in (nI 1) 7 from vp_in_nI (by decide) (by decide)) (congrArg xs (nI_clamp (by decide))) ?_
  refine r_aload_n (pc := 963) dL_law_963 (i := 0) rfl rfl ?_
  refine r_iload_n (pc := 964) dL_law_964 (i := 3) rfl rfl ?_
  refine r_iconst (pc := 965) (v := 2) dL_law_965 (by decide) ?_
  refine r_iadd (pc := 966) (v := (nI 2)) dL_law_966 (by decide) ?_
  refine w_sld (pc := 967) (v := (xs 2)) dL_law_967 (show vp_in (nI 2) 7 from vp_in_nI (by decide) (by decide)) (congrArg xs (nI_clamp (by decide))) ?_
  refine r_callV (pc := 968) (as := [.int ((xs 1)), .int ((xs 2))]) (st := []) kL_101 rfl dL_law_968 gc0 (c_X11_part_n (d := d - 1) (x := x) (th := th) (dr := dr) (sk := sk) (sh := sh) (se := se) (pa := pa) (fl := fl) (sa := sa) (cnt := 0) (rf := 0) (p1 := (xs 1)) (p2 := (xs 2)) (by omega) gc0 (no0 (xs 1))) rfl (by omega) (Nat.le_of_ble_eq_true rfl) (by omega) (by omega) rfl (fun r9 hp_1 nn_2 hq_3 => ?_)
  obtain ⟨rfl, hq_3n, h_4, ho_5⟩ := hq_3
  subst nn_2
  change Rn _ _ _ 971 _ [.int 0] _ _ _ _ _
  refine r_aload_n (pc := 971) dL_law_971 (i := 2) rfl rfl ?_
  refine r_aload_n (pc := 972) dL_law_972 (i := 0) rfl rfl ?_
  refine r_iload_n (pc := 973) dL_law_973 (i := 3) rfl rfl ?_
  refine r_iconst (pc := 974) (v := 1) dL_law_974 (by decide) ?_
  refine r_iadd (pc := 975) (v := (nI 1)) dL_law_975 (by decide) ?_
  refine w_sld (pc := 976) (v := (xs 1)) dL_law_976 (show vp_in (nI 1) 7 from vp_in_nI (by decide) (by decide)) (congrArg xs (nI_clamp (by decide))) ?_
  refine r_aload_n (pc := 977) dL_law_977 (i := 0) rfl rfl ?_
  refine r_iload_n (pc := 978) dL_law_978 (i := 3) rfl rfl ?_
  refine r_iconst (pc := 979) (v := 2) dL_law_979 (by decide) ?_
  refine r_iadd (pc := 980) (v := (nI 2)) dL_law_980 (by decide) ?_
  refine w_sld (pc := 981) (v := (xs 2)) dL_law_981 (show vp_in (nI 2) 7 from vp_in_nI (by decide) (by decide)) (congrArg xs (nI_clamp (by decide))) ?_
  have h_9 : hp_1 y = some (.inr (11, [.int 0, .int 0, .ref mm_sorts, .ref mm_sizes, .ref mm_directs, .ref mm_many, .ref mm_from, .ref mm_to, .ref mm_weight, .ref mm_cost, .ref mm_numbers, .ref mm_state, .ref mm_worth, .ref mm_long1, .ref mm_howMany, .ref mm_rows, .ref mm_inPart, .ref mm_partCount, .ref mm_nf, .ref mm_nt, .ref mm_nw, .ref mm_nc, .int 0, .ref mm_column, .ref mm_next, .ref mm_inside, .ref mm_beside, .ref mm_solid, .ref mm_below, .ref mm_best, .ref mm_ways1, .ref mm_round, .ref mm_round2, .ref mm_label, .ref mm_bridge, .ref mm_outs, .ref mm_ins, .ref mm_least, .ref mm_spans, .ref mm_joinedWith, .ref mm_gone, .ref mm_dear, .ref mm_by, .ref mm_ahead, .ref mm_image])) := (ho_5 y _ gc7 (ne_c gc7 gc0 (by intro h9; cases h9)))
  refine r_callV (pc := 982) (as := [.int ((xs 1)), .int ((xs 2))]) (st := [.int 0]) kL_105 rfl dL_law_982 h_9 (c_X12_part_n (d := d - 1) (y := y) (mm_sorts := mm_sorts) (mm_sizes := mm_sizes) (mm_directs := mm_directs) (mm_many := mm_many) (mm_from := mm_from) (mm_to := mm_to) (mm_weight := mm_weight) (mm_cost := mm_cost) (mm_numbers := mm_numbers) (mm_state := mm_state) (mm_worth := mm_worth) (mm_long1 := mm_long1) (mm_howMany := mm_howMany) (mm_rows := mm_rows) (mm_inPart := mm_inPart) (mm_partCount := mm_partCount) (mm_nf := mm_nf) (mm_nt := mm_nt) (mm_nw := mm_nw) (mm_nc := mm_nc) (mm_column := mm_column) (mm_next := mm_next) (mm_inside := mm_inside) (mm_beside := mm_beside) (mm_solid := mm_solid) (mm_below := mm_below) (mm_best := mm_best) (mm_ways1 := mm_ways1) (mm_round := mm_round) (mm_round2 := mm_round2) (mm_label := mm_label) (mm_bridge := mm_bridge) (mm_outs := mm_outs) (mm_ins := mm_ins) (mm_least := mm_least) (mm_spans := mm_spans) (mm_joinedWith := mm_joinedWith) (mm_gone := mm_gone) (mm_dear := mm_dear) (mm_by := mm_by) (mm_ahead := mm_ahead) (mm_image := mm_image) (rf := 0) (cnt := 0) (nm := 0) (p1 := (xs 1)) (p2 := (xs 2)) (by omega) h_9 (no0 (xs 1))) rfl (by omega) (Nat.le_of_ble_eq_true rfl) (by omega) (by omega) rfl (fun r9 hp_6 nn_7 hq_8 => ?_)
  obtain ⟨rfl, hq_8n, h_10, ho_11⟩ := hq_8
  subst nn_7
  change Rn _ _ _ 985 _ [.int 0, .int 0] _ _ _ _ _
  refine r_icmp_eq (pc := 985) (tgt := 1077) dL_law_985 (by decide) (fun _ => ?_) (fun c9 => absurd (rfl) c9)
  refine Rn.pick (lv' := [(0, .ref b), (1, .ref x), (2, .ref y), (3, .int ((nI 0)))]) [0, 1, 2, 3] rfl ?_
  exact law_end
set_option maxHeartbeats 4000000 in
set_option maxRecDepth 100000 in
theorem law_20 {D : va_G} {cI cJ cZ cT : ClassId} {lo b : Nat} {xs : Nat → Int32} {hp : MH} {n d kr wr : Nat} {x th dr sk sh se pa fl sa af au aw ac al : Nat} {y mm_sorts mm_sizes mm_directs mm_many mm_from mm_to mm_weight mm_cost mm_numbers mm_state mm_worth mm_long1 mm_howMany mm_rows mm_inPart mm_partCount mm_nf mm_nt mm_nw mm_nc mm_column mm_next mm_inside mm_beside mm_solid mm_below mm_best mm_ways1 mm_round mm_round2 mm_label mm_bridge mm_outs mm_ins mm_least mm_spans mm_joinedWith mm_gone mm_dear mm_by mm_ahead mm_image : Nat} (hd0 : 10 ≤ d) (hkr : 20 ≤ kr) (hwr : 300 ≤ wr) (gc0 : hp x = some (.inr (10, [.ref th, .int 0, .int 0, .ref dr, .ref sk, .ref sh, .ref se, .ref pa, .ref fl, .ref sa]))) (gc1 : hp th = some (.inl (cT, 120, .inr (.inr (.inr (.inr (fun _ => none))))))) (gc2 : hp dr = some (.inr (1, [.int 1, .int 0, .int 0, .ref af, .ref au, .ref aw, .ref ac, .ref al]))) (gc3 : hp af = some (.inl (cI, 60, .inl (fun _ => 0)))) (gc4 : hp au = some (.inl (cI, 60, .inl (fun _ => 0)))) (gc5 : hp aw = some (.inl (cI, 60, .inl (fun _ => 0)))) (gc6 : hp ac = some (.inl (cI, 60, .inl (fun _ => 0)))) (gc7 : hp y = some (.inr (11, [.int 0, .int 0, .ref mm_sorts, .ref mm_sizes, .ref mm_directs, .ref mm_many, .ref mm_from, .ref mm_to, .ref mm_weight, .ref mm_cost, .ref mm_numbers, .ref mm_state, .ref mm_worth, .ref mm_long1, .ref mm_howMany, .ref mm_rows, .ref mm_inPart, .ref mm_partCount, .ref mm_nf, .ref mm_nt, .ref mm_nw, .ref mm_nc, .int 0, .ref mm_column, .ref mm_next, .ref mm_inside, .ref mm_beside, .ref mm_solid, .ref mm_below, .ref mm_best, .ref mm_ways1, .ref mm_round, .ref mm_round2, .ref mm_label, .ref mm_bridge, .ref mm_outs, .ref mm_ins, .ref mm_least, .ref mm_spans, .ref mm_joinedWith, .ref mm_gone, .ref mm_dear, .ref mm_by, .ref mm_ahead, .ref mm_image]))) (gc8 : hp mm_sorts = some (.inl (cI, 121, .inl (fun _ => 0)))) (gc9 : hp mm_sizes = some (.inl (cI, 121, .inl (upd (fun _ => 0) 120 1)))) (gc10 : hp mm_directs = some (.inl (cZ, 121, .inl (upd (fun _ => 0) 120 0)))) (gc11 : hp mm_many = some (.inl (cI, 121, .inl (upd (fun _ => 0) 120 0)))) (gc12 : hp mm_from = some (.inl (cI, 7260, .inl (fun _ => 0)))) (gc13 : hp mm_to = some (.inl (cI, 7260, .inl (fun _ => 0)))) (gc14 : hp mm_weight = some (.inl (cI, 7260, .inl (fun _ => 0)))) (gc15 : hp mm_cost = some (.inl (cI, 7260, .inl (fun _ => 0)))) (gc16 : hp mm_numbers = some (.inl (cJ, 1936, .inr (.inl (fun _ => 0))))) (gc17 : hp mm_column = some (.inl (cJ, 16, .inr (.inl (fun _ => 0))))) (ne_af_au : af ≠ au) (ne_af_aw : af ≠ aw) (ne_af_ac : af ≠ ac) (ne_af_mm_sorts : af ≠ mm_sorts) (ne_af_mm_sizes : af ≠ mm_sizes) (ne_af_mm_many : af ≠ mm_many) (ne_af_mm_from : af ≠ mm_from) (ne_af_mm_to : af ≠ mm_to) (ne_af_mm_weight : af ≠ mm_weight) (ne_af_mm_cost : af ≠ mm_cost) (ne_au_aw : au ≠ aw) (ne_au_ac : au ≠ ac) (ne_au_mm_sorts : au ≠ mm_sorts) (ne_au_mm_sizes : au ≠ mm_sizes) (ne_au_mm_many : au ≠ mm_many) (ne_au_mm_from : au ≠ mm_from) (ne_au_mm_to : au ≠ mm_to) (ne_au_mm_weight : au ≠ mm_weight) (ne_au_mm_cost : au ≠ mm_cost) (ne_aw_ac : aw ≠ ac) (ne_aw_mm_sorts : aw ≠ mm_sorts) (ne_aw_mm_sizes : aw ≠ mm_sizes) (ne_aw_mm_many : aw ≠ mm_many) (ne_aw_mm_from : aw ≠ mm_from) (ne_aw_mm_to : aw ≠ mm_to) (ne_aw_mm_weight : aw ≠ mm_weight) (ne_aw_mm_cost : aw ≠ mm_cost) (ne_ac_mm_sorts : ac ≠ mm_sorts) (ne_ac_mm_sizes : ac ≠ mm_sizes) (ne_ac_mm_many : ac ≠ mm_many) (ne_ac_mm_from : ac ≠ mm_from) (ne_ac_mm_to : ac ≠ mm_to) (ne_ac_mm_weight : ac ≠ mm_weight) (ne_ac_mm_cost : ac ≠ mm_cost) (ne_mm_sorts_mm_sizes : mm_sorts ≠ mm_sizes) (ne_mm_sorts_mm_many : mm_sorts ≠ mm_many) (ne_mm_sorts_mm_from : mm_sorts ≠ mm_from) (ne_mm_sorts_mm_to : mm_sorts ≠ mm_to) (ne_mm_sorts_mm_weight : mm_sorts ≠ mm_weight) (ne_mm_sorts_mm_cost : mm_sorts ≠ mm_cost) (ne_mm_sizes_mm_many : mm_sizes ≠ mm_many) (ne_mm_sizes_mm_from : mm_sizes ≠ mm_from) (ne_mm_sizes_mm_to : mm_sizes ≠ mm_to) (ne_mm_sizes_mm_weight : mm_sizes ≠ mm_weight) (ne_mm_sizes_mm_cost : mm_sizes ≠ mm_cost) (ne_mm_many_mm_from : mm_many ≠ mm_from) (ne_mm_many_mm_to : mm_many ≠ mm_to) (ne_mm_many_mm_weight : mm_many ≠ mm_weight) (ne_mm_many_mm_cost : mm_many ≠ mm_cost) (ne_mm_from_mm_to : mm_from ≠ mm_to) (ne_mm_from_mm_weight : mm_from ≠ mm_weight) (ne_mm_from_mm_cost : mm_from ≠ mm_cost) (ne_mm_to_mm_weight : mm_to ≠ mm_weight) (ne_mm_to_mm_cost : mm_to ≠ mm_cost) (ne_mm_weight_mm_cost : mm_weight ≠ mm_cost) (ne_nu_col : mm_numbers ≠ mm_column) (ne_di_si : mm_directs ≠ mm_sizes) (ne_di_ma : mm_directs ≠ mm_many) (ne_di_so : mm_directs ≠ mm_sorts) (ne_di_af : mm_directs ≠ af) (ne_di_au : mm_directs ≠ au) (ne_di_aw : mm_directs ≠ aw) (ne_di_ac : mm_directs ≠ ac) (ne_di_mm_from : mm_directs ≠ mm_from) (ne_di_mm_to : mm_directs ≠ mm_to) (ne_di_mm_weight : mm_directs ≠ mm_weight) (ne_di_mm_cost : mm_directs ≠ mm_cost) : Rn (gG D cI cJ cZ cT lo b 7 xs) mL_law d 990 [(0, .ref b), (1, .ref x), (2, .ref y), (3, .int ((nI 0)))] [] hp n kr wr (fun r _ _ => r = some (.int 1)) := by
  refine r_aload_n (pc := 990) dL_law_990 (i := 1) rfl rfl ?_
  refine r_aload_n (pc := 991) dL_law_991 (i := 0) rfl rfl ?_
  refine r_iload_n (pc := 992) dL_law_992 (i := 3) rfl rfl ?_
  refine r_iconst (pc := 993) (v := 1) dL_law_993 (by decide) ?_
  refine r_iadd (pc := 994) (v := (nI 1)) dL_law_994 (by decide) ?_
  refine w_sld (pc := 995) (v := (xs 1)) dL_law_995 (show vp_in (nI 1) 7 from vp_in_nI (by decide) (by decide)) (congrArg xs (nI_clamp (by decide))) ?_
  refine r_aload_n (pc := 996) dL_law_996 (i := 0) rfl rfl ?_
  refine r_iload_n (pc := 997) dL_law_997 (i := 3) rfl rfl ?_
  refine r_iconst (pc := 998) (v := 2) dL_law_998 (by decide) ?_
  refine r_iadd (pc := 999) (v := (nI 2)) dL_law_999 (by decide) ?_
  refine w_sld (pc := 1000) (v := (xs 2)) dL_law_1000 (show vp_in (nI 2) 7 from vp_in_nI (by decide) (by decide)) (congrArg xs (nI_clamp (by decide))) ?_
  refine r_callV (pc := 1001) (as := [.int ((xs 1)), .int ((xs 2))]) (st := []) kL_106 rfl dL_law_1001 gc0 (c_X11_members_n (d := d - 1) (x := x) (th := th) (dr := dr) (sk := sk) (sh := sh) (se := se) (pa := pa) (fl := fl) (sa := sa) (cnt := 0) (rf := 0) (p1 := (xs 1)) (p2 := (xs 2)) (by omega) gc0 (no0 (xs 1))) rfl (by omega) (Nat.le_of_ble_eq_true rfl) (by omega) (by omega) rfl (fun r9 hp_1 nn_2 hq_3 => ?_)
  obtain ⟨rfl, hq_3n, h_4, ho_5⟩ := hq_3
  subst nn_2
  change Rn _ _ _ 1004 _ [.int 0] _ _ _ _ _
  refine r_aload_n (pc := 1004) dL_law_1004 (i := 2) rfl rfl ?_
  refine r_aload_n (pc := 1005) dL_law_1005 (i := 0) rfl rfl ?_
  refine r_iload_n (pc := 1006) dL_law_1006 (i := 3) rfl rfl ?_
  refine r_iconst (pc := 1007) (v := 1) dL_law_1007 (by decide) ?_
  refine r_iadd (pc := 1008) (v := (nI 1)) dL_law_1008 (by decide) ?_
  refine w_sld (pc := 1009) (v := (xs 1)) dL_law_1009 (show vp_in (nI 1) 7 from vp_in_nI (by decide) (by decide)) (congrArg xs (nI_clamp (by decide))) ?_
  refine r_aload_n (pc := 1010) dL_law_1010 (i := 0) rfl rfl ?_
  refine r_iload_n (pc := 1011) dL_law_1011 (i := 3) rfl rfl ?_
  refine r_iconst (pc := 1012) (v := 2) dL_law_1012 (by decide) ?_
  refine r_iadd (pc := 1013) (v := (nI 2)) dL_law_1013 (by decide) ?_
  refine w_sld (pc := 1014) (v := (xs 2)) dL_law_1014 (show vp_in (nI 2) 7 from vp_in_nI (by decide) (by decide)) (congrArg xs (nI_clamp (by decide))) ?_
  have h_9 : hp_1 y = some (.inr (11, [.int 0, .int 0, .ref mm_sorts, .ref mm_sizes, .ref mm_directs, .ref mm_many, .ref mm_from, .ref mm_to, .ref mm_weight, .ref mm_cost, .ref mm_numbers, .ref mm_state, .ref mm_worth, .ref mm_long1, .ref mm_howMany, .ref mm_rows, .ref mm_inPart, .ref mm_partCount, .ref mm_nf, .ref mm_nt, .ref mm_nw, .ref mm_nc, .int 0, .ref mm_column, .ref mm_next, .ref mm_inside, .ref mm_beside, .ref mm_solid, .ref mm_below, .ref mm_best, .ref mm_ways1, .ref mm_round, .ref mm_round2, .ref mm_label, .ref mm_bridge, .ref mm_outs, .ref mm_ins, .ref mm_least, .ref mm_spans, .ref mm_joinedWith, .ref mm_gone, .ref mm_dear, .ref mm_by, .ref mm_ahead, .ref mm_image])) := (ho_5 y _ gc7 (ne_c gc7 gc0 (by intro h9; cases h9)))
  refine r_callV (pc := 1015) (as := [.int ((xs 1)), .int ((xs 2))]) (st := [.int 0]) kL_109 rfl dL_law_1015 h_9 (c_X12_members_n (d := d - 1) (y := y) (mm_sorts := mm_sorts) (mm_sizes := mm_sizes) (mm_directs := mm_directs) (mm_many := mm_many) (mm_from := mm_from) (mm_to := mm_to) (mm_weight := mm_weight) (mm_cost := mm_cost) (mm_numbers := mm_numbers) (mm_state := mm_state) (mm_worth := mm_worth) (mm_long1 := mm_long1) (mm_howMany := mm_howMany) (mm_rows := mm_rows) (mm_inPart := mm_inPart) (mm_partCount := mm_partCount) (mm_nf := mm_nf) (mm_nt := mm_nt) (mm_nw := mm_nw) (mm_nc := mm_nc) (mm_column := mm_column) (mm_next := mm_next) (mm_inside := mm_inside) (mm_beside := mm_beside) (mm_solid := mm_solid) (mm_below := mm_below) (mm_best := mm_best) (mm_ways1 := mm_ways1) (mm_round := mm_round) (mm_round2 := mm_round2) (mm_label := mm_label) (mm_bridge := mm_bridge) (mm_outs := mm_outs) (mm_ins := mm_ins) (mm_least := mm_least) (mm_spans := mm_spans) (mm_joinedWith := mm_joinedWith) (mm_gone := mm_gone) (mm_dear := mm_dear) (mm_by := mm_by) (mm_ahead := mm_ahead) (mm_image := mm_image) (rf := 0) (cnt := 0) (nm := 0) (p1 := (xs 1)) (p2 := (xs 2)) (by omega) h_9 (no0 (xs 1))) rfl (by omega) (Nat.le_of_ble_eq_true rfl) (by omega) (by omega) rfl (fun r9 hp_6 nn_7 hq_8 => ?_)
  obtain ⟨rfl, hq_8n, h_10, ho_11⟩ := hq_8
  subst nn_7
  change Rn _ _ _ 1018 _ [.int 0, .int 0] _ _ _ _ _
  refine r_icmp_eq (pc := 1018) (tgt := 1077) dL_law_1018 (by decide) (fun _ => ?_) (fun c9 => absurd (rfl) c9)
  refine Rn.pick (lv' := [(0, .ref b), (1, .ref x), (2, .ref y), (3, .int ((nI 0)))]) [0, 1, 2, 3] rfl ?_
  exact law_end
set_option maxHeartbeats 4000000 in
set_option maxRecDepth 100000 in
theorem law_21 {D : va_G} {cI cJ cZ cT : ClassId} {lo b : Nat} {xs : Nat → Int32} {hp : MH} {n d kr wr : Nat} {x th dr sk sh se pa fl sa af au aw ac al : Nat} {y mm_sorts mm_sizes mm_directs mm_many mm_from mm_to mm_weight mm_cost mm_numbers mm_state mm_worth mm_long1 mm_howMany mm_rows mm_inPart mm_partCount mm_nf mm_nt mm_nw mm_nc mm_column mm_next mm_inside mm_beside mm_solid mm_below mm_best mm_ways1 mm_round mm_round2 mm_label mm_bridge mm_outs mm_ins mm_least mm_spans mm_joinedWith mm_gone mm_dear mm_by mm_ahead mm_image : Nat} (hd0 : 10 ≤ d) (hkr : 20 ≤ kr) (hwr : 300 ≤ wr) (gc0 : hp x = some (.inr (10, [.ref th, .int 0, .int 0, .ref dr, .ref sk, .ref sh, .ref se, .ref pa, .ref fl, .ref sa]))) (gc1 : hp th = some (.inl (cT, 120, .inr (.inr (.inr (.inr (fun _ => none))))))) (gc2 : hp dr = some (.inr (1, [.int 1, .int 0, .int 0, .ref af, .ref au, .ref aw, .ref ac, .ref al]))) (gc3 : hp af = some (.inl (cI, 60, .inl (fun _ => 0)))) (gc4 : hp au = some (.inl (cI, 60, .inl (fun _ => 0)))) (gc5 : hp aw = some (.inl (cI, 60, .inl (fun _ => 0)))) (gc6 : hp ac = some (.inl (cI, 60, .inl (fun _ => 0)))) (gc7 : hp y = some (.inr (11, [.int 0, .int 0, .ref mm_sorts, .ref mm_sizes, .ref mm_directs, .ref mm_many, .ref mm_from, .ref mm_to, .ref mm_weight, .ref mm_cost, .ref mm_numbers, .ref mm_state, .ref mm_worth, .ref mm_long1, .ref mm_howMany, .ref mm_rows, .ref mm_inPart, .ref mm_partCount, .ref mm_nf, .ref mm_nt, .ref mm_nw, .ref mm_nc, .int 0, .ref mm_column, .ref mm_next, .ref mm_inside, .ref mm_beside, .ref mm_solid, .ref mm_below, .ref mm_best, .ref mm_ways1, .ref mm_round, .ref mm_round2, .ref mm_label, .ref mm_bridge, .ref mm_outs, .ref mm_ins, .ref mm_least, .ref mm_spans, .ref mm_joinedWith, .ref mm_gone, .ref mm_dear, .ref mm_by, .ref mm_ahead, .ref mm_image]))) (gc8 : hp mm_sorts = some (.inl (cI, 121, .inl (fun _ => 0)))) (gc9 : hp mm_sizes = some (.inl (cI, 121, .inl (upd (fun _ => 0) 120 1)))) (gc10 : hp mm_directs = some (.inl (cZ, 121, .inl (upd (fun _ => 0) 120 0)))) (gc11 : hp mm_many = some (.inl (cI, 121, .inl (upd (fun _ => 0) 120 0)))) (gc12 : hp mm_from = some (.inl (cI, 7260, .inl (fun _ => 0)))) (gc13 : hp mm_to = some (.inl (cI, 7260, .inl (fun _ => 0)))) (gc14 : hp mm_weight = some (.inl (cI, 7260, .inl (fun _ => 0)))) (gc15 : hp mm_cost = some (.inl (cI, 7260, .inl (fun _ => 0)))) (gc16 : hp mm_numbers = some (.inl (cJ, 1936, .inr (.inl (fun _ => 0))))) (gc17 : hp mm_column = some (.inl (cJ, 16, .inr (.inl (fun _ => 0))))) (ne_af_au : af ≠ au) (ne_af_aw : af ≠ aw) (ne_af_ac : af ≠ ac) (ne_af_mm_sorts : af ≠ mm_sorts) (ne_af_mm_sizes : af ≠ mm_sizes) (ne_af_mm_many : af ≠ mm_many) (ne_af_mm_from : af ≠ mm_from) (ne_af_mm_to : af ≠ mm_to) (ne_af_mm_weight : af ≠ mm_weight) (ne_af_mm_cost : af ≠ mm_cost) (ne_au_aw : au ≠ aw) (ne_au_ac : au ≠ ac) (ne_au_mm_sorts : au ≠ mm_sorts) (ne_au_mm_sizes : au ≠ mm_sizes) (ne_au_mm_many : au ≠ mm_many) (ne_au_mm_from : au ≠ mm_from) (ne_au_mm_to : au ≠ mm_to) (ne_au_mm_weight : au ≠ mm_weight) (ne_au_mm_cost : au ≠ mm_cost) (ne_aw_ac : aw ≠ ac) (ne_aw_mm_sorts : aw ≠ mm_sorts) (ne_aw_mm_sizes : aw ≠ mm_sizes) (ne_aw_mm_many : aw ≠ mm_many) (ne_aw_mm_from : aw ≠ mm_from) (ne_aw_mm_to : aw ≠ mm_to) (ne_aw_mm_weight : aw ≠ mm_weight) (ne_aw_mm_cost : aw ≠ mm_cost) (ne_ac_mm_sorts : ac ≠ mm_sorts) (ne_ac_mm_sizes : ac ≠ mm_sizes) (ne_ac_mm_many : ac ≠ mm_many) (ne_ac_mm_from : ac ≠ mm_from) (ne_ac_mm_to : ac ≠ mm_to) (ne_ac_mm_weight : ac ≠ mm_weight) (ne_ac_mm_cost : ac ≠ mm_cost) (ne_mm_sorts_mm_sizes : mm_sorts ≠ mm_sizes) (ne_mm_sorts_mm_many : mm_sorts ≠ mm_many) (ne_mm_sorts_mm_from : mm_sorts ≠ mm_from) (ne_mm_sorts_mm_to : mm_sorts ≠ mm_to) (ne_mm_sorts_mm_weight : mm_sorts ≠ mm_weight) (ne_mm_sorts_mm_cost : mm_sorts ≠ mm_cost) (ne_mm_sizes_mm_many : mm_sizes ≠ mm_many) (ne_mm_sizes_mm_from : mm_sizes ≠ mm_from) (ne_mm_sizes_mm_to : mm_sizes ≠ mm_to) (ne_mm_sizes_mm_weight : mm_sizes ≠ mm_weight) (ne_mm_sizes_mm_cost : mm_sizes ≠ mm_cost) (ne_mm_many_mm_from : mm_many ≠ mm_from) (ne_mm_many_mm_to : mm_many ≠ mm_to) (ne_mm_many_mm_weight : mm_many ≠ mm_weight) (ne_mm_many_mm_cost : mm_many ≠ mm_cost) (ne_mm_from_mm_to : mm_from ≠ mm_to) (ne_mm_from_mm_weight : mm_from ≠ mm_weight) (ne_mm_from_mm_cost : mm_from ≠ mm_cost) (ne_mm_to_mm_weight : mm_to ≠ mm_weight) (ne_mm_to_mm_cost : mm_to ≠ mm_cost) (ne_mm_weight_mm_cost : mm_weight ≠ mm_cost) (ne_nu_col : mm_numbers ≠ mm_column) (ne_di_si : mm_directs ≠ mm_sizes) (ne_di_ma : mm_directs ≠ mm_many) (ne_di_so : mm_directs ≠ mm_sorts) (ne_di_af : mm_directs ≠ af) (ne_di_au : mm_directs ≠ au) (ne_di_aw : mm_directs ≠ aw) (ne_di_ac : mm_directs ≠ ac) (ne_di_mm_from : mm_directs ≠ mm_from) (ne_di_mm_to : mm_directs ≠ mm_to) (ne_di_mm_weight : mm_directs ≠ mm_weight) (ne_di_mm_cost : mm_directs ≠ mm_cost) : Rn (gG D cI cJ cZ cT lo b 7 xs) mL_law d 1023 [(0, .ref b), (1, .ref x), (2, .ref y), (3, .int ((nI 0)))] [] hp n kr wr (fun r _ _ => r = some (.int 1)) := by
  refine r_aload_n (pc := 1023) dL_law_1023 (i := 1) rfl rfl ?_
  refine r_aload_n (pc := 1024) dL_law_1024 (i := 0) rfl rfl ?_
  refine r_iload_n (pc := 1025) dL_law_1025 (i := 3) rfl rfl ?_
  refine r_iconst (pc := 1026) (v := 1) dL_law_1026 (by decide) ?_
  refine r_iadd (pc := 1027) (v := (nI 1)) dL_law_1027 (by decide) ?_
  refine w_sld (pc := 1028) (v := (xs 1)) dL_law_1028 (show vp_in (nI 1) 7 from vp_in_nI (by decide) (by decide)) (congrArg xs (nI_clamp (by decide))) ?_
  refine r_aload_n (pc := 1029) dL_law_1029 (i := 0) rfl rfl ?_
  refine r_iload_n (pc := 1030) dL_law_1030 (i := 3) rfl rfl ?_
  refine r_iconst (pc := 1031) (v := 2) dL_law_1031 (by decide) ?_
  refine r_iadd (pc := 1032) (v := (nI 2)) dL_law_1032 (by decide) ?_
  refine w_sld (pc := 1033) (v := (xs 2)) dL_law_1033 (show vp_in (nI 2) 7 from vp_in_nI (by decide) (by decide)) (congrArg xs (nI_clamp (by decide))) ?_
  refine r_aload_n (pc := 1034) dL_law_1034 (i := 0) rfl rfl ?_
  refine r_iload_n (pc := 1035) dL_law_1035 (i := 3) rfl rfl ?_
  refine r_iconst (pc := 1036) (v := 3) dL_law_1036 (by decide) ?_
  refine r_iadd (pc := 1037) (v := (nI 3)) dL_law_1037 (by decide) ?_
  refine w_sld (pc := 1038) (v := (xs 3)) dL_law_1038 (show vp_in (nI 3) 7 from vp_in_nI (by decide) (by decide)) (congrArg xs (nI_clamp (by decide))) ?_
  refine r_aload_n (pc := 1039) dL_law_1039 (i := 0) rfl rfl ?_
  refine r_iload_n (pc := 1040) dL_law_1040 (i := 3) rfl rfl ?_
  refine r_iconst (pc := 1041) (v := 4) dL_law_1041 (by decide) ?_
  refine r_iadd (pc := 1042) (v := (nI 4)) dL_law_1042 (by decide) ?_
  refine w_sld (pc := 1043) (v := (xs 4)) dL_law_1043 (show vp_in (nI 4) 7 from vp_in_nI (by decide) (by decide)) (congrArg xs (nI_clamp (by decide))) ?_
  refine r_callV (pc := 1044) (as := [.int ((xs 1)), .int ((xs 2)), .int ((xs 3)), .int ((xs 4))]) (st := []) kL_110 rfl dL_law_1044 gc0 (c_X11_ask_n (d := d - 1) (x := x) (th := th) (dr := dr) (sk := sk) (sh := sh) (se := se) (pa := pa) (fl := fl) (sa := sa) (cnt := 0) (rf := 0) (p1 := (xs 1)) (p2 := (xs 2)) (p3 := (xs 3)) (p4 := (xs 4)) (by omega) gc0 (no0 (xs 1)) (no0 (xs 4))) rfl (by omega) (Nat.le_of_ble_eq_true rfl) (by omega) (by omega) rfl (fun r9 hp_1 nn_2 hq_3 => ?_)
  obtain ⟨rfl, hq_3n, h_4, ho_5⟩ := hq_3
  subst nn_2
  change Rn _ _ _ 1047 _ [.long 0] _ _ _ _ _
  refine r_aload_n (pc := 1047) dL_law_1047 (i := 2) rfl rfl ?_
  refine r_aload_n (pc := 1048) dL_law_1048 (i := 0) rfl rfl ?_
  refine r_iload_n (pc := 1049) dL_law_1049 (i := 3) rfl rfl ?_
  refine r_iconst (pc := 1050) (v := 1) dL_law_1050 (by decide) ?_
  refine r_iadd (pc := 1051) (v := (nI 1)) dL_law_1051 (by decide) ?_
  refine w_sld (pc := 1052) (v := (xs 1)) dL_law_1052 (show vp_in (nI 1) 7 from vp_in_nI (by decide) (by decide)) (congrArg xs (nI_clamp (by decide))) ?_
  refine r_aload_n (pc := 1053) dL_law_1053 (i := 0) rfl rfl ?_
  refine r_iload_n (pc := 1054) dL_law_1054 (i := 3) rfl rfl ?_
  refine r_iconst (pc := 1055) (v := 2) dL_law_1055 (by decide) ?_
  refine r_iadd (pc := 1056) (v := (nI 2)) dL_law_1056 (by decide) ?_
  refine w_sld (pc := 1057) (v := (xs 2)) dL_law_1057 (show vp_in (nI 2) 7 from vp_in_nI (by decide) (by decide)) (congrArg xs (nI_clamp (by decide))) ?_
  refine r_aload_n (pc := 1058) dL_law_1058 (i := 0) rfl rfl ?_
  refine r_iload_n (pc := 1059) dL_law_1059 (i := 3) rfl rfl ?_
  refine r_iconst (pc := 1060) (v := 3) dL_law_1060 (by decide) ?_
  refine r_iadd (pc := 1061) (v := (nI 3)) dL_law_1061 (by decide) ?_
  refine w_sld (pc := 1062) (v := (xs 3)) dL_law_1062 (show vp_in (nI 3) 7 from vp_in_nI (by decide) (by decide)) (congrArg xs (nI_clamp (by decide))) ?_
  refine r_aload_n (pc := 1063) dL_law_1063 (i := 0) rfl rfl ?_
  refine r_iload_n (pc := 1064) dL_law_1064 (i := 3) rfl rfl ?_
  refine r_iconst (pc := 1065) (v := 4) dL_law_1065 (by decide) ?_
  refine r_iadd (pc := 1066) (v := (nI 4)) dL_law_1066 (by decide) ?_
  refine w_sld (pc := 1067) (v := (xs 4)) dL_law_1067 (show vp_in (nI 4) 7 from vp_in_nI (by decide) (by decide)) (congrArg xs (nI_clamp (by decide))) ?_
  have h_9 : hp_1 y = some (.inr (11, [.int 0, .int 0, .ref mm_sorts, .ref mm_sizes, .ref mm_directs, .ref mm_many, .ref mm_from, .ref mm_to, .ref mm_weight, .ref mm_cost, .ref mm_numbers, .ref mm_state, .ref mm_worth, .ref mm_long1, .ref mm_howMany, .ref mm_rows, .ref mm_inPart, .ref mm_partCount, .ref mm_nf, .ref mm_nt, .ref mm_nw, .ref mm_nc, .int 0, .ref mm_column, .ref mm_next, .ref mm_inside, .ref mm_beside, .ref mm_solid, .ref mm_below, .ref mm_best, .ref mm_ways1, .ref mm_round, .ref mm_round2, .ref mm_label, .ref mm_bridge, .ref mm_outs, .ref mm_ins, .ref mm_least, .ref mm_spans, .ref mm_joinedWith, .ref mm_gone, .ref mm_dear, .ref mm_by, .ref mm_ahead, .ref mm_image])) := (ho_5 y _ gc7 (ne_c gc7 gc0 (by intro h9; cases h9)))
  refine r_callV (pc := 1068) (as := [.int ((xs 1)), .int ((xs 2)), .int ((xs 3)), .int ((xs 4))]) (st := [.long 0]) kL_114 rfl dL_law_1068 h_9 (c_X12_ask_n (d := d - 1) (y := y) (mm_sorts := mm_sorts) (mm_sizes := mm_sizes) (mm_directs := mm_directs) (mm_many := mm_many) (mm_from := mm_from) (mm_to := mm_to) (mm_weight := mm_weight) (mm_cost := mm_cost) (mm_numbers := mm_numbers) (mm_state := mm_state) (mm_worth := mm_worth) (mm_long1 := mm_long1) (mm_howMany := mm_howMany) (mm_rows := mm_rows) (mm_inPart := mm_inPart) (mm_partCount := mm_partCount) (mm_nf := mm_nf) (mm_nt := mm_nt) (mm_nw := mm_nw) (mm_nc := mm_nc) (mm_column := mm_column) (mm_next := mm_next) (mm_inside := mm_inside) (mm_beside := mm_beside) (mm_solid := mm_solid) (mm_below := mm_below) (mm_best := mm_best) (mm_ways1 := mm_ways1) (mm_round := mm_round) (mm_round2 := mm_round2) (mm_label := mm_label) (mm_bridge := mm_bridge) (mm_outs := mm_outs) (mm_ins := mm_ins) (mm_least := mm_least) (mm_spans := mm_spans) (mm_joinedWith := mm_joinedWith) (mm_gone := mm_gone) (mm_dear := mm_dear) (mm_by := mm_by) (mm_ahead := mm_ahead) (mm_image := mm_image) (rf := 0) (cnt := 0) (nm := 0) (p1 := (xs 1)) (p2 := (xs 2)) (p3 := (xs 3)) (p4 := (xs 4)) (by omega) h_9 (no0 (xs 1))) rfl (by omega) (Nat.le_of_ble_eq_true rfl) (by omega) (by omega) rfl (fun r9 hp_6 nn_7 hq_8 => ?_)
  obtain ⟨rfl, hq_8n, h_10, ho_11⟩ := hq_8
  subst nn_7
  change Rn _ _ _ 1071 _ [.long 0, .long 0] _ _ _ _ _
  refine r_lcmp (pc := 1071) dL_law_1071 ?_
  refine r_if_eq (pc := 1072) (tgt := 1077) dL_law_1072 (by decide) (fun _ => ?_) (fun c9 => absurd (rfl) c9)
  refine Rn.pick (lv' := [(0, .ref b), (1, .ref x), (2, .ref y), (3, .int ((nI 0)))]) [0, 1, 2, 3] rfl ?_
  exact law_end
set_option maxHeartbeats 4000000 in
set_option maxRecDepth 100000 in
theorem law_6 {D : va_G} {cI cJ cZ cT : ClassId} {lo b : Nat} {xs : Nat → Int32} {hp : MH} {n d kr wr : Nat} {x th dr sk sh se pa fl sa af au aw ac al : Nat} {y mm_sorts mm_sizes mm_directs mm_many mm_from mm_to mm_weight mm_cost mm_numbers mm_state mm_worth mm_long1 mm_howMany mm_rows mm_inPart mm_partCount mm_nf mm_nt mm_nw mm_nc mm_column mm_next mm_inside mm_beside mm_solid mm_below mm_best mm_ways1 mm_round mm_round2 mm_label mm_bridge mm_outs mm_ins mm_least mm_spans mm_joinedWith mm_gone mm_dear mm_by mm_ahead mm_image : Nat} (hd0 : 10 ≤ d) (hkr : 20 ≤ kr) (hwr : 300 ≤ wr) (gc0 : hp x = some (.inr (10, [.ref th, .int 0, .int 0, .ref dr, .ref sk, .ref sh, .ref se, .ref pa, .ref fl, .ref sa]))) (gc1 : hp th = some (.inl (cT, 120, .inr (.inr (.inr (.inr (fun _ => none))))))) (gc2 : hp dr = some (.inr (1, [.int 1, .int 0, .int 0, .ref af, .ref au, .ref aw, .ref ac, .ref al]))) (gc3 : hp af = some (.inl (cI, 60, .inl (fun _ => 0)))) (gc4 : hp au = some (.inl (cI, 60, .inl (fun _ => 0)))) (gc5 : hp aw = some (.inl (cI, 60, .inl (fun _ => 0)))) (gc6 : hp ac = some (.inl (cI, 60, .inl (fun _ => 0)))) (gc7 : hp y = some (.inr (11, [.int 0, .int 0, .ref mm_sorts, .ref mm_sizes, .ref mm_directs, .ref mm_many, .ref mm_from, .ref mm_to, .ref mm_weight, .ref mm_cost, .ref mm_numbers, .ref mm_state, .ref mm_worth, .ref mm_long1, .ref mm_howMany, .ref mm_rows, .ref mm_inPart, .ref mm_partCount, .ref mm_nf, .ref mm_nt, .ref mm_nw, .ref mm_nc, .int 0, .ref mm_column, .ref mm_next, .ref mm_inside, .ref mm_beside, .ref mm_solid, .ref mm_below, .ref mm_best, .ref mm_ways1, .ref mm_round, .ref mm_round2, .ref mm_label, .ref mm_bridge, .ref mm_outs, .ref mm_ins, .ref mm_least, .ref mm_spans, .ref mm_joinedWith, .ref mm_gone, .ref mm_dear, .ref mm_by, .ref mm_ahead, .ref mm_image]))) (gc8 : hp mm_sorts = some (.inl (cI, 121, .inl (fun _ => 0)))) (gc9 : hp mm_sizes = some (.inl (cI, 121, .inl (upd (fun _ => 0) 120 1)))) (gc10 : hp mm_directs = some (.inl (cZ, 121, .inl (upd (fun _ => 0) 120 0)))) (gc11 : hp mm_many = some (.inl (cI, 121, .inl (upd (fun _ => 0) 120 0)))) (gc12 : hp mm_from = some (.inl (cI, 7260, .inl (fun _ => 0)))) (gc13 : hp mm_to = some (.inl (cI, 7260, .inl (fun _ => 0)))) (gc14 : hp mm_weight = some (.inl (cI, 7260, .inl (fun _ => 0)))) (gc15 : hp mm_cost = some (.inl (cI, 7260, .inl (fun _ => 0)))) (gc16 : hp mm_numbers = some (.inl (cJ, 1936, .inr (.inl (fun _ => 0))))) (gc17 : hp mm_column = some (.inl (cJ, 16, .inr (.inl (fun _ => 0))))) (ne_af_au : af ≠ au) (ne_af_aw : af ≠ aw) (ne_af_ac : af ≠ ac) (ne_af_mm_sorts : af ≠ mm_sorts) (ne_af_mm_sizes : af ≠ mm_sizes) (ne_af_mm_many : af ≠ mm_many) (ne_af_mm_from : af ≠ mm_from) (ne_af_mm_to : af ≠ mm_to) (ne_af_mm_weight : af ≠ mm_weight) (ne_af_mm_cost : af ≠ mm_cost) (ne_au_aw : au ≠ aw) (ne_au_ac : au ≠ ac) (ne_au_mm_sorts : au ≠ mm_sorts) (ne_au_mm_sizes : au ≠ mm_sizes) (ne_au_mm_many : au ≠ mm_many) (ne_au_mm_from : au ≠ mm_from) (ne_au_mm_to : au ≠ mm_to) (ne_au_mm_weight : au ≠ mm_weight) (ne_au_mm_cost : au ≠ mm_cost) (ne_aw_ac : aw ≠ ac) (ne_aw_mm_sorts : aw ≠ mm_sorts) (ne_aw_mm_sizes : aw ≠ mm_sizes) (ne_aw_mm_many : aw ≠ mm_many) (ne_aw_mm_from : aw ≠ mm_from) (ne_aw_mm_to : aw ≠ mm_to) (ne_aw_mm_weight : aw ≠ mm_weight) (ne_aw_mm_cost : aw ≠ mm_cost) (ne_ac_mm_sorts : ac ≠ mm_sorts) (ne_ac_mm_sizes : ac ≠ mm_sizes) (ne_ac_mm_many : ac ≠ mm_many) (ne_ac_mm_from : ac ≠ mm_from) (ne_ac_mm_to : ac ≠ mm_to) (ne_ac_mm_weight : ac ≠ mm_weight) (ne_ac_mm_cost : ac ≠ mm_cost) (ne_mm_sorts_mm_sizes : mm_sorts ≠ mm_sizes) (ne_mm_sorts_mm_many : mm_sorts ≠ mm_many) (ne_mm_sorts_mm_from : mm_sorts ≠ mm_from) (ne_mm_sorts_mm_to : mm_sorts ≠ mm_to) (ne_mm_sorts_mm_weight : mm_sorts ≠ mm_weight) (ne_mm_sorts_mm_cost : mm_sorts ≠ mm_cost) (ne_mm_sizes_mm_many : mm_sizes ≠ mm_many) (ne_mm_sizes_mm_from : mm_sizes ≠ mm_from) (ne_mm_sizes_mm_to : mm_sizes ≠ mm_to) (ne_mm_sizes_mm_weight : mm_sizes ≠ mm_weight) (ne_mm_sizes_mm_cost : mm_sizes ≠ mm_cost) (ne_mm_many_mm_from : mm_many ≠ mm_from) (ne_mm_many_mm_to : mm_many ≠ mm_to) (ne_mm_many_mm_weight : mm_many ≠ mm_weight) (ne_mm_many_mm_cost : mm_many ≠ mm_cost) (ne_mm_from_mm_to : mm_from ≠ mm_to) (ne_mm_from_mm_weight : mm_from ≠ mm_weight) (ne_mm_from_mm_cost : mm_from ≠ mm_cost) (ne_mm_to_mm_weight : mm_to ≠ mm_weight) (ne_mm_to_mm_cost : mm_to ≠ mm_cost) (ne_mm_weight_mm_cost : mm_weight ≠ mm_cost) (ne_nu_col : mm_numbers ≠ mm_column) (ne_di_si : mm_directs ≠ mm_sizes) (ne_di_ma : mm_directs ≠ mm_many) (ne_di_so : mm_directs ≠ mm_sorts) (ne_di_af : mm_directs ≠ af) (ne_di_au : mm_directs ≠ au) (ne_di_aw : mm_directs ≠ aw) (ne_di_ac : mm_directs ≠ ac) (ne_di_mm_from : mm_directs ≠ mm_from) (ne_di_mm_to : mm_directs ≠ mm_to) (ne_di_mm_weight : mm_directs ≠ mm_weight) (ne_di_mm_cost : mm_directs ≠ mm_cost) : Rn (gG D cI cJ cZ cT lo b 7 xs) mL_law d 396 [(0, .ref b), (1, .ref x), (2, .ref y), (3, .int ((nI 0)))] [] hp n kr wr (fun r _ _ => r = some (.int 1)) := by
  by_cases hb0 : ¬ xs 1 < 1 ∧ ¬ 16 < xs 1 ∧ ¬ xs 4 < (-1) ∧ xs 4 < xs 1
  · have hb1 : ¬ xs 1 < 0 := fun h => hb0.1 (Int32.lt_trans h (by decide))
    obtain ⟨N, hN, eN⟩ := nI_of2 (M := 16) (n := 16) (by decide) hb1 (Int32.not_lt.mp hb0.2.1)
    have h1N : 1 ≤ N := by
      rcases Nat.lt_or_ge N 1 with h | h
      · exact absurd (by rw [eN]; exact nI_lt (b := 1) h (by omega)) hb0.1
      · exact h
    have h5 : xs 4 < nI N := by rw [← eN]; exact hb0.2.2.2
    by_cases h6 : xs 4 < 0
    · refine r_aload_n (pc := 396) dL_law_396 (i := 1) rfl rfl ?_
      refine r_aload_n (pc := 397) dL_law_397 (i := 0) rfl rfl ?_
      refine r_iload_n (pc := 398) dL_law_398 (i := 3) rfl rfl ?_
      refine r_iconst (pc := 399) (v := 1) dL_law_399 (by decide) ?_
      refine r_iadd (pc := 400) (v := (nI 1)) dL_law_400 (by decide) ?_
      refine w_sld (pc := 401) (v := (nI N)) dL_law_401 (show vp_in (nI 1) 7 from vp_in_nI (by decide) (by decide)) ((congrArg xs (nI_clamp (by decide))).trans eN) ?_
      refine r_aload_n (pc := 402) dL_law_402 (i := 0) rfl rfl ?_
      refine r_iload_n (pc := 403) dL_law_403 (i := 3) rfl rfl ?_
      refine r_iconst (pc := 404) (v := 2) dL_law_404 (by decide) ?_
      refine r_iadd (pc := 405) (v := (nI 2)) dL_law_405 (by decide) ?_
      refine w_sld (pc := 406) (v := (xs 2)) dL_law_406 (show vp_in (nI 2) 7 from vp_in_nI (by decide) (by decide)) (congrArg xs (nI_clamp (by decide))) ?_
      refine r_i2l (pc := 407) (v := ((xs 2).toInt64)) dL_law_407 (rfl) ?_
      refine r_bipush (pc := 408) (v := 32) dL_law_408 (by decide) ?_
      refine r_lshl (pc := 410) dL_law_410 ?_
      refine r_aload_n (pc := 411) dL_law_411 (i := 0) rfl rfl ?_
      refine r_iload_n (pc := 412) dL_law_412 (i := 3) rfl rfl ?_
      refine r_iconst (pc := 413) (v := 3) dL_law_413 (by decide) ?_
      refine r_iadd (pc := 414) (v := (nI 3)) dL_law_414 (by decide) ?_
      refine w_sld (pc := 415) (v := (xs 3)) dL_law_415 (show vp_in (nI 3) 7 from vp_in_nI (by decide) (by decide)) (congrArg xs (nI_clamp (by decide))) ?_
      refine r_i2l (pc := 416) (v := ((xs 3).toInt64)) dL_law_416 (rfl) ?_
      refine r_ldc2 (pc := 417) (v := 4294967295) dL_law_417 kL_42 ?_
      refine r_land (pc := 420) (v := (((xs 3).toInt64) &&& 4294967295)) dL_law_420 (rfl) ?_
      refine r_lor (pc := 421) (v := ((((xs 2).toInt64) <<< ((32 : Int32).toInt64 &&& 63)) ||| (((xs 3).toInt64) &&& 4294967295))) dL_law_421 (rfl) ?_
      refine r_aload_n (pc := 422) dL_law_422 (i := 0) rfl rfl ?_
      refine r_iload_n (pc := 423) dL_law_423 (i := 3) rfl rfl ?_
      refine r_iconst (pc := 424) (v := 4) dL_law_424 (by decide) ?_
      refine r_iadd (pc := 425) (v := (nI 4)) dL_law_425 (by decide) ?_
      refine w_sld (pc := 426) (v := (xs 4)) dL_law_426 (show vp_in (nI 4) 7 from vp_in_nI (by decide) (by decide)) (congrArg xs (nI_clamp (by decide))) ?_
      refine r_aload_n (pc := 427) dL_law_427 (i := 0) rfl rfl ?_
      refine r_iload_n (pc := 428) dL_law_428 (i := 3) rfl rfl ?_
      refine r_iconst (pc := 429) (v := 5) dL_law_429 (by decide) ?_
      refine r_iadd (pc := 430) (v := (nI 5)) dL_law_430 (by decide) ?_
      refine w_sld (pc := 431) (v := (xs 5)) dL_law_431 (show vp_in (nI 5) 7 from vp_in_nI (by decide) (by decide)) (congrArg xs (nI_clamp (by decide))) ?_
      refine r_i2l (pc := 432) (v := ((xs 5).toInt64)) dL_law_432 (rfl) ?_
      refine r_bipush (pc := 433) (v := 32) dL_law_433 (by decide) ?_
      refine r_lshl (pc := 435) dL_law_435 ?_
      refine r_aload_n (pc := 436) dL_law_436 (i := 0) rfl rfl ?_
      refine r_iload_n (pc := 437) dL_law_437 (i := 3) rfl rfl ?_
      refine r_bipush (pc := 438) (v := 6) dL_law_438 (by decide) ?_
      refine r_iadd (pc := 440) (v := (nI 6)) dL_law_440 (by decide) ?_
      refine w_sld (pc := 441) (v := (xs 6)) dL_law_441 (show vp_in (nI 6) 7 from vp_in_nI (by decide) (by decide)) (congrArg xs (nI_clamp (by decide))) ?_
      refine r_i2l (pc := 442) (v := ((xs 6).toInt64)) dL_law_442 (rfl) ?_
      refine r_ldc2 (pc := 443) (v := 4294967295) dL_law_443 kL_42 ?_
      refine r_land (pc := 446) (v := (((xs 6).toInt64) &&& 4294967295)) dL_law_446 (rfl) ?_
      refine r_lor (pc := 447) (v := ((((xs 5).toInt64) <<< ((32 : Int32).toInt64 &&& 63)) ||| (((xs 6).toInt64) &&& 4294967295))) dL_law_447 (rfl) ?_
      refine r_callV (pc := 448) (as := [.int ((nI N)), .long (((((xs 2).toInt64) <<< ((32 : Int32).toInt64 &&& 63)) ||| (((xs 3).toInt64) &&& 4294967295))), .int ((xs 4)), .long (((((xs 5).toInt64) <<< ((32 : Int32).toInt64 &&& 63)) ||| (((xs 6).toInt64) &&& 4294967295)))]) (st := []) kL_44 rfl dL_law_448 gc0 (c_X11_flat_a (d := d - 1) (x := x) (th := th) (dr := dr) (sk := sk) (sh := sh) (se := se) (pa := pa) (fl := fl) (sa := sa) (rf := 0) (p2 := ((((xs 2).toInt64) <<< ((32 : Int32).toInt64 &&& 63)) ||| (((xs 3).toInt64) &&& 4294967295))) (p4 := (xs 4)) (p5 := ((((xs 5).toInt64) <<< ((32 : Int32).toInt64 &&& 63)) ||| (((xs 6).toInt64) &&& 4294967295))) (i := 0) (N := N) (f := fun _ => none) (by omega) gc0 gc1 (by omega) (h1N) (hN) (hb0.2.2.1) (h5) (h6)) rfl (by omega) (Nat.le_of_ble_eq_true rfl) (by omega) (by omega) rfl (fun r9 hp_1 nn_2 hq_3 => ?_)
      obtain ⟨rfl, hq_3n, h_4, h_5, h_6, h_7, ho_8⟩ := hq_3
      subst nn_2
      change Rn _ _ _ 451 _ [.int ((nI 0))] _ _ _ _ _
      refine r_aload_n (pc := 451) dL_law_451 (i := 2) rfl rfl ?_
      refine r_aload_n (pc := 452) dL_law_452 (i := 0) rfl rfl ?_
      refine r_iload_n (pc := 453) dL_law_453 (i := 3) rfl rfl ?_
      refine r_iconst (pc := 454) (v := 1) dL_law_454 (by decide) ?_
      refine r_iadd (pc := 455) (v := (nI 1)) dL_law_455 (by decide) ?_
      refine w_sld (pc := 456) (v := (nI N)) dL_law_456 (show vp_in (nI 1) 7 from vp_in_nI (by decide) (by decide)) ((congrArg xs (nI_clamp (by decide))).trans eN) ?_
      refine r_aload_n (pc := 457) dL_law_457 (i := 0) rfl rfl ?_
      refine r_iload_n (pc := 458) dL_law_458 (i := 3) rfl rfl ?_
      refine r_iconst (pc := 459) (v := 2) dL_law_459 (by decide) ?_
      refine r_iadd (pc := 460) (v := (nI 2)) dL_law_460 (by decide) ?_
      refine w_sld (pc := 461) (v := (xs 2)) dL_law_461 (show vp_in (nI 2) 7 from vp_in_nI (by decide) (by decide)) (congrArg xs (nI_clamp (by decide))) ?_
      refine r_i2l (pc := 462) (v := ((xs 2).toInt64)) dL_law_462 (rfl) ?_
      refine r_bipush (pc := 463) (v := 32) dL_law_463 (by decide) ?_
      refine r_lshl (pc := 465) dL_law_465 ?_
      refine r_aload_n (pc := 466) dL_law_466 (i := 0) rfl rfl ?_
      refine r_iload_n (pc := 467) dL_law_467 (i := 3) rfl rfl ?_
      refine r_iconst (pc := 468) (v := 3) dL_law_468 (by decide) ?_
      refine r_iadd (pc := 469) (v := (nI 3)) dL_law_469 (by decide) ?_
      refine w_sld (pc := 470) (v := (xs 3)) dL_law_470 (show vp_in (nI 3) 7 from vp_in_nI (by decide) (by decide)) (congrArg xs (nI_clamp (by decide))) ?_
      refine r_i2l (pc := 471) (v := ((xs 3).toInt64)) dL_law_471 (rfl) ?_
      refine r_ldc2 (pc := 472) (v := 4294967295) dL_law_472 kL_42 ?_
      refine r_land (pc := 475) (v := (((xs 3).toInt64) &&& 4294967295)) dL_law_475 (rfl) ?_
      refine r_lor (pc := 476) (v := ((((xs 2).toInt64) <<< ((32 : Int32).toInt64 &&& 63)) ||| (((xs 3).toInt64) &&& 4294967295))) dL_law_476 (rfl) ?_
      refine r_aload_n (pc := 477) dL_law_477 (i := 0) rfl rfl ?_
      refine r_iload_n (pc := 478) dL_law_478 (i := 3) rfl rfl ?_
      refine r_iconst (pc := 479) (v := 4) dL_law_479 (by decide) ?_
      refine r_iadd (pc := 480) (v := (nI 4)) dL_law_480 (by decide) ?_
      refine w_sld (pc := 481) (v := (xs 4)) dL_law_481 (show vp_in (nI 4) 7 from vp_in_nI (by decide) (by decide)) (congrArg xs (nI_clamp (by decide))) ?_
      refine r_aload_n (pc := 482) dL_law_482 (i := 0) rfl rfl ?_
      refine r_iload_n (pc := 483) dL_law_483 (i := 3) rfl rfl ?_
      refine r_iconst (pc := 484) (v := 5) dL_law_484 (by decide) ?_
      refine r_iadd (pc := 485) (v := (nI 5)) dL_law_485 (by decide) ?_
      refine w_sld (pc := 486) (v := (xs 5)) dL_law_486 (show vp_in (nI 5) 7 from vp_in_nI (by decide) (by decide)) (congrArg xs (nI_clamp (by decide))) ?_
      refine r_i2l (pc := 487) (v := ((xs 5).toInt64)) dL_law_487 (rfl) ?_
      refine r_bipush (pc := 488) (v := 32) dL_law_488 (by decide) ?_
      refine r_lshl (pc := 490) dL_law_490 ?_
      refine r_aload_n (pc := 491) dL_law_491 (i := 0) rfl rfl ?_
      refine r_iload_n (pc := 492) dL_law_492 (i := 3) rfl rfl ?_
      refine r_bipush (pc := 493) (v := 6) dL_law_493 (by decide) ?_
      refine r_iadd (pc := 495) (v := (nI 6)) dL_law_495 (by decide) ?_
      refine w_sld (pc := 496) (v := (xs 6)) dL_law_496 (show vp_in (nI 6) 7 from vp_in_nI (by decide) (by decide)) (congrArg xs (nI_clamp (by decide))) ?_
      refine r_i2l (pc := 497) (v := ((xs 6).toInt64)) dL_law_497 (rfl) ?_
      refine r_ldc2 (pc := 498) (v := 4294967295) dL_law_498 kL_42 ?_
      refine r_land (pc := 501) (v := (((xs 6).toInt64) &&& 4294967295)) dL_law_501 (rfl) ?_
      refine r_lor (pc := 502) (v := ((((xs 5).toInt64) <<< ((32 : Int32).toInt64 &&& 63)) ||| (((xs 6).toInt64) &&& 4294967295))) dL_law_502 (rfl) ?_
      have h_12 : hp_1 y = some (.inr (11, [.int 0, .int 0, .ref mm_sorts, .ref mm_sizes, .ref mm_directs, .ref mm_many, .ref mm_from, .ref mm_to, .ref mm_weight, .ref mm_cost, .ref mm_numbers, .ref mm_state, .ref mm_worth, .ref mm_long1, .ref mm_howMany, .ref mm_rows, .ref mm_inPart, .ref mm_partCount, .ref mm_nf, .ref mm_nt, .ref mm_nw, .ref mm_nc, .int 0, .ref mm_column, .ref mm_next, .ref mm_inside, .ref mm_beside, .ref mm_solid, .ref mm_below, .ref mm_best, .ref mm_ways1, .ref mm_round, .ref mm_round2, .ref mm_label, .ref mm_bridge, .ref mm_outs, .ref mm_ins, .ref mm_least, .ref mm_spans, .ref mm_joinedWith, .ref mm_gone, .ref mm_dear, .ref mm_by, .ref mm_ahead, .ref mm_image])) := (ho_8 y _ gc7 (ne_c gc7 gc0 (by intro h9; cases h9)) (ne_c gc7 gc1 (by intro h9; cases h9)))
      have h_13 : hp_1 mm_sorts = some (.inl (cI, 121, .inl (fun _ => 0))) := (ho_8 mm_sorts _ gc8 (ne_c gc8 gc0 (by intro h9; cases h9)) (ne_c gc8 gc1 (by simp)))
      have h_14 : hp_1 mm_sizes = some (.inl (cI, 121, .inl (upd (fun _ => 0) 120 1))) := (ho_8 mm_sizes _ gc9 (ne_c gc9 gc0 (by intro h9; cases h9)) (ne_c gc9 gc1 (by simp)))
      have h_15 : hp_1 mm_numbers = some (.inl (cJ, 1936, .inr (.inl (fun _ => 0)))) := (ho_8 mm_numbers _ gc16 (ne_c gc16 gc0 (by intro h9; cases h9)) (ne_c gc16 gc1 (by simp)))
      have h_16 : hp_1 mm_column = some (.inl (cJ, 16, .inr (.inl (fun _ => 0)))) := (ho_8 mm_column _ gc17 (ne_c gc17 gc0 (by intro h9; cases h9)) (ne_c gc17 gc1 (by simp)))
      refine r_callV (pc := 503) (as := [.int ((nI N)), .long (((((xs 2).toInt64) <<< ((32 : Int32).toInt64 &&& 63)) ||| (((xs 3).toInt64) &&& 4294967295))), .int ((xs 4)), .long (((((xs 5).toInt64) <<< ((32 : Int32).toInt64 &&& 63)) ||| (((xs 6).toInt64) &&& 4294967295)))]) (st := [.int ((nI 0))]) kL_48 rfl dL_law_503 h_12 (c_X12_flat (d := d - 1) (y := y) (mm_sorts := mm_sorts) (mm_sizes := mm_sizes) (mm_directs := mm_directs) (mm_many := mm_many) (mm_from := mm_from) (mm_to := mm_to) (mm_weight := mm_weight) (mm_cost := mm_cost) (mm_numbers := mm_numbers) (mm_state := mm_state) (mm_worth := mm_worth) (mm_long1 := mm_long1) (mm_howMany := mm_howMany) (mm_rows := mm_rows) (mm_inPart := mm_inPart) (mm_partCount := mm_partCount) (mm_nf := mm_nf) (mm_nt := mm_nt) (mm_nw := mm_nw) (mm_nc := mm_nc) (mm_column := mm_column) (mm_next := mm_next) (mm_inside := mm_inside) (mm_beside := mm_beside) (mm_solid := mm_solid) (mm_below := mm_below) (mm_best := mm_best) (mm_ways1 := mm_ways1) (mm_round := mm_round) (mm_round2 := mm_round2) (mm_label := mm_label) (mm_bridge := mm_bridge) (mm_outs := mm_outs) (mm_ins := mm_ins) (mm_least := mm_least) (mm_spans := mm_spans) (mm_joinedWith := mm_joinedWith) (mm_gone := mm_gone) (mm_dear := mm_dear) (mm_by := mm_by) (mm_ahead := mm_ahead) (mm_image := mm_image) (rf := 0) (nm := 0) (p2 := ((((xs 2).toInt64) <<< ((32 : Int32).toInt64 &&& 63)) ||| (((xs 3).toInt64) &&& 4294967295))) (p4 := (xs 4)) (p5 := ((((xs 5).toInt64) <<< ((32 : Int32).toInt64 &&& 63)) ||| (((xs 6).toInt64) &&& 4294967295))) (i := 0) (N := N) (f0 := fun _ => 0) (f1 := upd (fun _ => 0) 120 1) (nu := fun _ => 0) (col := fun _ => 0) (by omega) h_12 h_13 h_14 h_15 h_16 (by omega) (h1N) (hN) (hb0.2.2.1) (h5) (ne_mm_sorts_mm_sizes) (ne_nu_col)) rfl (by omega) (Nat.le_of_ble_eq_true rfl) (by omega) (by omega) rfl (fun r9 hp_9 nn_10 hq_11 => ?_)
      obtain ⟨rfl, hq_11n, h_17, h_18, h_19, h_20, h_21, ho_22⟩ := hq_11
      subst nn_10
      change Rn _ _ _ 506 _ [.int ((nI 0)), .int ((nI 0))] _ _ _ _ _
      refine r_icmp_eq (pc := 506) (tgt := 1077) dL_law_506 (by decide) (fun _ => ?_) (fun c9 => absurd (rfl) c9)
      refine Rn.pick (lv' := [(0, .ref b), (1, .ref x), (2, .ref y), (3, .int ((nI 0)))]) [0, 1, 2, 3] rfl ?_
      exact law_end
    · refine r_aload_n (pc := 396) dL_law_396 (i := 1) rfl rfl ?_
      refine r_aload_n (pc := 397) dL_law_397 (i := 0) rfl rfl ?_
      refine r_iload_n (pc := 398) dL_law_398 (i := 3) rfl rfl ?_
      refine r_iconst (pc := 399) (v := 1) dL_law_399 (by decide) ?_
      refine r_iadd (pc := 400) (v := (nI 1)) dL_law_400 (by decide) ?_
      refine w_sld (pc := 401) (v := (nI N)) dL_law_401 (show vp_in (nI 1) 7 from vp_in_nI (by decide) (by decide)) ((congrArg xs (nI_clamp (by decide))).trans eN) ?_
      refine r_aload_n (pc := 402) dL_law_402 (i := 0) rfl rfl ?_
      refine r_iload_n (pc := 403) dL_law_403 (i := 3) rfl rfl ?_
      refine r_iconst (pc := 404) (v := 2) dL_law_404 (by decide) ?_
      refine r_iadd (pc := 405) (v := (nI 2)) dL_law_405 (by decide) ?_
      refine w_sld (pc := 406) (v := (xs 2)) dL_law_406 (show vp_in (nI 2) 7 from vp_in_nI (by decide) (by decide)) (congrArg xs (nI_clamp (by decide))) ?_
      refine r_i2l (pc := 407) (v := ((xs 2).toInt64)) dL_law_407 (rfl) ?_
      refine r_bipush (pc := 408) (v := 32) dL_law_408 (by decide) ?_
      refine r_lshl (pc := 410) dL_law_410 ?_
      refine r_aload_n (pc := 411) dL_law_411 (i := 0) rfl rfl ?_
      refine r_iload_n (pc := 412) dL_law_412 (i := 3) rfl rfl ?_
      refine r_iconst (pc := 413) (v := 3) dL_law_413 (by decide) ?_
      refine r_iadd (pc := 414) (v := (nI 3)) dL_law_414 (by decide) ?_
      refine w_sld (pc := 415) (v := (xs 3)) dL_law_415 (show vp_in (nI 3) 7 from vp_in_nI (by decide) (by decide)) (congrArg xs (nI_clamp (by decide))) ?_
      refine r_i2l (pc := 416) (v := ((xs 3).toInt64)) dL_law_416 (rfl) ?_
      refine r_ldc2 (pc := 417) (v := 4294967295) dL_law_417 kL_42 ?_
      refine r_land (pc := 420) (v := (((xs 3).toInt64) &&& 4294967295)) dL_law_420 (rfl) ?_
      refine r_lor (pc := 421) (v := ((((xs 2).toInt64) <<< ((32 : Int32).toInt64 &&& 63)) ||| (((xs 3).toInt64) &&& 4294967295))) dL_law_421 (rfl) ?_
      refine r_aload_n (pc := 422) dL_law_422 (i := 0) rfl rfl ?_
      refine r_iload_n (pc := 423) dL_law_423 (i := 3) rfl rfl ?_
      refine r_iconst (pc := 424) (v := 4) dL_law_424 (by decide) ?_
      refine r_iadd (pc := 425) (v := (nI 4)) dL_law_425 (by decide) ?_
      refine w_sld (pc := 426) (v := (xs 4)) dL_law_426 (show vp_in (nI 4) 7 from vp_in_nI (by decide) (by decide)) (congrArg xs (nI_clamp (by decide))) ?_
      refine r_aload_n (pc := 427) dL_law_427 (i := 0) rfl rfl ?_
      refine r_iload_n (pc := 428) dL_law_428 (i := 3) rfl rfl ?_
      refine r_iconst (pc := 429) (v := 5) dL_law_429 (by decide) ?_
      refine r_iadd (pc := 430) (v := (nI 5)) dL_law_430 (by decide) ?_
      refine w_sld (pc := 431) (v := (xs 5)) dL_law_431 (show vp_in (nI 5) 7 from vp_in_nI (by decide) (by decide)) (congrArg xs (nI_clamp (by decide))) ?_
      refine r_i2l (pc := 432) (v := ((xs 5).toInt64)) dL_law_432 (rfl) ?_
      refine r_bipush (pc := 433) (v := 32) dL_law_433 (by decide) ?_
      refine r_lshl (pc := 435) dL_law_435 ?_
      refine r_aload_n (pc := 436) dL_law_436 (i := 0) rfl rfl ?_
      refine r_iload_n (pc := 437) dL_law_437 (i := 3) rfl rfl ?_
      refine r_bipush (pc := 438) (v := 6) dL_law_438 (by decide) ?_
      refine r_iadd (pc := 440) (v := (nI 6)) dL_law_440 (by decide) ?_
      refine w_sld (pc := 441) (v := (xs 6)) dL_law_441 (show vp_in (nI 6) 7 from vp_in_nI (by decide) (by decide)) (congrArg xs (nI_clamp (by decide))) ?_
      refine r_i2l (pc := 442) (v := ((xs 6).toInt64)) dL_law_442 (rfl) ?_
      refine r_ldc2 (pc := 443) (v := 4294967295) dL_law_443 kL_42 ?_
      refine r_land (pc := 446) (v := (((xs 6).toInt64) &&& 4294967295)) dL_law_446 (rfl) ?_
      refine r_lor (pc := 447) (v := ((((xs 5).toInt64) <<< ((32 : Int32).toInt64 &&& 63)) ||| (((xs 6).toInt64) &&& 4294967295))) dL_law_447 (rfl) ?_
      refine r_callV (pc := 448) (as := [.int ((nI N)), .long (((((xs 2).toInt64) <<< ((32 : Int32).toInt64 &&& 63)) ||| (((xs 3).toInt64) &&& 4294967295))), .int ((xs 4)), .long (((((xs 5).toInt64) <<< ((32 : Int32).toInt64 &&& 63)) ||| (((xs 6).toInt64) &&& 4294967295)))]) (st := []) kL_44 rfl dL_law_448 gc0 (c_X11_flat_b (d := d - 1) (x := x) (th := th) (dr := dr) (sk := sk) (sh := sh) (se := se) (pa := pa) (fl := fl) (sa := sa) (rf := 0) (p2 := ((((xs 2).toInt64) <<< ((32 : Int32).toInt64 &&& 63)) ||| (((xs 3).toInt64) &&& 4294967295))) (p4 := (xs 4)) (p5 := ((((xs 5).toInt64) <<< ((32 : Int32).toInt64 &&& 63)) ||| (((xs 6).toInt64) &&& 4294967295))) (i := 0) (N := N) (f := fun _ => none) (by omega) gc0 gc1 (by omega) (h1N) (hN) (hb0.2.2.1) (h5) (h6)) rfl (by omega) (Nat.le_of_ble_eq_true rfl) (by omega) (by omega) rfl (fun r9 hp_23 nn_24 hq_25 => ?_)
      obtain ⟨rfl, hq_25n, h_26, h_27, h_28, h_29, ho_30⟩ := hq_25
      subst nn_24
      change Rn _ _ _ 451 _ [.int ((nI 0))] _ _ _ _ _
      refine r_aload_n (pc := 451) dL_law_451 (i := 2) rfl rfl ?_
      refine r_aload_n (pc := 452) dL_law_452 (i := 0) rfl rfl ?_
      refine r_iload_n (pc := 453) dL_law_453 (i := 3) rfl rfl ?_
      refine r_iconst (pc := 454) (v := 1) dL_law_454 (by decide) ?_
      refine r_iadd (pc := 455) (v := (nI 1)) dL_law_455 (by decide) ?_
      refine w_sld (pc := 456) (v := (nI N)) dL_law_456 (show vp_in (nI 1) 7 from vp_in_nI (by decide) (by decide)) ((congrArg xs (nI_clamp (by decide))).trans eN) ?_
      refine r_aload_n (pc := 457) dL_law_457 (i := 0) rfl rfl ?_
      refine r_iload_n (pc := 458) dL_law_458 (i := 3) rfl rfl ?_
      refine r_iconst (pc := 459) (v := 2) dL_law_459 (by decide) ?_
      refine r_iadd (pc := 460) (v := (nI 2)) dL_law_460 (by decide) ?_
      refine w_sld (pc := 461) (v := (xs 2)) dL_law_461 (show vp_in (nI 2) 7 from vp_in_nI (by decide) (by decide)) (congrArg xs (nI_clamp (by decide))) ?_
      refine r_i2l (pc := 462) (v := ((xs 2).toInt64)) dL_law_462 (rfl) ?_
      refine r_bipush (pc := 463) (v := 32) dL_law_463 (by decide) ?_
      refine r_lshl (pc := 465) dL_law_465 ?_
      refine r_aload_n (pc := 466) dL_law_466 (i := 0) rfl rfl ?_
      refine r_iload_n (pc := 467) dL_law_467 (i := 3) rfl rfl ?_
      refine r_iconst (pc := 468) (v := 3) dL_law_468 (by decide) ?_
      refine r_iadd (pc := 469) (v := (nI 3)) dL_law_469 (by decide) ?_
      refine w_sld (pc := 470) (v := (xs 3)) dL_law_470 (show vp_in (nI 3) 7 from vp_in_nI (by decide) (by decide)) (congrArg xs (nI_clamp (by decide))) ?_
      refine r_i2l (pc := 471) (v := ((xs 3).toInt64)) dL_law_471 (rfl) ?_
      refine r_ldc2 (pc := 472) (v := 4294967295) dL_law_472 kL_42 ?_
      refine r_land (pc := 475) (v := (((xs 3).toInt64) &&& 4294967295)) dL_law_475 (rfl) ?_
      refine r_lor (pc := 476) (v := ((((xs 2).toInt64) <<< ((32 : Int32).toInt64 &&& 63)) ||| (((xs 3).toInt64) &&& 4294967295))) dL_law_476 (rfl) ?_
      refine r_aload_n (pc := 477) dL_law_477 (i := 0) rfl rfl ?_
      refine r_iload_n (pc := 478) dL_law_478 (i := 3) rfl rfl ?_
      refine r_iconst (pc := 479) (v := 4) dL_law_479 (by decide) ?_
      refine r_iadd (pc := 480) (v := (nI 4)) dL_law_480 (by decide) ?_
      refine w_sld (pc := 481) (v := (xs 4)) dL_law_481 (show vp_in (nI 4) 7 from vp_in_nI (by decide) (by decide)) (congrArg xs (nI_clamp (by decide))) ?_
      refine r_aload_n (pc := 482) dL_law_482 (i := 0) rfl rfl ?_
      refine r_iload_n (pc := 483) dL_law_483 (i := 3) rfl rfl ?_
      refine r_iconst (pc := 484) (v := 5) dL_law_484 (by decide) ?_
      refine r_iadd (pc := 485) (v := (nI 5)) dL_law_485 (by decide) ?_
      refine w_sld (pc := 486) (v := (xs 5)) dL_law_486 (show vp_in (nI 5) 7 from vp_in_nI (by decide) (by decide)) (congrArg xs (nI_clamp (by decide))) ?_
      refine r_i2l (pc := 487) (v := ((xs 5).toInt64)) dL_law_487 (rfl) ?_
      refine r_bipush (pc := 488) (v := 32) dL_law_488 (by decide) ?_
      refine r_lshl (pc := 490) dL_law_490 ?_
      refine r_aload_n (pc := 491) dL_law_491 (i := 0) rfl rfl ?_
      refine r_iload_n (pc := 492) dL_law_492 (i := 3) rfl rfl ?_
      refine r_bipush (pc := 493) (v := 6) dL_law_493 (by decide) ?_
      refine r_iadd (pc := 495) (v := (nI 6)) dL_law_495 (by decide) ?_
      refine w_sld (pc := 496) (v := (xs 6)) dL_law_496 (show vp_in (nI 6) 7 from vp_in_nI (by decide) (by decide)) (congrArg xs (nI_clamp (by decide))) ?_
      refine r_i2l (pc := 497) (v := ((xs 6).toInt64)) dL_law_497 (rfl) ?_
      refine r_ldc2 (pc := 498) (v := 4294967295) dL_law_498 kL_42 ?_
      refine r_land (pc := 501) (v := (((xs 6).toInt64) &&& 4294967295)) dL_law_501 (rfl) ?_
      refine r_lor (pc := 502) (v := ((((xs 5).toInt64) <<< ((32 : Int32).toInt64 &&& 63)) ||| (((xs 6).toInt64) &&& 4294967295))) dL_law_502 (rfl) ?_
      have h_34 : hp_23 y = some (.inr (11, [.int 0, .int 0, .ref mm_sorts, .ref mm_sizes, .ref mm_directs, .ref mm_many, .ref mm_from, .ref mm_to, .ref mm_weight, .ref mm_cost, .ref mm_numbers, .ref mm_state, .ref mm_worth, .ref mm_long1, .ref mm_howMany, .ref mm_rows, .ref mm_inPart, .ref mm_partCount, .ref mm_nf, .ref mm_nt, .ref mm_nw, .ref mm_nc, .int 0, .ref mm_column, .ref mm_next, .ref mm_inside, .ref mm_beside, .ref mm_solid, .ref mm_below, .ref mm_best, .ref mm_ways1, .ref mm_round, .ref mm_round2, .ref mm_label, .ref mm_bridge, .ref mm_outs, .ref mm_ins, .ref mm_least, .ref mm_spans, .ref mm_joinedWith, .ref mm_gone, .ref mm_dear, .ref mm_by, .ref mm_ahead, .ref mm_image])) := (ho_30 y _ gc7 (ne_c gc7 gc0 (by intro h9; cases h9)) (ne_c gc7 gc1 (by intro h9; cases h9)))
      have h_35 : hp_23 mm_sorts = some (.inl (cI, 121, .inl (fun _ => 0))) := (ho_30 mm_sorts _ gc8 (ne_c gc8 gc0 (by intro h9; cases h9)) (ne_c gc8 gc1 (by simp)))
      have h_36 : hp_23 mm_sizes = some (.inl (cI, 121, .inl (upd (fun _ => 0) 120 1))) := (ho_30 mm_sizes _ gc9 (ne_c gc9 gc0 (by intro h9; cases h9)) (ne_c gc9 gc1 (by simp)))
      have h_37 : hp_23 mm_numbers = some (.inl (cJ, 1936, .inr (.inl (fun _ => 0)))) := (ho_30 mm_numbers _ gc16 (ne_c gc16 gc0 (by intro h9; cases h9)) (ne_c gc16 gc1 (by simp)))
      have h_38 : hp_23 mm_column = some (.inl (cJ, 16, .inr (.inl (fun _ => 0)))) := (ho_30 mm_column _ gc17 (ne_c gc17 gc0 (by intro h9; cases h9)) (ne_c gc17 gc1 (by simp)))
      refine r_callV (pc := 503) (as := [.int ((nI N)), .long (((((xs 2).toInt64) <<< ((32 : Int32).toInt64 &&& 63)) ||| (((xs 3).toInt64) &&& 4294967295))), .int ((xs 4)), .long (((((xs 5).toInt64) <<< ((32 : Int32).toInt64 &&& 63)) ||| (((xs 6).toInt64) &&& 4294967295)))]) (st := [.int ((nI 0))]) kL_48 rfl dL_law_503 h_34 (c_X12_flat (d := d - 1) (y := y) (mm_sorts := mm_sorts) (mm_sizes := mm_sizes) (mm_directs := mm_directs) (mm_many := mm_many) (mm_from := mm_from) (mm_to := mm_to) (mm_weight := mm_weight) (mm_cost := mm_cost) (mm_numbers := mm_numbers) (mm_state := mm_state) (mm_worth := mm_worth) (mm_long1 := mm_long1) (mm_howMany := mm_howMany) (mm_rows := mm_rows) (mm_inPart := mm_inPart) (mm_partCount := mm_partCount) (mm_nf := mm_nf) (mm_nt := mm_nt) (mm_nw := mm_nw) (mm_nc := mm_nc) (mm_column := mm_column) (mm_next := mm_next) (mm_inside := mm_inside) (mm_beside := mm_beside) (mm_solid := mm_solid) (mm_below := mm_below) (mm_best := mm_best) (mm_ways1 := mm_ways1) (mm_round := mm_round) (mm_round2 := mm_round2) (mm_label := mm_label) (mm_bridge := mm_bridge) (mm_outs := mm_outs) (mm_ins := mm_ins) (mm_least := mm_least) (mm_spans := mm_spans) (mm_joinedWith := mm_joinedWith) (mm_gone := mm_gone) (mm_dear := mm_dear) (mm_by := mm_by) (mm_ahead := mm_ahead) (mm_image := mm_image) (rf := 0) (nm := 0) (p2 := ((((xs 2).toInt64) <<< ((32 : Int32).toInt64 &&& 63)) ||| (((xs 3).toInt64) &&& 4294967295))) (p4 := (xs 4)) (p5 := ((((xs 5).toInt64) <<< ((32 : Int32).toInt64 &&& 63)) ||| (((xs 6).toInt64) &&& 4294967295))) (i := 0) (N := N) (f0 := fun _ => 0) (f1 := upd (fun _ => 0) 120 1) (nu := fun _ => 0) (col := fun _ => 0) (by omega) h_34 h_35 h_36 h_37 h_38 (by omega) (h1N) (hN) (hb0.2.2.1) (h5) (ne_mm_sorts_mm_sizes) (ne_nu_col)) rfl (by omega) (Nat.le_of_ble_eq_true rfl) (by omega) (by omega) rfl (fun r9 hp_31 nn_32 hq_33 => ?_)
      obtain ⟨rfl, hq_33n, h_39, h_40, h_41, h_42, h_43, ho_44⟩ := hq_33
      subst nn_32
      change Rn _ _ _ 506 _ [.int ((nI 0)), .int ((nI 0))] _ _ _ _ _
      refine r_icmp_eq (pc := 506) (tgt := 1077) dL_law_506 (by decide) (fun _ => ?_) (fun c9 => absurd (rfl) c9)
      refine Rn.pick (lv' := [(0, .ref b), (1, .ref x), (2, .ref y), (3, .int ((nI 0)))]) [0, 1, 2, 3] rfl ?_
      exact law_end
  · refine r_aload_n (pc := 396) dL_law_396 (i := 1) rfl rfl ?_
    refine r_aload_n (pc := 397) dL_law_397 (i := 0) rfl rfl ?_
    refine r_iload_n (pc := 398) dL_law_398 (i := 3) rfl rfl ?_
    refine r_iconst (pc := 399) (v := 1) dL_law_399 (by decide) ?_
    refine r_iadd (pc := 400) (v := (nI 1)) dL_law_400 (by decide) ?_
    refine w_sld (pc := 401) (v := (xs 1)) dL_law_401 (show vp_in (nI 1) 7 from vp_in_nI (by decide) (by decide)) (congrArg xs (nI_clamp (by decide))) ?_
    refine r_aload_n (pc := 402) dL_law_402 (i := 0) rfl rfl ?_
    refine r_iload_n (pc := 403) dL_law_403 (i := 3) rfl rfl ?_
    refine r_iconst (pc := 404) (v := 2) dL_law_404 (by decide) ?_
    refine r_iadd (pc := 405) (v := (nI 2)) dL_law_405 (by decide) ?_
    refine w_sld (pc := 406) (v := (xs 2)) dL_law_406 (show vp_in (nI 2) 7 from vp_in_nI (by decide) (by decide)) (congrArg xs (nI_clamp (by decide))) ?_
    refine r_i2l (pc := 407) (v := ((xs 2).toInt64)) dL_law_407 (rfl) ?_
    refine r_bipush (pc := 408) (v := 32) dL_law_408 (by decide) ?_
    refine r_lshl (pc := 410) dL_law_410 ?_
    refine r_aload_n (pc := 411) dL_law_411 (i := 0) rfl rfl ?_
    refine r_iload_n (pc := 412) dL_law_412 (i := 3) rfl rfl ?_
    refine r_iconst (pc := 413) (v := 3) dL_law_413 (by decide) ?_
    refine r_iadd (pc := 414) (v := (nI 3)) dL_law_414 (by decide) ?_
    refine w_sld (pc := 415) (v := (xs 3)) dL_law_415 (show vp_in (nI 3) 7 from vp_in_nI (by decide) (by decide)) (congrArg xs (nI_clamp (by decide))) ?_
    refine r_i2l (pc := 416) (v := ((xs 3).toInt64)) dL_law_416 (rfl) ?_
    refine r_ldc2 (pc := 417) (v := 4294967295) dL_law_417 kL_42 ?_
    refine r_land (pc := 420) (v := (((xs 3).toInt64) &&& 4294967295)) dL_law_420 (rfl) ?_
    refine r_lor (pc := 421) (v := ((((xs 2).toInt64) <<< ((32 : Int32).toInt64 &&& 63)) ||| (((xs 3).toInt64) &&& 4294967295))) dL_law_421 (rfl) ?_
    refine r_aload_n (pc := 422) dL_law_422 (i := 0) rfl rfl ?_
    refine r_iload_n (pc := 423) dL_law_423 (i := 3) rfl rfl ?_
    refine r_iconst (pc := 424) (v := 4) dL_law_424 (by decide) ?_
    refine r_iadd (pc := 425) (v := (nI 4)) dL_law_425 (by decide) ?_
    refine w_sld (pc := 426) (v := (xs 4)) dL_law_426 (show vp_in (nI 4) 7 from vp_in_nI (by decide) (by decide)) (congrArg xs (nI_clamp (by decide))) ?_
    refine r_aload_n (pc := 427) dL_law_427 (i := 0) rfl rfl ?_
    refine r_iload_n (pc := 428) dL_law_428 (i := 3) rfl rfl ?_
    refine r_iconst (pc := 429) (v := 5) dL_law_429 (by decide) ?_
    refine r_iadd (pc := 430) (v := (nI 5)) dL_law_430 (by decide) ?_
    refine w_sld (pc := 431) (v := (xs 5)) dL_law_431 (show vp_in (nI 5) 7 from vp_in_nI (by decide) (by decide)) (congrArg xs (nI_clamp (by decide))) ?_
    refine r_i2l (pc := 432) (v := ((xs 5).toInt64)) dL_law_432 (rfl) ?_
    refine r_bipush (pc := 433) (v := 32) dL_law_433 (by decide) ?_
    refine r_lshl (pc := 435) dL_law_435 ?_
    refine r_aload_n (pc := 436) dL_law_436 (i := 0) rfl rfl ?_
    refine r_iload_n (pc := 437) dL_law_437 (i := 3) rfl rfl ?_
    refine r_bipush (pc := 438) (v := 6) dL_law_438 (by decide) ?_
    refine r_iadd (pc := 440) (v := (nI 6)) dL_law_440 (by decide) ?_
    refine w_sld (pc := 441) (v := (xs 6)) dL_law_441 (show vp_in (nI 6) 7 from vp_in_nI (by decide) (by decide)) (congrArg xs (nI_clamp (by decide))) ?_
    refine r_i2l (pc := 442) (v := ((xs 6).toInt64)) dL_law_442 (rfl) ?_
    refine r_ldc2 (pc := 443) (v := 4294967295) dL_law_443 kL_42 ?_
    refine r_land (pc := 446) (v := (((xs 6).toInt64) &&& 4294967295)) dL_law_446 (rfl) ?_
    refine r_lor (pc := 447) (v := ((((xs 5).toInt64) <<< ((32 : Int32).toInt64 &&& 63)) ||| (((xs 6).toInt64) &&& 4294967295))) dL_law_447 (rfl) ?_
    refine r_callV (pc := 448) (as := [.int ((xs 1)), .long (((((xs 2).toInt64) <<< ((32 : Int32).toInt64 &&& 63)) ||| (((xs 3).toInt64) &&& 4294967295))), .int ((xs 4)), .long (((((xs 5).toInt64) <<< ((32 : Int32).toInt64 &&& 63)) ||| (((xs 6).toInt64) &&& 4294967295)))]) (st := []) kL_44 rfl dL_law_448 gc0 (c_X11_flat_no (d := d - 1) (x := x) (th := th) (dr := dr) (sk := sk) (sh := sh) (se := se) (pa := pa) (fl := fl) (sa := sa) (cnt := 0) (rf := 0) (p1 := (xs 1)) (p2 := ((((xs 2).toInt64) <<< ((32 : Int32).toInt64 &&& 63)) ||| (((xs 3).toInt64) &&& 4294967295))) (p4 := (xs 4)) (p5 := ((((xs 5).toInt64) <<< ((32 : Int32).toInt64 &&& 63)) ||| (((xs 6).toInt64) &&& 4294967295))) (by omega) gc0 (hb0)) rfl (by omega) (Nat.le_of_ble_eq_true rfl) (by omega) (by omega) rfl (fun r9 hp_45 nn_46 hq_47 => ?_)
    obtain ⟨rfl, hq_47n, h_48, ho_49⟩ := hq_47
    subst nn_46
    change Rn _ _ _ 451 _ [.int ((-3))] _ _ _ _ _
    refine r_aload_n (pc := 451) dL_law_451 (i := 2) rfl rfl ?_
    refine r_aload_n (pc := 452) dL_law_452 (i := 0) rfl rfl ?_
    refine r_iload_n (pc := 453) dL_law_453 (i := 3) rfl rfl ?_
    refine r_iconst (pc := 454) (v := 1) dL_law_454 (by decide) ?_
    refine r_iadd (pc := 455) (v := (nI 1)) dL_law_455 (by decide) ?_
    refine w_sld (pc := 456) (v := (xs 1)) dL_law_456 (show vp_in (nI 1) 7 from vp_in_nI (by decide) (by decide)) (congrArg xs (nI_clamp (by decide))) ?_
    refine r_aload_n (pc := 457) dL_law_457 (i := 0) rfl rfl ?_
    refine r_iload_n (pc := 458) dL_law_458 (i := 3) rfl rfl ?_
    refine r_iconst (pc := 459) (v := 2) dL_law_459 (by decide) ?_
    refine r_iadd (pc := 460) (v := (nI 2)) dL_law_460 (by decide) ?_
    refine w_sld (pc := 461) (v := (xs 2)) dL_law_461 (show vp_in (nI 2) 7 from vp_in_nI (by decide) (by decide)) (congrArg xs (nI_clamp (by decide))) ?_
    refine r_i2l (pc := 462) (v := ((xs 2).toInt64)) dL_law_462 (rfl) ?_
    refine r_bipush (pc := 463) (v := 32) dL_law_463 (by decide) ?_
    refine r_lshl (pc := 465) dL_law_465 ?_
    refine r_aload_n (pc := 466) dL_law_466 (i := 0) rfl rfl ?_
    refine r_iload_n (pc := 467) dL_law_467 (i := 3) rfl rfl ?_
    refine r_iconst (pc := 468) (v := 3) dL_law_468 (by decide) ?_
    refine r_iadd (pc := 469) (v := (nI 3)) dL_law_469 (by decide) ?_
    refine w_sld (pc := 470) (v := (xs 3)) dL_law_470 (show vp_in (nI 3) 7 from vp_in_nI (by decide) (by decide)) (congrArg xs (nI_clamp (by decide))) ?_
    refine r_i2l (pc := 471) (v := ((xs 3).toInt64)) dL_law_471 (rfl) ?_
    refine r_ldc2 (pc := 472) (v := 4294967295) dL_law_472 kL_42 ?_
    refine r_land (pc := 475) (v := (((xs 3).toInt64) &&& 4294967295)) dL_law_475 (rfl) ?_
    refine r_lor (pc := 476) (v := ((((xs 2).toInt64) <<< ((32 : Int32).toInt64 &&& 63)) ||| (((xs 3).toInt64) &&& 4294967295))) dL_law_476 (rfl) ?_
    refine r_aload_n (pc := 477) dL_law_477 (i := 0) rfl rfl ?_
    refine r_iload_n (pc := 478) dL_law_478 (i := 3) rfl rfl ?_
    refine r_iconst (pc := 479) (v := 4) dL_law_479 (by decide) ?_
    refine r_iadd (pc := 480) (v := (nI 4)) dL_law_480 (by decide) ?_
    refine w_sld (pc := 481) (v := (xs 4)) dL_law_481 (show vp_in (nI 4) 7 from vp_in_nI (by decide) (by decide)) (congrArg xs (nI_clamp (by decide))) ?_
    refine r_aload_n (pc := 482) dL_law_482 (i := 0) rfl rfl ?_
    refine r_iload_n (pc := 483) dL_law_483 (i := 3) rfl rfl ?_
    refine r_iconst (pc := 484) (v := 5) dL_law_484 (by decide) ?_
    refine r_iadd (pc := 485) (v := (nI 5)) dL_law_485 (by decide) ?_
    refine w_sld (pc := 486) (v := (xs 5)) dL_law_486 (show vp_in (nI 5) 7 from vp_in_nI (by decide) (by decide)) (congrArg xs (nI_clamp (by decide))) ?_
    refine r_i2l (pc := 487) (v := ((xs 5).toInt64)) dL_law_487 (rfl) ?_
    refine r_bipush (pc := 488) (v := 32) dL_law_488 (by decide) ?_
    refine r_lshl (pc := 490) dL_law_490 ?_
    refine r_aload_n (pc := 491) dL_law_491 (i := 0) rfl rfl ?_
    refine r_iload_n (pc := 492) dL_law_492 (i := 3) rfl rfl ?_
    refine r_bipush (pc := 493) (v := 6) dL_law_493 (by decide) ?_
    refine r_iadd (pc := 495) (v := (nI 6)) dL_law_495 (by decide) ?_
    refine w_sld (pc := 496) (v := (xs 6)) dL_law_496 (show vp_in (nI 6) 7 from vp_in_nI (by decide) (by decide)) (congrArg xs (nI_clamp (by decide))) ?_
    refine r_i2l (pc := 497) (v := ((xs 6).toInt64)) dL_law_497 (rfl) ?_
    refine r_ldc2 (pc := 498) (v := 4294967295) dL_law_498 kL_42 ?_
    refine r_land (pc := 501) (v := (((xs 6).toInt64) &&& 4294967295)) dL_law_501 (rfl) ?_
    refine r_lor (pc := 502) (v := ((((xs 5).toInt64) <<< ((32 : Int32).toInt64 &&& 63)) ||| (((xs 6).toInt64) &&& 4294967295))) dL_law_502 (rfl) ?_
    have h_53 : hp_45 y = some (.inr (11, [.int 0, .int 0, .ref mm_sorts, .ref mm_sizes, .ref mm_directs, .ref mm_many, .ref mm_from, .ref mm_to, .ref mm_weight, .ref mm_cost, .ref mm_numbers, .ref mm_state, .ref mm_worth, .ref mm_long1, .ref mm_howMany, .ref mm_rows, .ref mm_inPart, .ref mm_partCount, .ref mm_nf, .ref mm_nt, .ref mm_nw, .ref mm_nc, .int 0, .ref mm_column, .ref mm_next, .ref mm_inside, .ref mm_beside, .ref mm_solid, .ref mm_below, .ref mm_best, .ref mm_ways1, .ref mm_round, .ref mm_round2, .ref mm_label, .ref mm_bridge, .ref mm_outs, .ref mm_ins, .ref mm_least, .ref mm_spans, .ref mm_joinedWith, .ref mm_gone, .ref mm_dear, .ref mm_by, .ref mm_ahead, .ref mm_image])) := (ho_49 y _ gc7 (ne_c gc7 gc0 (by intro h9; cases h9)))
    refine r_callV (pc := 503) (as := [.int ((xs 1)), .long (((((xs 2).toInt64) <<< ((32 : Int32).toInt64 &&& 63)) ||| (((xs 3).toInt64) &&& 4294967295))), .int ((xs 4)), .long (((((xs 5).toInt64) <<< ((32 : Int32).toInt64 &&& 63)) ||| (((xs 6).toInt64) &&& 4294967295)))]) (st := [.int ((-3))]) kL_48 rfl dL_law_503 h_53 (c_X12_flat_no (d := d - 1) (y := y) (mm_sorts := mm_sorts) (mm_sizes := mm_sizes) (mm_directs := mm_directs) (mm_many := mm_many) (mm_from := mm_from) (mm_to := mm_to) (mm_weight := mm_weight) (mm_cost := mm_cost) (mm_numbers := mm_numbers) (mm_state := mm_state) (mm_worth := mm_worth) (mm_long1 := mm_long1) (mm_howMany := mm_howMany) (mm_rows := mm_rows) (mm_inPart := mm_inPart) (mm_partCount := mm_partCount) (mm_nf := mm_nf) (mm_nt := mm_nt) (mm_nw := mm_nw) (mm_nc := mm_nc) (mm_column := mm_column) (mm_next := mm_next) (mm_inside := mm_inside) (mm_beside := mm_beside) (mm_solid := mm_solid) (mm_below := mm_below) (mm_best := mm_best) (mm_ways1 := mm_ways1) (mm_round := mm_round) (mm_round2 := mm_round2) (mm_label := mm_label) (mm_bridge := mm_bridge) (mm_outs := mm_outs) (mm_ins := mm_ins) (mm_least := mm_least) (mm_spans := mm_spans) (mm_joinedWith := mm_joinedWith) (mm_gone := mm_gone) (mm_dear := mm_dear) (mm_by := mm_by) (mm_ahead := mm_ahead) (mm_image := mm_image) (rf := 0) (cnt := 0) (nm := 0) (p1 := (xs 1)) (p2 := ((((xs 2).toInt64) <<< ((32 : Int32).toInt64 &&& 63)) ||| (((xs 3).toInt64) &&& 4294967295))) (p4 := (xs 4)) (p5 := ((((xs 5).toInt64) <<< ((32 : Int32).toInt64 &&& 63)) ||| (((xs 6).toInt64) &&& 4294967295))) (by omega) h_53 (hb0)) rfl (by omega) (Nat.le_of_ble_eq_true rfl) (by omega) (by omega) rfl (fun r9 hp_50 nn_51 hq_52 => ?_)
    obtain ⟨rfl, hq_52n, h_54, ho_55⟩ := hq_52
    subst nn_51
    change Rn _ _ _ 506 _ [.int ((-3)), .int ((-3))] _ _ _ _ _
    refine r_icmp_eq (pc := 506) (tgt := 1077) dL_law_506 (by decide) (fun _ => ?_) (fun c9 => absurd (rfl) c9)
    refine Rn.pick (lv' := [(0, .ref b), (1, .ref x), (2, .ref y), (3, .int ((nI 0)))]) [0, 1, 2, 3] rfl ?_
    exact law_end
