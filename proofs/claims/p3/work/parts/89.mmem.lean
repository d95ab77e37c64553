def mbF (f : Nat → Int32) (p : Nat) (k : Int32) : Nat → Int32
  | 0 => 0
  | v + 1 => mbF f p k v ||| (if f (p + v) = k then 1 <<< (nI v &&& 31) else 0)
theorem mbF_t {f : Nat → Int32} {p : Nat} {k : Int32} {v : Nat} (h : f (p + v) = k) : mbF f p k v ||| (1 <<< (nI v &&& 31)) = mbF f p k (v + 1) := by simp only [mbF]; rw [if_pos h]
theorem mbF_f {f : Nat → Int32} {p : Nat} {k : Int32} {v : Nat} (h : f (p + v) ≠ k) : mbF f p k v ||| 0 = mbF f p k (v + 1) := by simp only [mbF]; rw [if_neg h]
set_option maxHeartbeats 4000000 in
set_option maxRecDepth 100000 in
theorem c_X12_members {D : va_G} {cI cJ cZ cT : ClassId} {lo b L : Nat} {xs : Nat → Int32} {hp : MH} {n d : Nat} {y mm_sorts mm_sizes mm_directs mm_many mm_from mm_to mm_weight mm_cost mm_numbers mm_state mm_worth mm_long1 mm_howMany mm_rows mm_inPart mm_partCount mm_nf mm_nt mm_nw mm_nc mm_column mm_next mm_inside mm_beside mm_solid mm_below mm_best mm_ways1 mm_round mm_round2 mm_label mm_bridge mm_outs mm_ins mm_least mm_spans mm_joinedWith mm_gone mm_dear mm_by mm_ahead mm_image : Nat} {rf nm : Int32} {c h N : Nat} {f0 f1 : Nat → Int32} {p2 : Int32} {ip : Nat → Int32} (hd0 : 2 ≤ d) (gc0 : hp y = some (.inr (11, [.int rf, .int ((nI c)), .ref mm_sorts, .ref mm_sizes, .ref mm_directs, .ref mm_many, .ref mm_from, .ref mm_to, .ref mm_weight, .ref mm_cost, .ref mm_numbers, .ref mm_state, .ref mm_worth, .ref mm_long1, .ref mm_howMany, .ref mm_rows, .ref mm_inPart, .ref mm_partCount, .ref mm_nf, .ref mm_nt, .ref mm_nw, .ref mm_nc, .int nm, .ref mm_column, .ref mm_next, .ref mm_inside, .ref mm_beside, .ref mm_solid, .ref mm_below, .ref mm_best, .ref mm_ways1, .ref mm_round, .ref mm_round2, .ref mm_label, .ref mm_bridge, .ref mm_outs, .ref mm_ins, .ref mm_least, .ref mm_spans, .ref mm_joinedWith, .ref mm_gone, .ref mm_dear, .ref mm_by, .ref mm_ahead, .ref mm_image]))) (gc1 : hp mm_sorts = some (.inl (cI, 121, .inl (f0)))) (gc2 : hp mm_sizes = some (.inl (cI, 121, .inl (f1)))) (gc3 : hp mm_inPart = some (.inl (cI, 1936, .inl (ip)))) (hh : h < c) (hc : c ≤ 120) (hs : f0 h = 4) (e1 : f1 h = nI N) (hN : N ≤ 16) : Mt (gG D cI cJ cZ cT lo b L xs) mX12_members d 0 0 [.ref y, .int ((nI h)), .int p2] hp n (fun r hp1 n1 => r = some (.int ((mbF ip (16 * h) p2 N))) ∧ n1 = n ∧ hp1 y = some (.inr (11, [.int 0, .int ((nI c)), .ref mm_sorts, .ref mm_sizes, .ref mm_directs, .ref mm_many, .ref mm_from, .ref mm_to, .ref mm_weight, .ref mm_cost, .ref mm_numbers, .ref mm_state, .ref mm_worth, .ref mm_long1, .ref mm_howMany, .ref mm_rows, .ref mm_inPart, .ref mm_partCount, .ref mm_nf, .ref mm_nt, .ref mm_nw, .ref mm_nc, .int nm, .ref mm_column, .ref mm_next, .ref mm_inside, .ref mm_beside, .ref mm_solid, .ref mm_below, .ref mm_best, .ref mm_ways1, .ref mm_round, .ref mm_round2, .ref mm_label, .ref mm_bridge, .ref mm_outs, .ref mm_ins, .ref mm_least, .ref mm_spans, .ref mm_joinedWith, .ref mm_gone, .ref mm_dear, .ref mm_by, .ref mm_ahead, .ref mm_image])) ∧ ∀ (q : Nat) (e9 : va_E), hp q = some e9 → q ≠ y → hp1 q = some e9) := by
  refine Mt.of rfl (Nat.le_of_ble_eq_true rfl) ?_
  refine Rn.pick (lv' := [(0, .ref y), (1, .int ((nI h))), (2, .int p2)]) [0, 1, 2] rfl ?_
  refine r_aload_n (pc := 0) dX12_members_0 (i := 0) rfl rfl ?_
  refine r_iload_n (pc := 1) dX12_members_1 (i := 1) rfl rfl ?_
  refine r_iconst (pc := 2) (v := 4) dX12_members_2 (by decide) ?_
  refine r_callV (pc := 3) (as := [.int ((nI h)), .int 4]) (st := []) kX12_183 rfl dX12_members_3 gc0 (c_X12_has_y (d := d - 1) (y := y) (rf := rf) (mm_sorts := mm_sorts) (mm_sizes := mm_sizes) (mm_directs := mm_directs) (mm_many := mm_many) (mm_from := mm_from) (mm_to := mm_to) (mm_weight := mm_weight) (mm_cost := mm_cost) (mm_numbers := mm_numbers) (mm_state := mm_state) (mm_worth := mm_worth) (mm_long1 := mm_long1) (mm_howMany := mm_howMany) (mm_rows := mm_rows) (mm_inPart := mm_inPart) (mm_partCount := mm_partCount) (mm_nf := mm_nf) (mm_nt := mm_nt) (mm_nw := mm_nw) (mm_nc := mm_nc) (nm := nm) (mm_column := mm_column) (mm_next := mm_next) (mm_inside := mm_inside) (mm_beside := mm_beside) (mm_solid := mm_solid) (mm_below := mm_below) (mm_best := mm_best) (mm_ways1 := mm_ways1) (mm_round := mm_round) (mm_round2 := mm_round2) (mm_label := mm_label) (mm_bridge := mm_bridge) (mm_outs := mm_outs) (mm_ins := mm_ins) (mm_least := mm_least) (mm_spans := mm_spans) (mm_joinedWith := mm_joinedWith) (mm_gone := mm_gone) (mm_dear := mm_dear) (mm_by := mm_by) (mm_ahead := mm_ahead) (mm_image := mm_image) (c := c) (h := h) (p2 := 4) (f0 := f0) (by omega) gc0 gc1 (hh) (hc) (hs)) rfl (by omega) (Nat.le_of_ble_eq_true rfl) (by omega) (by omega) rfl (fun r9 hp_1 nn_2 hq_3 => ?_)
  obtain ⟨rfl, hq_3n, h_4, ho_5⟩ := hq_3
  subst nn_2
  change Rn _ _ _ 6 _ [.int 1] _ _ _ _ _
  refine r_if_ne (pc := 6) (tgt := 11) dX12_members_6 (by decide) (fun _ => ?_) (fun c9 => absurd (by decide) c9)
  refine r_iconst (pc := 11) (v := 0) dX12_members_11 (by decide) ?_
  refine r_istore_n (pc := 12) (lv' := [(3, .int 0), (0, .ref y), (1, .int ((nI h))), (2, .int p2)]) dX12_members_12 (i := 3) rfl (by decide) rfl ?_
  refine r_iconst (pc := 13) (v := 0) dX12_members_13 (by decide) ?_
  refine r_istore (pc := 14) (lv' := [(4, .int 0), (3, .int 0), (0, .ref y), (1, .int ((nI h))), (2, .int p2)]) dX12_members_14 (by decide) rfl ?_
  have h_6 : hp_1 mm_sorts = some (.inl (cI, 121, .inl (f0))) := (ho_5 mm_sorts _ gc1 (ne_c gc1 gc0 (by intro h9; cases h9)))
  have h_7 : hp_1 mm_sizes = some (.inl (cI, 121, .inl (f1))) := (ho_5 mm_sizes _ gc2 (ne_c gc2 gc0 (by intro h9; cases h9)))
  have h_8 : hp_1 mm_inPart = some (.inl (cI, 1936, .inl (ip))) := (ho_5 mm_inPart _ gc3 (ne_c gc3 gc0 (by intro h9; cases h9)))
  have lp : ∀ v : Nat, v ≤ N → Rn (gG D cI cJ cZ cT lo b L xs) mX12_members d 16 [(0, .ref y), (1, .int ((nI h))), (2, .int p2), (3, .int ((mbF ip (16 * h) p2 v))), (4, .int ((nI v)))] [] hp_1 n 0 0 (fun r hp1 n1 => r = some (.int ((mbF ip (16 * h) p2 N))) ∧ n1 = n ∧ hp1 y = some (.inr (11, [.int 0, .int ((nI c)), .ref mm_sorts, .ref mm_sizes, .ref mm_directs, .ref mm_many, .ref mm_from, .ref mm_to, .ref mm_weight, .ref mm_cost, .ref mm_numbers, .ref mm_state, .ref mm_worth, .ref mm_long1, .ref mm_howMany, .ref mm_rows, .ref mm_inPart, .ref mm_partCount, .ref mm_nf, .ref mm_nt, .ref mm_nw, .ref mm_nc, .int nm, .ref mm_column, .ref mm_next, .ref mm_inside, .ref mm_beside, .ref mm_solid, .ref mm_below, .ref mm_best, .ref mm_ways1, .ref mm_round, .ref mm_round2, .ref mm_label, .ref mm_bridge, .ref mm_outs, .ref mm_ins, .ref mm_least, .ref mm_spans, .ref mm_joinedWith, .ref mm_gone, .ref mm_dear, .ref mm_by, .ref mm_ahead, .ref mm_image])) ∧ ∀ (q : Nat) (e9 : va_E), hp q = some e9 → q ≠ y → hp1 q = some e9) := by
    refine lpN _ N ?_
    intro v hv ih
    refine r_iload (pc := 16) dX12_members_16 rfl ?_
    refine r_aload_n (pc := 18) dX12_members_18 (i := 0) rfl rfl ?_
    refine r_get (pc := 19) (v := .ref mm_sizes) fX12_13 dX12_members_19 h_4 rfl ?_
    refine r_iload_n (pc := 22) dX12_members_22 (i := 1) rfl rfl ?_
    refine w_iald (pc := 23) (t0 := 0) (v := (nI N)) dX12_members_23 rfl h_7 (vp_in_nI (by omega) (by omega)) (by rw [nI_clamp (by omega)]; exact e1) ?_
    refine r_icmp_ge (pc := 24) (tgt := 60) dX12_members_24 (by decide) (fun c24 => ?_) (fun c24 => ?_)
    · have e9 : v = N := by have := (nI_leI (a := N) (b := v) (by omega) (by omega)).mp c24; omega
      subst e9
      refine r_iload_n (pc := 60) dX12_members_60 (i := 3) rfl rfl ?_
      exact r_iret (pc := 61) dX12_members_61 rfl (⟨rfl, rfl, h_4, fun q e9 h9 n9_0 => (ho_5 q e9 h9 n9_0)⟩)
    · have hlt : v < N := by have := mt (nI_leI (a := N) (b := v) (by omega) (by omega)).mpr c24; omega
      refine r_iload_n (pc := 27) dX12_members_27 (i := 3) rfl rfl ?_
      refine r_aload_n (pc := 28) dX12_members_28 (i := 0) rfl rfl ?_
      refine r_get (pc := 29) (v := .ref mm_inPart) fX12_54 dX12_members_29 h_4 rfl ?_
      refine r_bipush (pc := 32) (v := (nI 16)) dX12_members_32 (by decide) ?_
      refine r_iload_n (pc := 34) dX12_members_34 (i := 1) rfl rfl ?_
      refine r_imul (pc := 35) (v := (nI (16 * h))) dX12_members_35 (pk_mul 16 h) ?_
      refine r_iload (pc := 36) dX12_members_36 rfl ?_
      refine r_iadd (pc := 38) (v := (nI (16 * h + v))) dX12_members_38 (nI_add _ _) ?_
      refine w_iald (pc := 39) (t0 := 0) (v := (ip (16 * h + v))) dX12_members_39 rfl h_8 (vp_in_nI (by omega) (by omega)) (congrArg ip (nI_clamp (by omega))) ?_
      refine r_iload_n (pc := 40) dX12_members_40 (i := 2) rfl rfl ?_
      refine r_icmp_ne (pc := 41) (tgt := 51) dX12_members_41 (by decide) (fun c41 => ?_) (fun c41 => ?_)
      · refine r_iconst (pc := 51) (v := 0) dX12_members_51 (by decide) ?_
        refine r_ior (pc := 52) (v := (mbF ip (16 * h) p2 (v + 1))) dX12_members_52 (mbF_f c41) ?_
        refine r_istore_n (pc := 53) (lv' := [(3, .int ((mbF ip (16 * h) p2 (v + 1)))), (0, .ref y), (1, .int ((nI h))), (2, .int p2), (4, .int ((nI v)))]) dX12_members_53 (i := 3) rfl (by decide) rfl ?_
        refine r_iinc (pc := 54) (v := (nI (v + 1))) (lv' := [(4, .int ((nI (v + 1)))), (3, .int ((mbF ip (16 * h) p2 (v + 1)))), (0, .ref y), (1, .int ((nI h))), (2, .int p2)]) dX12_members_54 rfl (nI_1 v) (by decide) rfl ?_
        refine r_goto (pc := 57) (tgt := 16) dX12_members_57 (by decide) ?_
        refine Rn.pick (lv' := [(0, .ref y), (1, .int ((nI h))), (2, .int p2), (3, .int ((mbF ip (16 * h) p2 (v + 1)))), (4, .int ((nI (v + 1))))]) [2, 3, 4, 1, 0] rfl ?_
        exact ih (v + 1) (by omega) (by omega)
      · refine r_iconst (pc := 44) (v := 1) dX12_members_44 (by decide) ?_
        refine r_iload (pc := 45) dX12_members_45 rfl ?_
        refine r_ishl (pc := 47) (v := (1 <<< ((nI v) &&& 31))) dX12_members_47 (rfl) ?_
        refine r_goto (pc := 48) (tgt := 52) dX12_members_48 (by decide) ?_
        refine r_ior (pc := 52) (v := (mbF ip (16 * h) p2 (v + 1))) dX12_members_52 (mbF_t (Decidable.not_not.mp c41)) ?_
        refine r_istore_n (pc := 53) (lv' := [(3, .int ((mbF ip (16 * h) p2 (v + 1)))), (0, .ref y), (1, .int ((nI h))), (2, .int p2), (4, .int ((nI v)))]) dX12_members_53 (i := 3) rfl (by decide) rfl ?_
        refine r_iinc (pc := 54) (v := (nI (v + 1))) (lv' := [(4, .int ((nI (v + 1)))), (3, .int ((mbF ip (16 * h) p2 (v + 1)))), (0, .ref y), (1, .int ((nI h))), (2, .int p2)]) dX12_members_54 rfl (nI_1 v) (by decide) rfl ?_
        refine r_goto (pc := 57) (tgt := 16) dX12_members_57 (by decide) ?_
        refine Rn.pick (lv' := [(0, .ref y), (1, .int ((nI h))), (2, .int p2), (3, .int ((mbF ip (16 * h) p2 (v + 1)))), (4, .int ((nI (v + 1))))]) [2, 3, 4, 1, 0] rfl ?_
        exact ih (v + 1) (by omega) (by omega)
  refine Rn.pick (lv' := [(0, .ref y), (1, .int ((nI h))), (2, .int p2), (3, .int 0), (4, .int 0)]) [2, 3, 4, 1, 0] rfl ?_
  exact lp 0 (Nat.zero_le _)
