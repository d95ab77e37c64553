def bI (q : Bool) : Int32 := if q then 1 else 0
theorem bI_t {q : Bool} (h : q = true) : bI q = 1 := by rw [h]; rfl
theorem bI_f {q : Bool} (h : q = false) : bI q = 0 := by rw [h]; rfl
theorem bI_0 {q : Bool} (h : bI q = 0) : q = false := by cases q with | false => rfl | true => exact absurd h (by decide)
theorem bI_1 {q : Bool} (h : bI q ≠ 0) : q = true := by cases q with | true => rfl | false => exact absurd rfl h
theorem bI_n (q : Bool) : narrow .boolean (.int (bI q)) = .int (bI q) := by cases q <;> rfl
theorem bI_fit (q : Bool) : fits .boolean (.int (bI q)) = true := by cases q <;> rfl
theorem rI {x y : Int32} (h : x = y) : (some (Value.int x) : Option Value) = some (Value.int y) := by rw [h]
theorem rL {x y : Int64} (h : x = y) : (some (Value.long x) : Option Value) = some (Value.long y) := by rw [h]
set_option maxHeartbeats 4000000 in
set_option maxRecDepth 100000 in
theorem c_X1_init {D : va_G} {cI cJ cZ cT : ClassId} {lo b L : Nat} {xs : Nat → Int32} {hp : MH} {n d : Nat} {a : Nat} (hd0 : 0 ≤ d) (gc0 : hp a = some (.inr (1, [.int 0, .int 0, .int 0, .null, .null, .null, .null, .null]))) : Mt (gG D cI cJ cZ cT lo b L xs) mX1_init d 5 496 [.ref a] hp n (fun r hp1 n1 => r = none ∧ n1 = n + 5 ∧ hp1 a = some (.inr (1, [.int 1, .int 0, .int 0, .ref n, .ref ((n + 1)), .ref ((n + 2)), .ref ((n + 3)), .ref ((n + 4))])) ∧ hp1 n = some (.inl (cI, 60, .inl (fun _ => 0))) ∧ hp1 (n + 1) = some (.inl (cI, 60, .inl (fun _ => 0))) ∧ hp1 (n + 2) = some (.inl (cI, 60, .inl (fun _ => 0))) ∧ hp1 (n + 3) = some (.inl (cI, 60, .inl (fun _ => 0))) ∧ hp1 (n + 4) = some (.inl (cI, 256, .inl (fun _ => 0))) ∧ ∀ (q : Nat) (e9 : va_E), hp q = some e9 → q ≠ a → hp1 q = some e9) := by
  refine Mt.of rfl (Nat.le_of_ble_eq_true rfl) ?_
  refine Rn.pick (lv' := [(0, .ref a)]) [0] rfl ?_
  refine Rn.bd (fun bd => ?_)
  have l_a := bd _ _ gc0
  refine r_aload_n (pc := 0) dX1_init_0 (i := 0) rfl rfl ?_
  refine r_objInit (pc := 1) kX1_3 dX1_init_1 (Nat.le_of_ble_eq_true rfl) ?_
  refine r_aload_n (pc := 4) dX1_init_4 (i := 0) rfl rfl ?_
  refine r_iconst (pc := 5) (v := 1) dX1_init_5 (by decide) ?_
  refine w_put (pc := 6) (ty := .int) (fs' := [.int 1, .int 0, .int 0, .null, .null, .null, .null, .null]) fX1_9 tyX1 tyX1_ok nmX1 (by decide +kernel) (Or.inl rfl) dX1_init_6 gc0 (Nat.le_of_ble_eq_true rfl) (rfl) (rfl) rfl (fun hp_1 h_2 ho_3 => ?_)
  refine r_aload_n (pc := 9) dX1_init_9 (i := 0) rfl rfl ?_
  refine r_iconst (pc := 10) (v := 0) dX1_init_10 (by decide) ?_
  refine w_put (pc := 11) (ty := .boolean) (fs' := [.int 1, .int 0, .int 0, .null, .null, .null, .null, .null]) fX1_15 tyX1 tyX1_ok nmX1 (by decide +kernel) (Or.inl rfl) dX1_init_11 h_2 (Nat.le_of_ble_eq_true rfl) (rfl) (rfl) rfl (fun hp_4 h_5 ho_6 => ?_)
  refine r_aload_n (pc := 14) dX1_init_14 (i := 0) rfl rfl ?_
  refine r_iconst (pc := 15) (v := 0) dX1_init_15 (by decide) ?_
  refine w_put (pc := 16) (ty := .int) (fs' := [.int 1, .int 0, .int 0, .null, .null, .null, .null, .null]) fX1_19 tyX1 tyX1_ok nmX1 (by decide +kernel) (Or.inl rfl) dX1_init_16 h_5 (Nat.le_of_ble_eq_true rfl) (rfl) (rfl) rfl (fun hp_7 h_8 ho_9 => ?_)
  refine r_aload_n (pc := 19) dX1_init_19 (i := 0) rfl rfl ?_
  refine r_bipush (pc := 20) (v := 60) dX1_init_20 (by decide) ?_
  refine w_newi (pc := 22) (t0 := 0) (N := 60) dX1_init_22 (tb_t (k := 68) (w := Cond.arrayClass .int) (by decide +kernel)) rfl (rfl) (by omega) (by omega) (by omega) (fun hp_10 h_11 hk_12 ho_13 => ?_)
  have h_14 : hp_10 a = some (.inr (1, [.int 1, .int 0, .int 0, .null, .null, .null, .null, .null])) := (hk_12 a _ h_8)
  refine w_put (pc := 24) (ty := .array .int) (fs' := [.int 1, .int 0, .int 0, .ref n, .null, .null, .null, .null]) fX1_22 tyX1 tyX1_ok nmX1 (by decide +kernel) (Or.inr ⟨rfl, rfl, rfl⟩) dX1_init_24 h_14 (Nat.le_of_ble_eq_true rfl) (rfl) (rfl) rfl (fun hp_15 h_16 ho_17 => ?_)
  refine r_aload_n (pc := 27) dX1_init_27 (i := 0) rfl rfl ?_
  refine r_bipush (pc := 28) (v := 60) dX1_init_28 (by decide) ?_
  refine w_newi (pc := 30) (t0 := 0) (N := 60) dX1_init_30 (tb_t (k := 68) (w := Cond.arrayClass .int) (by decide +kernel)) rfl (rfl) (by omega) (by omega) (by omega) (fun hp_18 h_19 hk_20 ho_21 => ?_)
  have h_22 : hp_18 a = some (.inr (1, [.int 1, .int 0, .int 0, .ref n, .null, .null, .null, .null])) := (hk_20 a _ h_16)
  refine w_put (pc := 32) (ty := .array .int) (fs' := [.int 1, .int 0, .int 0, .ref n, .ref ((n + 1)), .null, .null, .null]) fX1_26 tyX1 tyX1_ok nmX1 (by decide +kernel) (Or.inr ⟨rfl, rfl, rfl⟩) dX1_init_32 h_22 (Nat.le_of_ble_eq_true rfl) (rfl) (rfl) rfl (fun hp_23 h_24 ho_25 => ?_)
  refine r_aload_n (pc := 35) dX1_init_35 (i := 0) rfl rfl ?_
  refine r_bipush (pc := 36) (v := 60) dX1_init_36 (by decide) ?_
  refine w_newi (pc := 38) (t0 := 0) (N := 60) dX1_init_38 (tb_t (k := 68) (w := Cond.arrayClass .int) (by decide +kernel)) rfl (rfl) (by omega) (by omega) (by omega) (fun hp_26 h_27 hk_28 ho_29 => ?_)
  have h_30 : hp_26 a = some (.inr (1, [.int 1, .int 0, .int 0, .ref n, .ref ((n + 1)), .null, .null, .null])) := (hk_28 a _ h_24)
  refine w_put (pc := 40) (ty := .array .int) (fs' := [.int 1, .int 0, .int 0, .ref n, .ref ((n + 1)), .ref ((n + 2)), .null, .null]) fX1_29 tyX1 tyX1_ok nmX1 (by decide +kernel) (Or.inr ⟨rfl, rfl, rfl⟩) dX1_init_40 h_30 (Nat.le_of_ble_eq_true rfl) (rfl) (rfl) rfl (fun hp_31 h_32 ho_33 => ?_)
  refine r_aload_n (pc := 43) dX1_init_43 (i := 0) rfl rfl ?_
  refine r_bipush (pc := 44) (v := 60) dX1_init_44 (by decide) ?_
  refine w_newi (pc := 46) (t0 := 0) (N := 60) dX1_init_46 (tb_t (k := 68) (w := Cond.arrayClass .int) (by decide +kernel)) rfl (rfl) (by omega) (by omega) (by omega) (fun hp_34 h_35 hk_36 ho_37 => ?_)
  have h_38 : hp_34 a = some (.inr (1, [.int 1, .int 0, .int 0, .ref n, .ref ((n + 1)), .ref ((n + 2)), .null, .null])) := (hk_36 a _ h_32)
  refine w_put (pc := 48) (ty := .array .int) (fs' := [.int 1, .int 0, .int 0, .ref n, .ref ((n + 1)), .ref ((n + 2)), .ref ((n + 3)), .null]) fX1_32 tyX1 tyX1_ok nmX1 (by decide +kernel) (Or.inr ⟨rfl, rfl, rfl⟩) dX1_init_48 h_38 (Nat.le_of_ble_eq_true rfl) (rfl) (rfl) rfl (fun hp_39 h_40 ho_41 => ?_)
  refine r_aload_n (pc := 51) dX1_init_51 (i := 0) rfl rfl ?_
  refine r_sipush (pc := 52) (v := 256) dX1_init_52 (by decide) ?_
  refine w_newi (pc := 55) (t0 := 0) (N := 256) dX1_init_55 (tb_t (k := 68) (w := Cond.arrayClass .int) (by decide +kernel)) rfl (rfl) (by omega) (by omega) (by omega) (fun hp_42 h_43 hk_44 ho_45 => ?_)
  have h_46 : hp_42 a = some (.inr (1, [.int 1, .int 0, .int 0, .ref n, .ref ((n + 1)), .ref ((n + 2)), .ref ((n + 3)), .null])) := (hk_44 a _ h_40)
  refine w_put (pc := 57) (ty := .array .int) (fs' := [.int 1, .int 0, .int 0, .ref n, .ref ((n + 1)), .ref ((n + 2)), .ref ((n + 3)), .ref ((n + 4))]) fX1_35 tyX1 tyX1_ok nmX1 (by decide +kernel) (Or.inr ⟨rfl, rfl, rfl⟩) dX1_init_57 h_46 (Nat.le_of_ble_eq_true rfl) (rfl) (rfl) rfl (fun hp_47 h_48 ho_49 => ?_)
  have h_50 : hp_47 n = some (.inl (cI, 60, .inl (fun _ => 0))) := ((ho_49 n (Ne.symm (ne_an l_a 0))).trans (hk_44 n _ ((ho_41 n (Ne.symm (ne_an l_a 0))).trans (hk_36 n _ ((ho_33 n (Ne.symm (ne_an l_a 0))).trans (hk_28 n _ ((ho_25 n (Ne.symm (ne_an l_a 0))).trans (hk_20 n _ ((ho_17 n (Ne.symm (ne_an l_a 0))).trans h_11)))))))))
  have h_51 : hp_47 (n + 1) = some (.inl (cI, 60, .inl (fun _ => 0))) := ((ho_49 (n + 1) (Ne.symm (ne_an l_a 1))).trans (hk_44 (n + 1) _ ((ho_41 (n + 1) (Ne.symm (ne_an l_a 1))).trans (hk_36 (n + 1) _ ((ho_33 (n + 1) (Ne.symm (ne_an l_a 1))).trans (hk_28 (n + 1) _ ((ho_25 (n + 1) (Ne.symm (ne_an l_a 1))).trans h_19)))))))
  have h_52 : hp_47 (n + 2) = some (.inl (cI, 60, .inl (fun _ => 0))) := ((ho_49 (n + 2) (Ne.symm (ne_an l_a 2))).trans (hk_44 (n + 2) _ ((ho_41 (n + 2) (Ne.symm (ne_an l_a 2))).trans (hk_36 (n + 2) _ ((ho_33 (n + 2) (Ne.symm (ne_an l_a 2))).trans h_27)))))
  have h_53 : hp_47 (n + 3) = some (.inl (cI, 60, .inl (fun _ => 0))) := ((ho_49 (n + 3) (Ne.symm (ne_an l_a 3))).trans (hk_44 (n + 3) _ ((ho_41 (n + 3) (Ne.symm (ne_an l_a 3))).trans h_35)))
  have h_54 : hp_47 (n + 4) = some (.inl (cI, 256, .inl (fun _ => 0))) := ((ho_49 (n + 4) (Ne.symm (ne_an l_a 4))).trans h_43)
  exact r_vret (pc := 60) dX1_init_60 rfl (⟨rfl, rfl, h_48, h_50, h_51, h_52, h_53, h_54, fun q e9 h9 n9_0 => ((ho_49 q n9_0).trans (hk_44 q e9 ((ho_41 q n9_0).trans (hk_36 q e9 ((ho_33 q n9_0).trans (hk_28 q e9 ((ho_25 q n9_0).trans (hk_20 q e9 ((ho_17 q n9_0).trans (hk_12 q e9 ((ho_9 q n9_0).trans ((ho_6 q n9_0).trans ((ho_3 q n9_0).trans h9)))))))))))))⟩)
set_option maxHeartbeats 4000000 in
set_option maxRecDepth 100000 in
theorem c_X8_init {D : va_G} {cI cJ cZ cT : ClassId} {lo b L : Nat} {xs : Nat → Int32} {hp : MH} {n d : Nat} {a : Nat} (hd0 : 0 ≤ d) (gc0 : hp a = some (.inr (8, [.null]))) : Mt (gG D cI cJ cZ cT lo b L xs) mX8_init d 1 256 [.ref a] hp n (fun r hp1 n1 => r = none ∧ n1 = n + 1 ∧ hp1 a = some (.inr (8, [.ref n])) ∧ hp1 n = some (.inl (cJ, 256, .inr (.inl (fun _ => 0)))) ∧ ∀ (q : Nat) (e9 : va_E), hp q = some e9 → q ≠ a → hp1 q = some e9) := by
  refine Mt.of rfl (Nat.le_of_ble_eq_true rfl) ?_
  refine Rn.pick (lv' := [(0, .ref a)]) [0] rfl ?_
  refine Rn.bd (fun bd => ?_)
  have l_a := bd _ _ gc0
  refine r_aload_n (pc := 0) dX8_init_0 (i := 0) rfl rfl ?_
  refine r_objInit (pc := 1) kX8_3 dX8_init_1 (Nat.le_of_ble_eq_true rfl) ?_
  refine r_aload_n (pc := 4) dX8_init_4 (i := 0) rfl rfl ?_
  refine r_sipush (pc := 5) (v := 256) dX8_init_5 (by decide) ?_
  refine w_newl (pc := 8) (t0 := 1) (N := 256) dX8_init_8 (tb_t (k := 79) (w := Cond.arrayClass .long) (by decide +kernel)) rfl (rfl) (by omega) (by omega) (by omega) (fun hp_1 h_2 hk_3 ho_4 => ?_)
  have h_5 : hp_1 a = some (.inr (8, [.null])) := (hk_3 a _ gc0)
  refine w_put (pc := 10) (ty := .array .long) (fs' := [.ref n]) fX8_9 tyX8 tyX8_ok nmX8 (by decide +kernel) (Or.inr ⟨rfl, rfl, rfl⟩) dX8_init_10 h_5 (Nat.le_of_ble_eq_true rfl) (rfl) (rfl) rfl (fun hp_6 h_7 ho_8 => ?_)
  have h_9 : hp_6 n = some (.inl (cJ, 256, .inr (.inl (fun _ => 0)))) := ((ho_8 n (Ne.symm (ne_an l_a 0))).trans h_2)
  exact r_vret (pc := 13) dX8_init_13 rfl (⟨rfl, rfl, h_7, h_9, fun q e9 h9 n9_0 => ((ho_8 q n9_0).trans (hk_3 q e9 h9))⟩)
set_option maxHeartbeats 4000000 in
set_option maxRecDepth 100000 in
theorem c_X7_init {D : va_G} {cI cJ cZ cT : ClassId} {lo b L : Nat} {xs : Nat → Int32} {hp : MH} {n d : Nat} {a : Nat} (hd0 : 0 ≤ d) (gc0 : hp a = some (.inr (7, [.null, .null, .null, .null, .null]))) : Mt (gG D cI cJ cZ cT lo b L xs) mX7_init d 5 2368 [.ref a] hp n (fun r hp1 n1 => r = none ∧ n1 = n + 5 ∧ hp1 a = some (.inr (7, [.ref n, .ref ((n + 1)), .ref ((n + 2)), .ref ((n + 3)), .ref ((n + 4))])) ∧ hp1 n = some (.inl (cI, 16, .inl (fun _ => 0))) ∧ hp1 (n + 1) = some (.inl (cI, 16, .inl (fun _ => 0))) ∧ hp1 (n + 2) = some (.inl (cI, 272, .inl (fun _ => 0))) ∧ hp1 (n + 3) = some (.inl (cI, 16, .inl (fun _ => 0))) ∧ hp1 (n + 4) = some (.inl (cI, 2048, .inl (fun _ => 0))) ∧ ∀ (q : Nat) (e9 : va_E), hp q = some e9 → q ≠ a → hp1 q = some e9) := by
  refine Mt.of rfl (Nat.le_of_ble_eq_true rfl) ?_
  refine Rn.pick (lv' := [(0, .ref a)]) [0] rfl ?_
  refine Rn.bd (fun bd => ?_)
  have l_a := bd _ _ gc0
  refine r_aload_n (pc := 0) dX7_init_0 (i := 0) rfl rfl ?_
  refine r_objInit (pc := 1) kX7_3 dX7_init_1 (Nat.le_of_ble_eq_true rfl) ?_
  refine r_aload_n (pc := 4) dX7_init_4 (i := 0) rfl rfl ?_
  refine r_bipush (pc := 5) (v := 16) dX7_init_5 (by decide) ?_
  refine w_newi (pc := 7) (t0 := 0) (N := 16) dX7_init_7 (tb_t (k := 68) (w := Cond.arrayClass .int) (by decide +kernel)) rfl (rfl) (by omega) (by omega) (by omega) (fun hp_1 h_2 hk_3 ho_4 => ?_)
  have h_5 : hp_1 a = some (.inr (7, [.null, .null, .null, .null, .null])) := (hk_3 a _ gc0)
  refine w_put (pc := 9) (ty := .array .int) (fs' := [.ref n, .null, .null, .null, .null]) fX7_9 tyX7 tyX7_ok nmX7 (by decide +kernel) (Or.inr ⟨rfl, rfl, rfl⟩) dX7_init_9 h_5 (Nat.le_of_ble_eq_true rfl) (rfl) (rfl) rfl (fun hp_6 h_7 ho_8 => ?_)
  refine r_aload_n (pc := 12) dX7_init_12 (i := 0) rfl rfl ?_
  refine r_bipush (pc := 13) (v := 16) dX7_init_13 (by decide) ?_
  refine w_newi (pc := 15) (t0 := 0) (N := 16) dX7_init_15 (tb_t (k := 68) (w := Cond.arrayClass .int) (by decide +kernel)) rfl (rfl) (by omega) (by omega) (by omega) (fun hp_9 h_10 hk_11 ho_12 => ?_)
  have h_13 : hp_9 a = some (.inr (7, [.ref n, .null, .null, .null, .null])) := (hk_11 a _ h_7)
  refine w_put (pc := 17) (ty := .array .int) (fs' := [.ref n, .ref ((n + 1)), .null, .null, .null]) fX7_15 tyX7 tyX7_ok nmX7 (by decide +kernel) (Or.inr ⟨rfl, rfl, rfl⟩) dX7_init_17 h_13 (Nat.le_of_ble_eq_true rfl) (rfl) (rfl) rfl (fun hp_14 h_15 ho_16 => ?_)
  refine r_aload_n (pc := 20) dX7_init_20 (i := 0) rfl rfl ?_
  refine r_sipush (pc := 21) (v := 272) dX7_init_21 (by decide) ?_
  refine w_newi (pc := 24) (t0 := 0) (N := 272) dX7_init_24 (tb_t (k := 68) (w := Cond.arrayClass .int) (by decide +kernel)) rfl (rfl) (by omega) (by omega) (by omega) (fun hp_17 h_18 hk_19 ho_20 => ?_)
  have h_21 : hp_17 a = some (.inr (7, [.ref n, .ref ((n + 1)), .null, .null, .null])) := (hk_19 a _ h_15)
  refine w_put (pc := 26) (ty := .array .int) (fs' := [.ref n, .ref ((n + 1)), .ref ((n + 2)), .null, .null]) fX7_18 tyX7 tyX7_ok nmX7 (by decide +kernel) (Or.inr ⟨rfl, rfl, rfl⟩) dX7_init_26 h_21 (Nat.le_of_ble_eq_true rfl) (rfl) (rfl) rfl (fun hp_22 h_23 ho_24 => ?_)
  refine r_aload_n (pc := 29) dX7_init_29 (i := 0) rfl rfl ?_
  refine r_bipush (pc := 30) (v := 16) dX7_init_30 (by decide) ?_
  refine w_newi (pc := 32) (t0 := 0) (N := 16) dX7_init_32 (tb_t (k := 68) (w := Cond.arrayClass .int) (by decide +kernel)) rfl (rfl) (by omega) (by omega) (by omega) (fun hp_25 h_26 hk_27 ho_28 => ?_)
  have h_29 : hp_25 a = some (.inr (7, [.ref n, .ref ((n + 1)), .ref ((n + 2)), .null, .null])) := (hk_27 a _ h_23)
  refine w_put (pc := 34) (ty := .array .int) (fs' := [.ref n, .ref ((n + 1)), .ref ((n + 2)), .ref ((n + 3)), .null]) fX7_21 tyX7 tyX7_ok nmX7 (by decide +kernel) (Or.inr ⟨rfl, rfl, rfl⟩) dX7_init_34 h_29 (Nat.le_of_ble_eq_true rfl) (rfl) (rfl) rfl (fun hp_30 h_31 ho_32 => ?_)
  refine r_aload_n (pc := 37) dX7_init_37 (i := 0) rfl rfl ?_
  refine r_sipush (pc := 38) (v := 2048) dX7_init_38 (by decide) ?_
  refine w_newi (pc := 41) (t0 := 0) (N := 2048) dX7_init_41 (tb_t (k := 68) (w := Cond.arrayClass .int) (by decide +kernel)) rfl (rfl) (by omega) (by omega) (by omega) (fun hp_33 h_34 hk_35 ho_36 => ?_)
  have h_37 : hp_33 a = some (.inr (7, [.ref n, .ref ((n + 1)), .ref ((n + 2)), .ref ((n + 3)), .null])) := (hk_35 a _ h_31)
  refine w_put (pc := 43) (ty := .array .int) (fs' := [.ref n, .ref ((n + 1)), .ref ((n + 2)), .ref ((n + 3)), .ref ((n + 4))]) fX7_24 tyX7 tyX7_ok nmX7 (by decide +kernel) (Or.inr ⟨rfl, rfl, rfl⟩) dX7_init_43 h_37 (Nat.le_of_ble_eq_true rfl) (rfl) (rfl) rfl (fun hp_38 h_39 ho_40 => ?_)
  have h_41 : hp_38 n = some (.inl (cI, 16, .inl (fun _ => 0))) := ((ho_40 n (Ne.symm (ne_an l_a 0))).trans (hk_35 n _ ((ho_32 n (Ne.symm (ne_an l_a 0))).trans (hk_27 n _ ((ho_24 n (Ne.symm (ne_an l_a 0))).trans (hk_19 n _ ((ho_16 n (Ne.symm (ne_an l_a 0))).trans (hk_11 n _ ((ho_8 n (Ne.symm (ne_an l_a 0))).trans h_2)))))))))
  have h_42 : hp_38 (n + 1) = some (.inl (cI, 16, .inl (fun _ => 0))) := ((ho_40 (n + 1) (Ne.symm (ne_an l_a 1))).trans (hk_35 (n + 1) _ ((ho_32 (n + 1) (Ne.symm (ne_an l_a 1))).trans (hk_27 (n + 1) _ ((ho_24 (n + 1) (Ne.symm (ne_an l_a 1))).trans (hk_19 (n + 1) _ ((ho_16 (n + 1) (Ne.symm (ne_an l_a 1))).trans h_10)))))))
  have h_43 : hp_38 (n + 2) = some (.inl (cI, 272, .inl (fun _ => 0))) := ((ho_40 (n + 2) (Ne.symm (ne_an l_a 2))).trans (hk_35 (n + 2) _ ((ho_32 (n + 2) (Ne.symm (ne_an l_a 2))).trans (hk_27 (n + 2) _ ((ho_24 (n + 2) (Ne.symm (ne_an l_a 2))).trans h_18)))))
  have h_44 : hp_38 (n + 3) = some (.inl (cI, 16, .inl (fun _ => 0))) := ((ho_40 (n + 3) (Ne.symm (ne_an l_a 3))).trans (hk_35 (n + 3) _ ((ho_32 (n + 3) (Ne.symm (ne_an l_a 3))).trans h_26)))
  have h_45 : hp_38 (n + 4) = some (.inl (cI, 2048, .inl (fun _ => 0))) := ((ho_40 (n + 4) (Ne.symm (ne_an l_a 4))).trans h_34)
  exact r_vret (pc := 46) dX7_init_46 rfl (⟨rfl, rfl, h_39, h_41, h_42, h_43, h_44, h_45, fun q e9 h9 n9_0 => ((ho_40 q n9_0).trans (hk_35 q e9 ((ho_32 q n9_0).trans (hk_27 q e9 ((ho_24 q n9_0).trans (hk_19 q e9 ((ho_16 q n9_0).trans (hk_11 q e9 ((ho_8 q n9_0).trans (hk_3 q e9 h9))))))))))⟩)
set_option maxHeartbeats 4000000 in
set_option maxRecDepth 100000 in
theorem c_X4_init {D : va_G} {cI cJ cZ cT : ClassId} {lo b L : Nat} {xs : Nat → Int32} {hp : MH} {n d : Nat} {a : Nat} (hd0 : 0 ≤ d) (gc0 : hp a = some (.inr (4, [.null, .null, .null, .null, .int 0, .int 0]))) : Mt (gG D cI cJ cZ cT lo b L xs) mX4_init d 4 64 [.ref a] hp n (fun r hp1 n1 => r = none ∧ n1 = n + 4 ∧ hp1 a = some (.inr (4, [.ref n, .ref ((n + 1)), .ref ((n + 2)), .ref ((n + 3)), .int 0, .int 0])) ∧ hp1 n = some (.inl (cI, 16, .inl (fun _ => 0))) ∧ hp1 (n + 1) = some (.inl (cI, 16, .inl (fun _ => 0))) ∧ hp1 (n + 2) = some (.inl (cI, 16, .inl (fun _ => 0))) ∧ hp1 (n + 3) = some (.inl (cI, 16, .inl (fun _ => 0))) ∧ ∀ (q : Nat) (e9 : va_E), hp q = some e9 → q ≠ a → hp1 q = some e9) := by
  refine Mt.of rfl (Nat.le_of_ble_eq_true rfl) ?_
  refine Rn.pick (lv' := [(0, .ref a)]) [0] rfl ?_
  refine Rn.bd (fun bd => ?_)
  have l_a := bd _ _ gc0
  refine r_aload_n (pc := 0) dX4_init_0 (i := 0) rfl rfl ?_
  refine r_objInit (pc := 1) kX4_3 dX4_init_1 (Nat.le_of_ble_eq_true rfl) ?_
  refine r_aload_n (pc := 4) dX4_init_4 (i := 0) rfl rfl ?_
  refine r_bipush (pc := 5) (v := 16) dX4_init_5 (by decide) ?_
  refine w_newi (pc := 7) (t0 := 0) (N := 16) dX4_init_7 (tb_t (k := 68) (w := Cond.arrayClass .int) (by decide +kernel)) rfl (rfl) (by omega) (by omega) (by omega) (fun hp_1 h_2 hk_3 ho_4 => ?_)
  have h_5 : hp_1 a = some (.inr (4, [.null, .null, .null, .null, .int 0, .int 0])) := (hk_3 a _ gc0)
  refine w_put (pc := 9) (ty := .array .int) (fs' := [.ref n, .null, .null, .null, .int 0, .int 0]) fX4_9 tyX4 tyX4_ok nmX4 (by decide +kernel) (Or.inr ⟨rfl, rfl, rfl⟩) dX4_init_9 h_5 (Nat.le_of_ble_eq_true rfl) (rfl) (rfl) rfl (fun hp_6 h_7 ho_8 => ?_)
  refine r_aload_n (pc := 12) dX4_init_12 (i := 0) rfl rfl ?_
  refine r_bipush (pc := 13) (v := 16) dX4_init_13 (by decide) ?_
  refine w_newi (pc := 15) (t0 := 0) (N := 16) dX4_init_15 (tb_t (k := 68) (w := Cond.arrayClass .int) (by decide +kernel)) rfl (rfl) (by omega) (by omega) (by omega) (fun hp_9 h_10 hk_11 ho_12 => ?_)
  have h_13 : hp_9 a = some (.inr (4, [.ref n, .null, .null, .null, .int 0, .int 0])) := (hk_11 a _ h_7)
  refine w_put (pc := 17) (ty := .array .int) (fs' := [.ref n, .ref ((n + 1)), .null, .null, .int 0, .int 0]) fX4_15 tyX4 tyX4_ok nmX4 (by decide +kernel) (Or.inr ⟨rfl, rfl, rfl⟩) dX4_init_17 h_13 (Nat.le_of_ble_eq_true rfl) (rfl) (rfl) rfl (fun hp_14 h_15 ho_16 => ?_)
  refine r_aload_n (pc := 20) dX4_init_20 (i := 0) rfl rfl ?_
  refine r_bipush (pc := 21) (v := 16) dX4_init_21 (by decide) ?_
  refine w_newi (pc := 23) (t0 := 0) (N := 16) dX4_init_23 (tb_t (k := 68) (w := Cond.arrayClass .int) (by decide +kernel)) rfl (rfl) (by omega) (by omega) (by omega) (fun hp_17 h_18 hk_19 ho_20 => ?_)
  have h_21 : hp_17 a = some (.inr (4, [.ref n, .ref ((n + 1)), .null, .null, .int 0, .int 0])) := (hk_19 a _ h_15)
  refine w_put (pc := 25) (ty := .array .int) (fs' := [.ref n, .ref ((n + 1)), .ref ((n + 2)), .null, .int 0, .int 0]) fX4_18 tyX4 tyX4_ok nmX4 (by decide +kernel) (Or.inr ⟨rfl, rfl, rfl⟩) dX4_init_25 h_21 (Nat.le_of_ble_eq_true rfl) (rfl) (rfl) rfl (fun hp_22 h_23 ho_24 => ?_)
  refine r_aload_n (pc := 28) dX4_init_28 (i := 0) rfl rfl ?_
  refine r_bipush (pc := 29) (v := 16) dX4_init_29 (by decide) ?_
  refine w_newi (pc := 31) (t0 := 0) (N := 16) dX4_init_31 (tb_t (k := 68) (w := Cond.arrayClass .int) (by decide +kernel)) rfl (rfl) (by omega) (by omega) (by omega) (fun hp_25 h_26 hk_27 ho_28 => ?_)
  have h_29 : hp_25 a = some (.inr (4, [.ref n, .ref ((n + 1)), .ref ((n + 2)), .null, .int 0, .int 0])) := (hk_27 a _ h_23)
  refine w_put (pc := 33) (ty := .array .int) (fs' := [.ref n, .ref ((n + 1)), .ref ((n + 2)), .ref ((n + 3)), .int 0, .int 0]) fX4_21 tyX4 tyX4_ok nmX4 (by decide +kernel) (Or.inr ⟨rfl, rfl, rfl⟩) dX4_init_33 h_29 (Nat.le_of_ble_eq_true rfl) (rfl) (rfl) rfl (fun hp_30 h_31 ho_32 => ?_)
  have h_33 : hp_30 n = some (.inl (cI, 16, .inl (fun _ => 0))) := ((ho_32 n (Ne.symm (ne_an l_a 0))).trans (hk_27 n _ ((ho_24 n (Ne.symm (ne_an l_a 0))).trans (hk_19 n _ ((ho_16 n (Ne.symm (ne_an l_a 0))).trans (hk_11 n _ ((ho_8 n (Ne.symm (ne_an l_a 0))).trans h_2)))))))
  have h_34 : hp_30 (n + 1) = some (.inl (cI, 16, .inl (fun _ => 0))) := ((ho_32 (n + 1) (Ne.symm (ne_an l_a 1))).trans (hk_27 (n + 1) _ ((ho_24 (n + 1) (Ne.symm (ne_an l_a 1))).trans (hk_19 (n + 1) _ ((ho_16 (n + 1) (Ne.symm (ne_an l_a 1))).trans h_10)))))
  have h_35 : hp_30 (n + 2) = some (.inl (cI, 16, .inl (fun _ => 0))) := ((ho_32 (n + 2) (Ne.symm (ne_an l_a 2))).trans (hk_27 (n + 2) _ ((ho_24 (n + 2) (Ne.symm (ne_an l_a 2))).trans h_18)))
  have h_36 : hp_30 (n + 3) = some (.inl (cI, 16, .inl (fun _ => 0))) := ((ho_32 (n + 3) (Ne.symm (ne_an l_a 3))).trans h_26)
  exact r_vret (pc := 36) dX4_init_36 rfl (⟨rfl, rfl, h_31, h_33, h_34, h_35, h_36, fun q e9 h9 n9_0 => ((ho_32 q n9_0).trans (hk_27 q e9 ((ho_24 q n9_0).trans (hk_19 q e9 ((ho_16 q n9_0).trans (hk_11 q e9 ((ho_8 q n9_0).trans (hk_3 q e9 h9))))))))⟩)
set_option maxHeartbeats 4000000 in
set_option maxRecDepth 100000 in
theorem c_X2_init {D : va_G} {cI cJ cZ cT : ClassId} {lo b L : Nat} {xs : Nat → Int32} {hp : MH} {n d : Nat} {a : Nat} (hd0 : 0 ≤ d) (gc0 : hp a = some (.inr (2, [.null, .null, .null, .int 0, .int 0, .null, .null, .null, .null, .null]))) : Mt (gG D cI cJ cZ cT lo b L xs) mX2_init d 8 1264 [.ref a] hp n (fun r hp1 n1 => r = none ∧ n1 = n + 8 ∧ hp1 a = some (.inr (2, [.ref n, .ref ((n + 1)), .ref ((n + 2)), .int 0, .int 0, .ref ((n + 3)), .ref ((n + 4)), .ref ((n + 5)), .ref ((n + 6)), .ref ((n + 7))])) ∧ hp1 n = some (.inl (cI, 256, .inl (fun _ => 0))) ∧ hp1 (n + 1) = some (.inl (cI, 16, .inl (fun _ => 0))) ∧ hp1 (n + 2) = some (.inl (cI, 16, .inl (fun _ => 0))) ∧ hp1 (n + 3) = some (.inl (cI, 240, .inl (fun _ => 0))) ∧ hp1 (n + 4) = some (.inl (cI, 240, .inl (fun _ => 0))) ∧ hp1 (n + 5) = some (.inl (cI, 240, .inl (fun _ => 0))) ∧ hp1 (n + 6) = some (.inl (cI, 240, .inl (fun _ => 0))) ∧ hp1 (n + 7) = some (.inl (cJ, 16, .inr (.inl (fun _ => 0)))) ∧ ∀ (q : Nat) (e9 : va_E), hp q = some e9 → q ≠ a → hp1 q = some e9) := by
  refine Mt.of rfl (Nat.le_of_ble_eq_true rfl) ?_
  refine Rn.pick (lv' := [(0, .ref a)]) [0] rfl ?_
  refine Rn.bd (fun bd => ?_)
  have l_a := bd _ _ gc0
  refine r_aload_n (pc := 0) dX2_init_0 (i := 0) rfl rfl ?_
  refine r_objInit (pc := 1) kX2_3 dX2_init_1 (Nat.le_of_ble_eq_true rfl) ?_
  refine r_aload_n (pc := 4) dX2_init_4 (i := 0) rfl rfl ?_
  refine r_sipush (pc := 5) (v := 256) dX2_init_5 (by decide) ?_
  refine w_newi (pc := 8) (t0 := 0) (N := 256) dX2_init_8 (tb_t (k := 68) (w := Cond.arrayClass .int) (by decide +kernel)) rfl (rfl) (by omega) (by omega) (by omega) (fun hp_1 h_2 hk_3 ho_4 => ?_)
  have h_5 : hp_1 a = some (.inr (2, [.null, .null, .null, .int 0, .int 0, .null, .null, .null, .null, .null])) := (hk_3 a _ gc0)
  refine w_put (pc := 10) (ty := .array .int) (fs' := [.ref n, .null, .null, .int 0, .int 0, .null, .null, .null, .null, .null]) fX2_9 tyX2 tyX2_ok nmX2 (by decide +kernel) (Or.inr ⟨rfl, rfl, rfl⟩) dX2_init_10 h_5 (Nat.le_of_ble_eq_true rfl) (rfl) (rfl) rfl (fun hp_6 h_7 ho_8 => ?_)
  refine r_aload_n (pc := 13) dX2_init_13 (i := 0) rfl rfl ?_
  refine r_bipush (pc := 14) (v := 16) dX2_init_14 (by decide) ?_
  refine w_newi (pc := 16) (t0 := 0) (N := 16) dX2_init_16 (tb_t (k := 68) (w := Cond.arrayClass .int) (by decide +kernel)) rfl (rfl) (by omega) (by omega) (by omega) (fun hp_9 h_10 hk_11 ho_12 => ?_)
  have h_13 : hp_9 a = some (.inr (2, [.ref n, .null, .null, .int 0, .int 0, .null, .null, .null, .null, .null])) := (hk_11 a _ h_7)
  refine w_put (pc := 18) (ty := .array .int) (fs' := [.ref n, .ref ((n + 1)), .null, .int 0, .int 0, .null, .null, .null, .null, .null]) fX2_15 tyX2 tyX2_ok nmX2 (by decide +kernel) (Or.inr ⟨rfl, rfl, rfl⟩) dX2_init_18 h_13 (Nat.le_of_ble_eq_true rfl) (rfl) (rfl) rfl (fun hp_14 h_15 ho_16 => ?_)
  refine r_aload_n (pc := 21) dX2_init_21 (i := 0) rfl rfl ?_
  refine r_bipush (pc := 22) (v := 16) dX2_init_22 (by decide) ?_
  refine w_newi (pc := 24) (t0 := 0) (N := 16) dX2_init_24 (tb_t (k := 68) (w := Cond.arrayClass .int) (by decide +kernel)) rfl (rfl) (by omega) (by omega) (by omega) (fun hp_17 h_18 hk_19 ho_20 => ?_)
  have h_21 : hp_17 a = some (.inr (2, [.ref n, .ref ((n + 1)), .null, .int 0, .int 0, .null, .null, .null, .null, .null])) := (hk_19 a _ h_15)
  refine w_put (pc := 26) (ty := .array .int) (fs' := [.ref n, .ref ((n + 1)), .ref ((n + 2)), .int 0, .int 0, .null, .null, .null, .null, .null]) fX2_18 tyX2 tyX2_ok nmX2 (by decide +kernel) (Or.inr ⟨rfl, rfl, rfl⟩) dX2_init_26 h_21 (Nat.le_of_ble_eq_true rfl) (rfl) (rfl) rfl (fun hp_22 h_23 ho_24 => ?_)
  refine r_aload_n (pc := 29) dX2_init_29 (i := 0) rfl rfl ?_
  refine r_sipush (pc := 30) (v := 240) dX2_init_30 (by decide) ?_
  refine w_newi (pc := 33) (t0 := 0) (N := 240) dX2_init_33 (tb_t (k := 68) (w := Cond.arrayClass .int) (by decide +kernel)) rfl (rfl) (by omega) (by omega) (by omega) (fun hp_25 h_26 hk_27 ho_28 => ?_)
  have h_29 : hp_25 a = some (.inr (2, [.ref n, .ref ((n + 1)), .ref ((n + 2)), .int 0, .int 0, .null, .null, .null, .null, .null])) := (hk_27 a _ h_23)
  refine w_put (pc := 35) (ty := .array .int) (fs' := [.ref n, .ref ((n + 1)), .ref ((n + 2)), .int 0, .int 0, .ref ((n + 3)), .null, .null, .null, .null]) fX2_21 tyX2 tyX2_ok nmX2 (by decide +kernel) (Or.inr ⟨rfl, rfl, rfl⟩) dX2_init_35 h_29 (Nat.le_of_ble_eq_true rfl) (rfl) (rfl) rfl (fun hp_30 h_31 ho_32 => ?_)
  refine r_aload_n (pc := 38) dX2_init_38 (i := 0) rfl rfl ?_
  refine r_sipush (pc := 39) (v := 240) dX2_init_39 (by decide) ?_
  refine w_newi (pc := 42) (t0 := 0) (N := 240) dX2_init_42 (tb_t (k := 68) (w := Cond.arrayClass .int) (by decide +kernel)) rfl (rfl) (by omega) (by omega) (by omega) (fun hp_33 h_34 hk_35 ho_36 => ?_)
  have h_37 : hp_33 a = some (.inr (2, [.ref n, .ref ((n + 1)), .ref ((n + 2)), .int 0, .int 0, .ref ((n + 3)), .null, .null, .null, .null])) := (hk_35 a _ h_31)
  refine w_put (pc := 44) (ty := .array .int) (fs' := [.ref n, .ref ((n + 1)), .ref ((n + 2)), .int 0, .int 0, .ref ((n + 3)), .ref ((n + 4)), .null, .null, .null]) fX2_24 tyX2 tyX2_ok nmX2 (by decide +kernel) (Or.inr ⟨rfl, rfl, rfl⟩) dX2_init_44 h_37 (Nat.le_of_ble_eq_true rfl) (rfl) (rfl) rfl (fun hp_38 h_39 ho_40 => ?_)
  refine r_aload_n (pc := 47) dX2_init_47 (i := 0) rfl rfl ?_
  refine r_sipush (pc := 48) (v := 240) dX2_init_48 (by decide) ?_
  refine w_newi (pc := 51) (t0 := 0) (N := 240) dX2_init_51 (tb_t (k := 68) (w := Cond.arrayClass .int) (by decide +kernel)) rfl (rfl) (by omega) (by omega) (by omega) (fun hp_41 h_42 hk_43 ho_44 => ?_)
  have h_45 : hp_41 a = some (.inr (2, [.ref n, .ref ((n + 1)), .ref ((n + 2)), .int 0, .int 0, .ref ((n + 3)), .ref ((n + 4)), .null, .null, .null])) := (hk_43 a _ h_39)
  refine w_put (pc := 53) (ty := .array .int) (fs' := [.ref n, .ref ((n + 1)), .ref ((n + 2)), .int 0, .int 0, .ref ((n + 3)), .ref ((n + 4)), .ref ((n + 5)), .null, .null]) fX2_27 tyX2 tyX2_ok nmX2 (by decide +kernel) (Or.inr ⟨rfl, rfl, rfl⟩) dX2_init_53 h_45 (Nat.le_of_ble_eq_true rfl) (rfl) (rfl) rfl (fun hp_46 h_47 ho_48 => ?_)
  refine r_aload_n (pc := 56) dX2_init_56 (i := 0) rfl rfl ?_
  refine r_sipush (pc := 57) (v := 240) dX2_init_57 (by decide) ?_
  refine w_newi (pc := 60) (t0 := 0) (N := 240) dX2_init_60 (tb_t (k := 68) (w := Cond.arrayClass .int) (by decide +kernel)) rfl (rfl) (by omega) (by omega) (by omega) (fun hp_49 h_50 hk_51 ho_52 => ?_)
  have h_53 : hp_49 a = some (.inr (2, [.ref n, .ref ((n + 1)), .ref ((n + 2)), .int 0, .int 0, .ref ((n + 3)), .ref ((n + 4)), .ref ((n + 5)), .null, .null])) := (hk_51 a _ h_47)
  refine w_put (pc := 62) (ty := .array .int) (fs' := [.ref n, .ref ((n + 1)), .ref ((n + 2)), .int 0, .int 0, .ref ((n + 3)), .ref ((n + 4)), .ref ((n + 5)), .ref ((n + 6)), .null]) fX2_30 tyX2 tyX2_ok nmX2 (by decide +kernel) (Or.inr ⟨rfl, rfl, rfl⟩) dX2_init_62 h_53 (Nat.le_of_ble_eq_true rfl) (rfl) (rfl) rfl (fun hp_54 h_55 ho_56 => ?_)
  refine r_aload_n (pc := 65) dX2_init_65 (i := 0) rfl rfl ?_
  refine r_bipush (pc := 66) (v := 16) dX2_init_66 (by decide) ?_
  refine w_newl (pc := 68) (t0 := 1) (N := 16) dX2_init_68 (tb_t (k := 79) (w := Cond.arrayClass .long) (by decide +kernel)) rfl (rfl) (by omega) (by omega) (by omega) (fun hp_57 h_58 hk_59 ho_60 => ?_)
  have h_61 : hp_57 a = some (.inr (2, [.ref n, .ref ((n + 1)), .ref ((n + 2)), .int 0, .int 0, .ref ((n + 3)), .ref ((n + 4)), .ref ((n + 5)), .ref ((n + 6)), .null])) := (hk_59 a _ h_55)
  refine w_put (pc := 70) (ty := .array .long) (fs' := [.ref n, .ref ((n + 1)), .ref ((n + 2)), .int 0, .int 0, .ref ((n + 3)), .ref ((n + 4)), .ref ((n + 5)), .ref ((n + 6)), .ref ((n + 7))]) fX2_33 tyX2 tyX2_ok nmX2 (by decide +kernel) (Or.inr ⟨rfl, rfl, rfl⟩) dX2_init_70 h_61 (Nat.le_of_ble_eq_true rfl) (rfl) (rfl) rfl (fun hp_62 h_63 ho_64 => ?_)
  have h_65 : hp_62 n = some (.inl (cI, 256, .inl (fun _ => 0))) := ((ho_64 n (Ne.symm (ne_an l_a 0))).trans (hk_59 n _ ((ho_56 n (Ne.symm (ne_an l_a 0))).trans (hk_51 n _ ((ho_48 n (Ne.symm (ne_an l_a 0))).trans (hk_43 n _ ((ho_40 n (Ne.symm (ne_an l_a 0))).trans (hk_35 n _ ((ho_32 n (Ne.symm (ne_an l_a 0))).trans (hk_27 n _ ((ho_24 n (Ne.symm (ne_an l_a 0))).trans (hk_19 n _ ((ho_16 n (Ne.symm (ne_an l_a 0))).trans (hk_11 n _ ((ho_8 n (Ne.symm (ne_an l_a 0))).trans h_2)))))))))))))))
  have h_66 : hp_62 (n + 1) = some (.inl (cI, 16, .inl (fun _ => 0))) := ((ho_64 (n + 1) (Ne.symm (ne_an l_a 1))).trans (hk_59 (n + 1) _ ((ho_56 (n + 1) (Ne.symm (ne_an l_a 1))).trans (hk_51 (n + 1) _ ((ho_48 (n + 1) (Ne.symm (ne_an l_a 1))).trans (hk_43 (n + 1) _ ((ho_40 (n + 1) (Ne.symm (ne_an l_a 1))).trans (hk_35 (n + 1) _ ((ho_32 (n + 1) (Ne.symm (ne_an l_a 1))).trans (hk_27 (n + 1) _ ((ho_24 (n + 1) (Ne.symm (ne_an l_a 1))).trans (hk_19 (n + 1) _ ((ho_16 (n + 1) (Ne.symm (ne_an l_a 1))).trans h_10)))))))))))))
  have h_67 : hp_62 (n + 2) = some (.inl (cI, 16, .inl (fun _ => 0))) := ((ho_64 (n + 2) (Ne.symm (ne_an l_a 2))).trans (hk_59 (n + 2) _ ((ho_56 (n + 2) (Ne.symm (ne_an l_a 2))).trans (hk_51 (n + 2) _ ((ho_48 (n + 2) (Ne.symm (ne_an l_a 2))).trans (hk_43 (n + 2) _ ((ho_40 (n + 2) (Ne.symm (ne_an l_a 2))).trans (hk_35 (n + 2) _ ((ho_32 (n + 2) (Ne.symm (ne_an l_a 2))).trans (hk_27 (n + 2) _ ((ho_24 (n + 2) (Ne.symm (ne_an l_a 2))).trans h_18)))))))))))
  have h_68 : hp_62 (n + 3) = some (.inl (cI, 240, .inl (fun _ => 0))) := ((ho_64 (n + 3) (Ne.symm (ne_an l_a 3))).trans (hk_59 (n + 3) _ ((ho_56 (n + 3) (Ne.symm (ne_an l_a 3))).trans (hk_51 (n + 3) _ ((ho_48 (n + 3) (Ne.symm (ne_an l_a 3))).trans (hk_43 (n + 3) _ ((ho_40 (n + 3) (Ne.symm (ne_an l_a 3))).trans (hk_35 (n + 3) _ ((ho_32 (n + 3) (Ne.symm (ne_an l_a 3))).trans h_26)))))))))
  have h_69 : hp_62 (n + 4) = some (.inl (cI, 240, .inl (fun _ => 0))) := ((ho_64 (n + 4) (Ne.symm (ne_an l_a 4))).trans (hk_59 (n + 4) _ ((ho_56 (n + 4) (Ne.symm (ne_an l_a 4))).trans (hk_51 (n + 4) _ ((ho_48 (n + 4) (Ne.symm (ne_an l_a 4))).trans (hk_43 (n + 4) _ ((ho_40 (n + 4) (Ne.symm (ne_an l_a 4))).trans h_34)))))))
  have h_70 : hp_62 (n + 5) = some (.inl (cI, 240, .inl (fun _ => 0))) := ((ho_64 (n + 5) (Ne.symm (ne_an l_a 5))).trans (hk_59 (n + 5) _ ((ho_56 (n + 5) (Ne.symm (ne_an l_a 5))).trans (hk_51 (n + 5) _ ((ho_48 (n + 5) (Ne.symm (ne_an l_a 5))).trans h_42)))))
  have h_71 : hp_62 (n + 6) = some (.inl (cI, 240, .inl (fun _ => 0))) := ((ho_64 (n + 6) (Ne.symm (ne_an l_a 6))).trans (hk_59 (n + 6) _ ((ho_56 (n + 6) (Ne.symm (ne_an l_a 6))).trans h_50)))
  have h_72 : hp_62 (n + 7) = some (.inl (cJ, 16, .inr (.inl (fun _ => 0)))) := ((ho_64 (n + 7) (Ne.symm (ne_an l_a 7))).trans h_58)
  exact r_vret (pc := 73) dX2_init_73 rfl (⟨rfl, rfl, h_63, h_65, h_66, h_67, h_68, h_69, h_70, h_71, h_72, fun q e9 h9 n9_0 => ((ho_64 q n9_0).trans (hk_59 q e9 ((ho_56 q n9_0).trans (hk_51 q e9 ((ho_48 q n9_0).trans (hk_43 q e9 ((ho_40 q n9_0).trans (hk_35 q e9 ((ho_32 q n9_0).trans (hk_27 q e9 ((ho_24 q n9_0).trans (hk_19 q e9 ((ho_16 q n9_0).trans (hk_11 q e9 ((ho_8 q n9_0).trans (hk_3 q e9 h9))))))))))))))))⟩)
set_option maxHeartbeats 4000000 in
set_option maxRecDepth 100000 in
theorem c_X6_init {D : va_G} {cI cJ cZ cT : ClassId} {lo b L : Nat} {xs : Nat → Int32} {hp : MH} {n d : Nat} {a : Nat} (hd0 : 0 ≤ d) (gc0 : hp a = some (.inr (6, [.null, .null, .null, .null]))) : Mt (gG D cI cJ cZ cT lo b L xs) mX6_init d 4 1104 [.ref a] hp n (fun r hp1 n1 => r = none ∧ n1 = n + 4 ∧ hp1 a = some (.inr (6, [.ref n, .ref ((n + 1)), .ref ((n + 2)), .ref ((n + 3))])) ∧ hp1 n = some (.inl (cJ, 512, .inr (.inl (fun _ => 0)))) ∧ hp1 (n + 1) = some (.inl (cJ, 544, .inr (.inl (fun _ => 0)))) ∧ hp1 (n + 2) = some (.inl (cJ, 32, .inr (.inl (fun _ => 0)))) ∧ hp1 (n + 3) = some (.inl (cI, 16, .inl (fun _ => 0))) ∧ ∀ (q : Nat) (e9 : va_E), hp q = some e9 → q ≠ a → hp1 q = some e9) := by
  refine Mt.of rfl (Nat.le_of_ble_eq_true rfl) ?_
  refine Rn.pick (lv' := [(0, .ref a)]) [0] rfl ?_
  refine Rn.bd (fun bd => ?_)
  have l_a := bd _ _ gc0
  refine r_aload_n (pc := 0) dX6_init_0 (i := 0) rfl rfl ?_
  refine r_objInit (pc := 1) kX6_3 dX6_init_1 (Nat.le_of_ble_eq_true rfl) ?_
  refine r_aload_n (pc := 4) dX6_init_4 (i := 0) rfl rfl ?_
  refine r_sipush (pc := 5) (v := 512) dX6_init_5 (by decide) ?_
  refine w_newl (pc := 8) (t0 := 1) (N := 512) dX6_init_8 (tb_t (k := 79) (w := Cond.arrayClass .long) (by decide +kernel)) rfl (rfl) (by omega) (by omega) (by omega) (fun hp_1 h_2 hk_3 ho_4 => ?_)
  have h_5 : hp_1 a = some (.inr (6, [.null, .null, .null, .null])) := (hk_3 a _ gc0)
  refine w_put (pc := 10) (ty := .array .long) (fs' := [.ref n, .null, .null, .null]) fX6_9 tyX6 tyX6_ok nmX6 (by decide +kernel) (Or.inr ⟨rfl, rfl, rfl⟩) dX6_init_10 h_5 (Nat.le_of_ble_eq_true rfl) (rfl) (rfl) rfl (fun hp_6 h_7 ho_8 => ?_)
  refine r_aload_n (pc := 13) dX6_init_13 (i := 0) rfl rfl ?_
  refine r_sipush (pc := 14) (v := 544) dX6_init_14 (by decide) ?_
  refine w_newl (pc := 17) (t0 := 1) (N := 544) dX6_init_17 (tb_t (k := 79) (w := Cond.arrayClass .long) (by decide +kernel)) rfl (rfl) (by omega) (by omega) (by omega) (fun hp_9 h_10 hk_11 ho_12 => ?_)
  have h_13 : hp_9 a = some (.inr (6, [.ref n, .null, .null, .null])) := (hk_11 a _ h_7)
  refine w_put (pc := 19) (ty := .array .long) (fs' := [.ref n, .ref ((n + 1)), .null, .null]) fX6_15 tyX6 tyX6_ok nmX6 (by decide +kernel) (Or.inr ⟨rfl, rfl, rfl⟩) dX6_init_19 h_13 (Nat.le_of_ble_eq_true rfl) (rfl) (rfl) rfl (fun hp_14 h_15 ho_16 => ?_)
  refine r_aload_n (pc := 22) dX6_init_22 (i := 0) rfl rfl ?_
  refine r_bipush (pc := 23) (v := 32) dX6_init_23 (by decide) ?_
  refine w_newl (pc := 25) (t0 := 1) (N := 32) dX6_init_25 (tb_t (k := 79) (w := Cond.arrayClass .long) (by decide +kernel)) rfl (rfl) (by omega) (by omega) (by omega) (fun hp_17 h_18 hk_19 ho_20 => ?_)
  have h_21 : hp_17 a = some (.inr (6, [.ref n, .ref ((n + 1)), .null, .null])) := (hk_19 a _ h_15)
  refine w_put (pc := 27) (ty := .array .long) (fs' := [.ref n, .ref ((n + 1)), .ref ((n + 2)), .null]) fX6_18 tyX6 tyX6_ok nmX6 (by decide +kernel) (Or.inr ⟨rfl, rfl, rfl⟩) dX6_init_27 h_21 (Nat.le_of_ble_eq_true rfl) (rfl) (rfl) rfl (fun hp_22 h_23 ho_24 => ?_)
  refine r_aload_n (pc := 30) dX6_init_30 (i := 0) rfl rfl ?_
  refine r_bipush (pc := 31) (v := 16) dX6_init_31 (by decide) ?_
  refine w_newi (pc := 33) (t0 := 0) (N := 16) dX6_init_33 (tb_t (k := 68) (w := Cond.arrayClass .int) (by decide +kernel)) rfl (rfl) (by omega) (by omega) (by omega) (fun hp_25 h_26 hk_27 ho_28 => ?_)
  have h_29 : hp_25 a = some (.inr (6, [.ref n, .ref ((n + 1)), .ref ((n + 2)), .null])) := (hk_27 a _ h_23)
  refine w_put (pc := 35) (ty := .array .int) (fs' := [.ref n, .ref ((n + 1)), .ref ((n + 2)), .ref ((n + 3))]) fX6_21 tyX6 tyX6_ok nmX6 (by decide +kernel) (Or.inr ⟨rfl, rfl, rfl⟩) dX6_init_35 h_29 (Nat.le_of_ble_eq_true rfl) (rfl) (rfl) rfl (fun hp_30 h_31 ho_32 => ?_)
  have h_33 : hp_30 n = some (.inl (cJ, 512, .inr (.inl (fun _ => 0)))) := ((ho_32 n (Ne.symm (ne_an l_a 0))).trans (hk_27 n _ ((ho_24 n (Ne.symm (ne_an l_a 0))).trans (hk_19 n _ ((ho_16 n (Ne.symm (ne_an l_a 0))).trans (hk_11 n _ ((ho_8 n (Ne.symm (ne_an l_a 0))).trans h_2)))))))
  have h_34 : hp_30 (n + 1) = some (.inl (cJ, 544, .inr (.inl (fun _ => 0)))) := ((ho_32 (n + 1) (Ne.symm (ne_an l_a 1))).trans (hk_27 (n + 1) _ ((ho_24 (n + 1) (Ne.symm (ne_an l_a 1))).trans (hk_19 (n + 1) _ ((ho_16 (n + 1) (Ne.symm (ne_an l_a 1))).trans h_10)))))
  have h_35 : hp_30 (n + 2) = some (.inl (cJ, 32, .inr (.inl (fun _ => 0)))) := ((ho_32 (n + 2) (Ne.symm (ne_an l_a 2))).trans (hk_27 (n + 2) _ ((ho_24 (n + 2) (Ne.symm (ne_an l_a 2))).trans h_18)))
  have h_36 : hp_30 (n + 3) = some (.inl (cI, 16, .inl (fun _ => 0))) := ((ho_32 (n + 3) (Ne.symm (ne_an l_a 3))).trans h_26)
  exact r_vret (pc := 38) dX6_init_38 rfl (⟨rfl, rfl, h_31, h_33, h_34, h_35, h_36, fun q e9 h9 n9_0 => ((ho_32 q n9_0).trans (hk_27 q e9 ((ho_24 q n9_0).trans (hk_19 q e9 ((ho_16 q n9_0).trans (hk_11 q e9 ((ho_8 q n9_0).trans (hk_3 q e9 h9))))))))⟩)
