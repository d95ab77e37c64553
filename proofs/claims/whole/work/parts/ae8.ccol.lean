set_option maxHeartbeats 4000000 in
set_option maxRecDepth 100000 in
theorem c_X0_joinOfx {D : va_G} {cI cJ cZ cT : ClassId} {lo b L : Nat} {xs : Nat → Int32} {hp : MH} {n d : Nat} {Γ : TG}  {x2 : Int} {j0 j1 : Int64} (hd0 : 0 ≤ d)  (ht : Tw Γ hp) (hx2 : 0 ≤ x2 ∧ x2 ≤ 3) : Mt (gG D cI cJ cZ cT lo b L xs) mX0_joinOf d 0 0 [.long j0, .long j1, .int (iv x2)] hp n (pJ Γ n (fun r => r = jnV x2 j0 j1)) := by
  refine Mt.of rfl (Nat.le_of_ble_eq_true rfl) ?_
  refine Rn.pick (lv' := [(0, .long j0), (2, .long j1), (4, .int (iv x2))]) [0, 1, 2] rfl ?_
  refine r_iload (pc := 0) dX0_joinOf_0 rfl ?_
  by_cases c1 : x2 = 0
  · refine r_tableIn (pc := 2) (off := 26) (tgt := 28) dX0_joinOf_2 (by rw [iv_toInt (by omega) (by omega)]; omega) (by rw [iv_toInt (by omega) (by omega)]; omega) (by rw [iv_toInt (by omega) (by omega), c1]; decide) (by decide) ?_
    refine r_lload_n (pc := 28) dX0_joinOf_28 (i := 0) rfl rfl ?_
    refine r_lload_n (pc := 29) dX0_joinOf_29 (i := 2) rfl rfl ?_
    refine r_lmin (pc := 30) (v := if j1 < j0 then j1 else j0) qX0_111 dX0_joinOf_30 (Nat.le_of_ble_eq_true rfl) rfl ?_
    exact r_lret (pc := 33) dX0_joinOf_33 rfl ⟨rfl, ht, _, rfl, by show _ = jnV x2 j0 j1; unfold jnV; (try simp only [Int64.lt_iff_toInt_lt]); (repeat' split) <;> first | rfl | (exfalso; omega) | (apply Int64.toInt_inj.mp; omega)⟩
  by_cases c3 : x2 = 1
  · refine r_tableIn (pc := 2) (off := 32) (tgt := 34) dX0_joinOf_2 (by rw [iv_toInt (by omega) (by omega)]; omega) (by rw [iv_toInt (by omega) (by omega)]; omega) (by rw [iv_toInt (by omega) (by omega), c3]; decide) (by decide) ?_
    refine r_lload_n (pc := 34) dX0_joinOf_34 (i := 0) rfl rfl ?_
    refine r_lload_n (pc := 35) dX0_joinOf_35 (i := 2) rfl rfl ?_
    refine r_lmax (pc := 36) (v := if j1 < j0 then j0 else j1) qX0_115 dX0_joinOf_36 (Nat.le_of_ble_eq_true rfl) rfl ?_
    exact r_lret (pc := 39) dX0_joinOf_39 rfl ⟨rfl, ht, _, rfl, by show _ = jnV x2 j0 j1; unfold jnV; (try simp only [Int64.lt_iff_toInt_lt]); (repeat' split) <;> first | rfl | (exfalso; omega) | (apply Int64.toInt_inj.mp; omega)⟩
  by_cases c5 : x2 = 2
  · refine r_tableIn (pc := 2) (off := 38) (tgt := 40) dX0_joinOf_2 (by rw [iv_toInt (by omega) (by omega)]; omega) (by rw [iv_toInt (by omega) (by omega)]; omega) (by rw [iv_toInt (by omega) (by omega), c5]; decide) (by decide) ?_
    refine r_lload_n (pc := 40) dX0_joinOf_40 (i := 0) rfl rfl ?_
    refine r_lload_n (pc := 41) dX0_joinOf_41 (i := 2) rfl rfl ?_
    refine r_ladd (pc := 42) (v := j0 + j1) dX0_joinOf_42 rfl ?_
    exact r_lret (pc := 43) dX0_joinOf_43 rfl ⟨rfl, ht, _, rfl, by show _ = jnV x2 j0 j1; unfold jnV; (try simp only [Int64.lt_iff_toInt_lt]); (repeat' split) <;> first | rfl | (exfalso; omega) | (apply Int64.toInt_inj.mp; omega)⟩
  refine r_tableOut (pc := 2) (tgt := 44) dX0_joinOf_2 (by rw [iv_toInt (by omega) (by omega)]; omega) (by decide) ?_
  refine r_lload_n (pc := 44) dX0_joinOf_44 (i := 0) rfl rfl ?_
  refine r_lload_n (pc := 45) dX0_joinOf_45 (i := 2) rfl rfl ?_
  refine r_lxor (pc := 46) (v := j0 ^^^ j1) dX0_joinOf_46 rfl ?_
  exact r_lret (pc := 47) dX0_joinOf_47 rfl ⟨rfl, ht, _, rfl, by show _ = jnV x2 j0 j1; unfold jnV; (try simp only [Int64.lt_iff_toInt_lt]); (repeat' split) <;> first | rfl | (exfalso; omega) | (apply Int64.toInt_inj.mp; omega)⟩
