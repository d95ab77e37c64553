set_option maxHeartbeats 4000000 in
set_option maxRecDepth 100000 in
theorem c_X0_messageOfx {D : va_G} {cI cJ cZ cT : ClassId} {lo b L : Nat} {xs : Nat → Int32} {hp : MH} {n d : Nat} {Γ : TG}  {x2 : Int} {j0 j1 : Int64} (hd0 : 0 ≤ d)  (ht : Tw Γ hp) (hx2 : 0 ≤ x2 ∧ x2 ≤ 4) : Mt (gG D cI cJ cZ cT lo b L xs) mX0_messageOf d 0 0 [.long j0, .long j1, .int (iv x2)] hp n (pJ Γ n (fun r => r = mgV x2 j0 j1)) := by
  refine Mt.of rfl (Nat.le_of_ble_eq_true rfl) ?_
  refine Rn.pick (lv' := [(0, .long j0), (2, .long j1), (4, .int (iv x2))]) [0, 1, 2] rfl ?_
  refine r_iload (pc := 0) dX0_messageOf_0 rfl ?_
  by_cases c1 : x2 = 0
  · refine r_tableIn (pc := 2) (off := 30) (tgt := 32) dX0_messageOf_2 (by rw [iv_toInt (by omega) (by omega)]; omega) (by rw [iv_toInt (by omega) (by omega)]; omega) (by rw [iv_toInt (by omega) (by omega), c1]; decide) (by decide) ?_
    refine r_lload_n (pc := 32) dX0_messageOf_32 (i := 0) rfl rfl ?_
    exact r_lret (pc := 33) dX0_messageOf_33 rfl ⟨rfl, ht, _, rfl, by show _ = mgV x2 j0 j1; unfold mgV; (try simp only [Int64.lt_iff_toInt_lt]); (repeat' split) <;> first | rfl | (exfalso; omega) | (apply Int64.toInt_inj.mp; omega)⟩
  by_cases c2 : x2 = 1
  · refine r_tableIn (pc := 2) (off := 32) (tgt := 34) dX0_messageOf_2 (by rw [iv_toInt (by omega) (by omega)]; omega) (by rw [iv_toInt (by omega) (by omega)]; omega) (by rw [iv_toInt (by omega) (by omega), c2]; decide) (by decide) ?_
    refine r_lload_n (pc := 34) dX0_messageOf_34 (i := 0) rfl rfl ?_
    refine r_lload_n (pc := 35) dX0_messageOf_35 (i := 2) rfl rfl ?_
    refine r_ladd (pc := 36) (v := j0 + j1) dX0_messageOf_36 rfl ?_
    exact r_lret (pc := 37) dX0_messageOf_37 rfl ⟨rfl, ht, _, rfl, by show _ = mgV x2 j0 j1; unfold mgV; (try simp only [Int64.lt_iff_toInt_lt]); (repeat' split) <;> first | rfl | (exfalso; omega) | (apply Int64.toInt_inj.mp; omega)⟩
  by_cases c3 : x2 = 2
  · refine r_tableIn (pc := 2) (off := 36) (tgt := 38) dX0_messageOf_2 (by rw [iv_toInt (by omega) (by omega)]; omega) (by rw [iv_toInt (by omega) (by omega)]; omega) (by rw [iv_toInt (by omega) (by omega), c3]; decide) (by decide) ?_
    refine r_lload_n (pc := 38) dX0_messageOf_38 (i := 0) rfl rfl ?_
    refine r_lload_n (pc := 39) dX0_messageOf_39 (i := 2) rfl rfl ?_
    refine r_lmul (pc := 40) (v := j0 * j1) dX0_messageOf_40 rfl ?_
    exact r_lret (pc := 41) dX0_messageOf_41 rfl ⟨rfl, ht, _, rfl, by show _ = mgV x2 j0 j1; unfold mgV; (try simp only [Int64.lt_iff_toInt_lt]); (repeat' split) <;> first | rfl | (exfalso; omega) | (apply Int64.toInt_inj.mp; omega)⟩
  by_cases c4 : x2 = 3
  · refine r_tableIn (pc := 2) (off := 40) (tgt := 42) dX0_messageOf_2 (by rw [iv_toInt (by omega) (by omega)]; omega) (by rw [iv_toInt (by omega) (by omega)]; omega) (by rw [iv_toInt (by omega) (by omega), c4]; decide) (by decide) ?_
    refine r_lload_n (pc := 42) dX0_messageOf_42 (i := 0) rfl rfl ?_
    refine r_lload_n (pc := 43) dX0_messageOf_43 (i := 2) rfl rfl ?_
    refine r_lmin (pc := 44) (v := if j1 < j0 then j1 else j0) qX0_111 dX0_messageOf_44 (Nat.le_of_ble_eq_true rfl) rfl ?_
    exact r_lret (pc := 47) dX0_messageOf_47 rfl ⟨rfl, ht, _, rfl, by show _ = mgV x2 j0 j1; unfold mgV; (try simp only [Int64.lt_iff_toInt_lt]); (repeat' split) <;> first | rfl | (exfalso; omega) | (apply Int64.toInt_inj.mp; omega)⟩
  refine r_tableOut (pc := 2) (tgt := 48) dX0_messageOf_2 (by rw [iv_toInt (by omega) (by omega)]; omega) (by decide) ?_
  refine r_lload_n (pc := 48) dX0_messageOf_48 (i := 0) rfl rfl ?_
  refine r_lload_n (pc := 49) dX0_messageOf_49 (i := 2) rfl rfl ?_
  refine r_lxor (pc := 50) (v := j0 ^^^ j1) dX0_messageOf_50 rfl ?_
  exact r_lret (pc := 51) dX0_messageOf_51 rfl ⟨rfl, ht, _, rfl, by show _ = mgV x2 j0 j1; unfold mgV; (try simp only [Int64.lt_iff_toInt_lt]); (repeat' split) <;> first | rfl | (exfalso; omega) | (apply Int64.toInt_inj.mp; omega)⟩
