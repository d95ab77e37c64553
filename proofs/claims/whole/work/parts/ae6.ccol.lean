set_option maxHeartbeats 4000000 in
set_option maxRecDepth 100000 in
theorem c_X0_blendOfx {D : va_G} {cI cJ cZ cT : ClassId} {lo b L : Nat} {xs : Nat → Int32} {hp : MH} {n d : Nat} {Γ : TG}  {x2 : Int} {j0 j1 : Int64} (hd0 : 0 ≤ d)  (ht : Tw Γ hp) (hx2 : 0 ≤ x2 ∧ x2 ≤ 6) : Mt (gG D cI cJ cZ cT lo b L xs) mX0_blendOf d 0 0 [.long j0, .long j1, .int (iv x2)] hp n (pJ Γ n (fun r => r = mxV x2 j0 j1)) := by
  refine Mt.of rfl (Nat.le_of_ble_eq_true rfl) ?_
  refine Rn.pick (lv' := [(0, .long j0), (2, .long j1), (4, .int (iv x2))]) [0, 1, 2] rfl ?_
  refine r_iload (pc := 0) dX0_blendOf_0 rfl ?_
  by_cases c1 : x2 = 0
  · refine r_tableIn (pc := 2) (off := 38) (tgt := 40) dX0_blendOf_2 (by rw [iv_toInt (by omega) (by omega)]; omega) (by rw [iv_toInt (by omega) (by omega)]; omega) (by rw [iv_toInt (by omega) (by omega), c1]; decide) (by decide) ?_
    refine r_lload_n (pc := 40) dX0_blendOf_40 (i := 0) rfl rfl ?_
    refine r_lload_n (pc := 41) dX0_blendOf_41 (i := 2) rfl rfl ?_
    refine r_ladd (pc := 42) (v := j0 + j1) dX0_blendOf_42 rfl ?_
    exact r_lret (pc := 43) dX0_blendOf_43 rfl ⟨rfl, ht, _, rfl, by show _ = mxV x2 j0 j1; unfold mxV; (try simp only [Int64.lt_iff_toInt_lt]); (repeat' split) <;> first | rfl | (exfalso; omega) | (apply Int64.toInt_inj.mp; omega)⟩
  by_cases c2 : x2 = 1
  · refine r_tableIn (pc := 2) (off := 42) (tgt := 44) dX0_blendOf_2 (by rw [iv_toInt (by omega) (by omega)]; omega) (by rw [iv_toInt (by omega) (by omega)]; omega) (by rw [iv_toInt (by omega) (by omega), c2]; decide) (by decide) ?_
    refine r_lload_n (pc := 44) dX0_blendOf_44 (i := 0) rfl rfl ?_
    refine r_lload_n (pc := 45) dX0_blendOf_45 (i := 2) rfl rfl ?_
    refine r_lsub (pc := 46) (v := j0 - j1) dX0_blendOf_46 rfl ?_
    exact r_lret (pc := 47) dX0_blendOf_47 rfl ⟨rfl, ht, _, rfl, by show _ = mxV x2 j0 j1; unfold mxV; (try simp only [Int64.lt_iff_toInt_lt]); (repeat' split) <;> first | rfl | (exfalso; omega) | (apply Int64.toInt_inj.mp; omega)⟩
  by_cases c3 : x2 = 2
  · refine r_tableIn (pc := 2) (off := 46) (tgt := 48) dX0_blendOf_2 (by rw [iv_toInt (by omega) (by omega)]; omega) (by rw [iv_toInt (by omega) (by omega)]; omega) (by rw [iv_toInt (by omega) (by omega), c3]; decide) (by decide) ?_
    refine r_lload_n (pc := 48) dX0_blendOf_48 (i := 0) rfl rfl ?_
    refine r_lload_n (pc := 49) dX0_blendOf_49 (i := 2) rfl rfl ?_
    refine r_lmul (pc := 50) (v := j0 * j1) dX0_blendOf_50 rfl ?_
    exact r_lret (pc := 51) dX0_blendOf_51 rfl ⟨rfl, ht, _, rfl, by show _ = mxV x2 j0 j1; unfold mxV; (try simp only [Int64.lt_iff_toInt_lt]); (repeat' split) <;> first | rfl | (exfalso; omega) | (apply Int64.toInt_inj.mp; omega)⟩
  by_cases c4 : x2 = 3
  · refine r_tableIn (pc := 2) (off := 50) (tgt := 52) dX0_blendOf_2 (by rw [iv_toInt (by omega) (by omega)]; omega) (by rw [iv_toInt (by omega) (by omega)]; omega) (by rw [iv_toInt (by omega) (by omega), c4]; decide) (by decide) ?_
    refine r_lload_n (pc := 52) dX0_blendOf_52 (i := 0) rfl rfl ?_
    refine r_lload_n (pc := 53) dX0_blendOf_53 (i := 2) rfl rfl ?_
    refine r_lmin (pc := 54) (v := if j1 < j0 then j1 else j0) qX0_111 dX0_blendOf_54 (Nat.le_of_ble_eq_true rfl) rfl ?_
    exact r_lret (pc := 57) dX0_blendOf_57 rfl ⟨rfl, ht, _, rfl, by show _ = mxV x2 j0 j1; unfold mxV; (try simp only [Int64.lt_iff_toInt_lt]); (repeat' split) <;> first | rfl | (exfalso; omega) | (apply Int64.toInt_inj.mp; omega)⟩
  by_cases c6 : x2 = 4
  · refine r_tableIn (pc := 2) (off := 56) (tgt := 58) dX0_blendOf_2 (by rw [iv_toInt (by omega) (by omega)]; omega) (by rw [iv_toInt (by omega) (by omega)]; omega) (by rw [iv_toInt (by omega) (by omega), c6]; decide) (by decide) ?_
    refine r_lload_n (pc := 58) dX0_blendOf_58 (i := 0) rfl rfl ?_
    refine r_lload_n (pc := 59) dX0_blendOf_59 (i := 2) rfl rfl ?_
    refine r_lmax (pc := 60) (v := if j1 < j0 then j0 else j1) qX0_115 dX0_blendOf_60 (Nat.le_of_ble_eq_true rfl) rfl ?_
    exact r_lret (pc := 63) dX0_blendOf_63 rfl ⟨rfl, ht, _, rfl, by show _ = mxV x2 j0 j1; unfold mxV; (try simp only [Int64.lt_iff_toInt_lt]); (repeat' split) <;> first | rfl | (exfalso; omega) | (apply Int64.toInt_inj.mp; omega)⟩
  by_cases c8 : x2 = 5
  · refine r_tableIn (pc := 2) (off := 62) (tgt := 64) dX0_blendOf_2 (by rw [iv_toInt (by omega) (by omega)]; omega) (by rw [iv_toInt (by omega) (by omega)]; omega) (by rw [iv_toInt (by omega) (by omega), c8]; decide) (by decide) ?_
    refine r_lload_n (pc := 64) dX0_blendOf_64 (i := 0) rfl rfl ?_
    refine r_lload_n (pc := 65) dX0_blendOf_65 (i := 2) rfl rfl ?_
    refine r_lxor (pc := 66) (v := j0 ^^^ j1) dX0_blendOf_66 rfl ?_
    exact r_lret (pc := 67) dX0_blendOf_67 rfl ⟨rfl, ht, _, rfl, by show _ = mxV x2 j0 j1; unfold mxV; (try simp only [Int64.lt_iff_toInt_lt]); (repeat' split) <;> first | rfl | (exfalso; omega) | (apply Int64.toInt_inj.mp; omega)⟩
  refine r_tableOut (pc := 2) (tgt := 68) dX0_blendOf_2 (by rw [iv_toInt (by omega) (by omega)]; omega) (by decide) ?_
  refine r_lload_n (pc := 68) dX0_blendOf_68 (i := 0) rfl rfl ?_
  refine r_lload_n (pc := 69) dX0_blendOf_69 (i := 2) rfl rfl ?_
  refine r_lcmp (pc := 70) dX0_blendOf_70 ?_
  refine t_lif_ge (pc := 71) (tgt := 78) dX0_blendOf_71 (by decide) (fun c71 => ?_) (fun c71 => ?_)
  · refine r_lconst (pc := 78) (v := 0) dX0_blendOf_78 (by decide) ?_
    have hk78 : (0 : Int64).toInt = 0 := by decide
    exact r_lret (pc := 79) dX0_blendOf_79 rfl ⟨rfl, ht, _, rfl, by show _ = mxV x2 j0 j1; unfold mxV; (try simp only [Int64.lt_iff_toInt_lt]); (repeat' split) <;> first | rfl | (exfalso; omega) | (apply Int64.toInt_inj.mp; omega)⟩
  · refine r_lconst (pc := 74) (v := 1) dX0_blendOf_74 (by decide) ?_
    have hk74 : (1 : Int64).toInt = 1 := by decide
    refine r_goto (pc := 75) (tgt := 79) dX0_blendOf_75 (by decide) ?_
    exact r_lret (pc := 79) dX0_blendOf_79 rfl ⟨rfl, ht, _, rfl, by show _ = mxV x2 j0 j1; unfold mxV; (try simp only [Int64.lt_iff_toInt_lt]); (repeat' split) <;> first | rfl | (exfalso; omega) | (apply Int64.toInt_inj.mp; omega)⟩
