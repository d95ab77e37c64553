set_option maxHeartbeats 4000000 in
set_option maxRecDepth 100000 in
theorem c_X7_isHopelessx {D : va_G} {cI cJ cZ cT : ClassId} {lo b L : Nat} {xs : Nat → Int32} {hp : MH} {n d : Nat} {Γ : TG} {s : Nat} {Ho : Nat → Int} {x1 : Int} (hd0 : 0 ≤ d) (hO : rd Γ s (tO 7 [fE (.ref (s + 1)), fE (.ref (s + 2)), fE (.ref (s + 3)), fE (.ref (s + 4)), fE (.ref (s + 5))])) (hh : rd Γ (s + 5) (xI cI 2048 Ho)) (hhR : Rfx 2048 (-2147483648) 2147483647 Ho) (ht : Tw Γ hp) (hx1 : 0 ≤ x1 ∧ x1 ≤ 65535) : Mt (gG D cI cJ cZ cT lo b L xs) mX7_isHopeless d 0 0 [.ref s, .int (iv x1)] hp n (pI Γ n (fun r => (0 ≤ r ∧ r ≤ 1) ∧ (r = 1 ↔ hoP Ho x1))) := by
  refine Mt.of rfl (Nat.le_of_ble_eq_true rfl) ?_
  refine Rn.pick (lv' := [(0, .ref s), (1, .int (iv x1))]) [0, 1] rfl ?_
  refine r_aload_n (pc := 0) dX7_isHopeless_0 (i := 0) rfl rfl ?_
  refine t_getE (pc := 1) (.ref (s + 5)) ht hO fX7_24 dX7_isHopeless_1 rfl ?_
  refine r_iload_n (pc := 4) dX7_isHopeless_4 (i := 1) rfl rfl ?_
  refine r_iconst (pc := 5) (v := iv 5) dX7_isHopeless_5 (by decide) ?_
  obtain ⟨z1, hz1, bz1⟩ := any_i (((iv x1).toUInt32 >>> ((iv 5).toUInt32 &&& Int32.toUInt32 31)).toInt32)
  refine r_iushr (pc := 6) (v := iv z1) dX7_isHopeless_6 hz1 ?_
  have hi1 := ho_i1 (by omega) hz1 (by omega)
  refine r_sipush (pc := 7) (v := iv 2047) dX7_isHopeless_7 (by decide) ?_
  obtain ⟨z2, hz2, bz2⟩ := and_r z1 2047 (by omega) (by omega)
  refine r_iand (pc := 10) (v := iv z2) dX7_isHopeless_10 hz2 ?_
  have hi2 := ho_i2 (by omega) hz2 (by omega)
  refine t_ialdX (pc := 11) (t0 := 0) ht hh dX7_isHopeless_11 rfl (by decide) (by omega) (fun b3 => ?_)
  have rb3 := (show Rfx 2048 (-2147483648) 2147483647 Ho by assumption) (Int.toNat z2) (by omega)
  refine r_iload_n (pc := 12) dX7_isHopeless_12 (i := 1) rfl rfl ?_
  refine r_bipush (pc := 13) (v := iv 31) dX7_isHopeless_13 (by decide) ?_
  obtain ⟨z4, hz4, bz4⟩ := and_2 x1 31 (by omega) (by omega)
  refine r_iand (pc := 15) (v := iv z4) dX7_isHopeless_15 hz4 ?_
  have hi3 := ho_i3 (by omega) hz4 (by omega)
  obtain ⟨z5, hz5, bz5⟩ := any_i (iv (Ho (Int.toNat z2)) >>> (iv z4 &&& 31))
  refine r_ishr (pc := 16) (v := iv z5) dX7_isHopeless_16 hz5 ?_
  refine r_iconst (pc := 17) (v := iv 1) dX7_isHopeless_17 (by decide) ?_
  obtain ⟨z6, hz6, bz6⟩ := and_r z5 1 (by omega) (by omega)
  refine r_iand (pc := 18) (v := iv z6) dX7_isHopeless_18 hz6 ?_
  have hho := ho_t (f := Ho) (S := x1) (by omega) hi1 hi2 hi3 (by omega) hz5 hz6 (by omega)
  refine t_if_eq (pc := 19) (tgt := 26) dX7_isHopeless_19 (by decide) (by omega) (fun c19 => ?_) (fun c19 => ?_)
  · refine r_iconst (pc := 26) (v := iv 0) dX7_isHopeless_26 (by decide) ?_
    exact r_zret (pc := 27) dX7_isHopeless_27 rfl (iv_nar (by omega)) ⟨rfl, ht, _, rfl, by omega, ⟨fun g9 => by omega, fun g9 => absurd (by omega) (hho.mpr g9)⟩⟩
  · refine r_iconst (pc := 22) (v := iv 1) dX7_isHopeless_22 (by decide) ?_
    refine r_goto (pc := 23) (tgt := 27) dX7_isHopeless_23 (by decide) ?_
    exact r_zret (pc := 27) dX7_isHopeless_27 rfl (iv_nar (by omega)) ⟨rfl, ht, _, rfl, by omega, ⟨fun _ => hho.mp c19, fun _ => rfl⟩⟩
