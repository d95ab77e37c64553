theorem lsh_0 {A : Int} : lshI A 0 (-1) := Or.inl ⟨rfl, fun u hu => by omega⟩
theorem lsh_sk {A v b : Int} (h : lshI A v b) (h0 : 0 ≤ v) (hn : ¬ Me A v.toNat) : lshI A (v + 1) b := h.imp (fun q => ⟨q.1, fun u hu hm => by
  by_cases e : (u : Int) < v
  · exact q.2 u e hm
  · exact hn ((show u = v.toNat by omega) ▸ hm)⟩) id
theorem lsh_kp {A v b : Int} (h : lshI A v b) (h0 : 0 ≤ b) : lshI A (v + 1) b := h.elim (fun q => by omega) Or.inr
set_option maxHeartbeats 4000000 in
set_option maxRecDepth 100000 in
theorem c_X7_leastSharedx {D : va_G} {cI cJ cZ cT : ClassId} {lo b L : Nat} {xs : Nat → Int32} {hp : MH} {n d : Nat} {Γ : TG} {s : Nat} {Ml : Nat → Int} {x1 : Int} (hd0 : 1 ≤ d) (hO : rd Γ s (tO 7 [fE (.ref (s + 1)), fE (.ref (s + 2)), fE (.ref (s + 3)), fE (.ref (s + 4)), fE (.ref (s + 5))])) (hm : rd Γ (s + 4) (xI cI 16 Ml)) (hmR : Rfx 16 0 65535 Ml) (ht : Tw Γ hp) (hx1 : 0 ≤ x1 ∧ x1 ≤ 15) (hdg : bcI (Ml (Int.toNat x1)) 16 ≤ 15) : Mt (gG D cI cJ cZ cT lo b L xs) mX7_leastShared d 0 0 [.ref s, .int (iv x1)] hp n (pI Γ n (fun r => (-1 ≤ r ∧ r ≤ 15) ∧ lshI (Ml (Int.toNat x1)) 16 r)) := by
  refine Mt.of rfl (Nat.le_of_ble_eq_true rfl) ?_
  refine Rn.pick (lv' := [(0, .ref s), (1, .int (iv x1))]) [0, 1] rfl ?_
  refine r_iconst (pc := 0) (v := iv (-1)) dX7_leastShared_0 (by decide) ?_
  refine r_istore_n (pc := 1) (lv' := [(2, .int (iv (-1))), (0, .ref s), (1, .int (iv x1))]) dX7_leastShared_1 (i := 2) rfl (by decide) rfl ?_
  refine r_bipush (pc := 2) (v := iv 16) dX7_leastShared_2 (by decide) ?_
  refine r_istore_n (pc := 4) (lv' := [(3, .int (iv 16)), (2, .int (iv (-1))), (0, .ref s), (1, .int (iv x1))]) dX7_leastShared_4 (i := 3) rfl (by decide) rfl ?_
  refine r_iconst (pc := 5) (v := iv 0) dX7_leastShared_5 (by decide) ?_
  refine r_istore (pc := 6) (lv' := [(4, .int (iv 0)), (3, .int (iv 16)), (2, .int (iv (-1))), (0, .ref s), (1, .int (iv x1))]) dX7_leastShared_6 (by decide) rfl ?_
  have B8 : ∀ k : Nat, ∀ hp8 : MH, Tw Γ hp8 → ∀  (v8_2 : Int) (v8_3 : Int) (v8_4 : Int), (-1) ≤ v8_2 ∧ v8_2 ≤ 15 ∧ 0 ≤ v8_3 ∧ v8_3 ≤ 16 ∧ 0 ≤ v8_4 ∧ v8_4 ≤ 16 ∧ (lshI (Ml (Int.toNat x1)) v8_4 v8_2) ∧ (v8_2 < 0 → v8_3 = 16) → 16 - v8_4 ≤ (k : Int) → Rn (gG D cI cJ cZ cT lo b L xs) mX7_leastShared d 8 [(0, .ref s), (1, .int (iv x1)), (2, .int (iv v8_2)), (3, .int (iv v8_3)), (4, .int (iv v8_4))] [] hp8 n 0 0 (pI Γ n (fun r => (-1 ≤ r ∧ r ≤ 15) ∧ lshI (Ml (Int.toNat x1)) 16 r)) := by
    refine lpS _ ?_
    intro k8 ih8 hp8 ht8 v8_2 v8_3 v8_4 hf8 hm8
    obtain ⟨hf8_0, hf8_1, hf8_2, hf8_3, hf8_4, hf8_5, ha8_6, ha8_7⟩ := hf8
    refine r_iload (pc := 8) dX7_leastShared_8 rfl ?_
    refine r_bipush (pc := 10) (v := iv 16) dX7_leastShared_10 (by decide) ?_
    refine t_icmp_ge (pc := 12) (tgt := 74) dX7_leastShared_12 (by decide) (by omega) (by omega) (fun c12 => ?_) (fun c12 => ?_)
    · refine r_iload_n (pc := 74) dX7_leastShared_74 (i := 2) rfl rfl ?_
      exact r_iret (pc := 75) dX7_leastShared_75 rfl ⟨rfl, ht8, _, rfl, by omega, (show v8_4 = 16 by omega) ▸ (by assumption : lshI (Ml (Int.toNat x1)) v8_4 v8_2)⟩
    · refine r_aload_n (pc := 15) dX7_leastShared_15 (i := 0) rfl rfl ?_
      refine t_getE (pc := 16) (.ref (s + 4)) ht8 hO fX7_21 dX7_leastShared_16 rfl ?_
      refine r_iload_n (pc := 19) dX7_leastShared_19 (i := 1) rfl rfl ?_
      refine t_ialdX (pc := 20) (t0 := 0) ht8 hm dX7_leastShared_20 rfl (by decide) (by omega) (fun b1 => ?_)
      have rb1 := (show Rfx 16 0 65535 Ml by assumption) (Int.toNat x1) (by omega)
      refine r_iload (pc := 21) dX7_leastShared_21 rfl ?_
      have hq23_2 := shr_le (Int.toNat (Ml (Int.toNat x1))) (Int.toNat v8_4)
      refine r_ishr (pc := 23) (v := iv ((Int.toNat (Ml (Int.toNat x1)) >>> Int.toNat v8_4 : Nat) : Int)) dX7_leastShared_23 (shr_e (by omega) (by omega)) ?_
      refine r_iconst (pc := 24) (v := iv 1) dX7_leastShared_24 (by decide) ?_
      refine r_iand (pc := 25) (v := iv (((Int.toNat (Ml (Int.toNat x1)) >>> Int.toNat v8_4 : Nat) : Int) % 2)) dX7_leastShared_25 (and1_e _ (by omega)) ?_
      have mb25 := @Me_bit (Ml (Int.toNat x1)) v8_4
      refine t_if_eq (pc := 26) (tgt := 68) dX7_leastShared_26 (by decide) (by omega) (fun c26 => ?_) (fun c26 => ?_)
      · have nm26 : ¬ Me (Ml (Int.toNat x1)) (Int.toNat v8_4) := fun h9 => absurd (Me_bit.mpr h9) (by omega)
        have hld := lsh_sk (by assumption : lshI (Ml (Int.toNat x1)) v8_4 v8_2) (by omega) nm26
        refine r_iinc (pc := 68) (v := iv (v8_4 + 1)) (lv' := [(4, .int (iv (v8_4 + 1))), (0, .ref s), (1, .int (iv x1)), (2, .int (iv v8_2)), (3, .int (iv v8_3))]) dX7_leastShared_68 rfl (iv_add _ _) (by decide) rfl ?_
        refine r_goto (pc := 71) (tgt := 8) dX7_leastShared_71 (by decide) ?_
        refine Rn.pick (lv' := [(0, .ref s), (1, .int (iv x1)), (2, .int (iv v8_2)), (3, .int (iv v8_3)), (4, .int (iv (v8_4 + 1)))]) [1, 2, 3, 4, 0] rfl ?_
        exact ih8 (Int.toNat (16 - (v8_4 + 1))) (by omega) _ ht8 v8_2 v8_3 (v8_4 + 1) ⟨by omega, by omega, by omega, by omega, by omega, by omega, by (first | exact hld | exact lsh_0), by (first | omega | assumption)⟩ (by omega)
      · have pm26 : Me (Ml (Int.toNat x1)) (Int.toNat v8_4) := Me_bit.mp (by omega)
        refine r_aload_n (pc := 29) dX7_leastShared_29 (i := 0) rfl rfl ?_
        refine t_getE (pc := 30) (.ref (s + 4)) ht8 hO fX7_21 dX7_leastShared_30 rfl ?_
        refine r_iload (pc := 33) dX7_leastShared_33 rfl ?_
        refine t_ialdX (pc := 35) (t0 := 0) ht8 hm dX7_leastShared_35 rfl (by decide) (by omega) (fun b3 => ?_)
        have rb3 := (show Rfx 16 0 65535 Ml by assumption) (Int.toNat v8_4) (by omega)
        refine r_aload_n (pc := 36) dX7_leastShared_36 (i := 0) rfl rfl ?_
        refine t_getE (pc := 37) (.ref (s + 4)) ht8 hO fX7_21 dX7_leastShared_37 rfl ?_
        refine r_iload_n (pc := 40) dX7_leastShared_40 (i := 1) rfl rfl ?_
        refine t_ialdX (pc := 41) (t0 := 0) ht8 hm dX7_leastShared_41 rfl (by decide) (by omega) (fun b4 => ?_)
        have rb4 := (show Rfx 16 0 65535 Ml by assumption) (Int.toNat x1) (by omega)
        obtain ⟨z5, hz5, bz5⟩ := and_2 (Ml (Int.toNat v8_4)) (Ml (Int.toNat x1)) (by omega) (by omega)
        refine r_iand (pc := 42) (v := iv z5) dX7_leastShared_42 hz5 ?_
        have mez5 := Me_and hz5 (by omega) (by omega) (by omega)
        have hsb := bc_sb (s := z5) (z := Ml (Int.toNat x1)) (fun i g => ((mez5 i).mp g).2) 16
        refine t_callSI (pc := 43) (as := [.int (iv z5)]) (st := []) kX7_52 dX7_leastShared_43 (t_bitCountx (d := d - 1) (x := z5) (by omega) ht8 (by omega)) rfl (by omega) (Nat.le_of_ble_eq_true rfl) rfl (fun hp7 y6 ht8 by6 => ?_)
        have ey6 : y6 = bcI z5 16 := by6
        subst ey6
        have ry6 := bc_le z5 16
        refine r_istore (pc := 46) (lv' := [(5, .int (iv (bcI z5 16))), (0, .ref s), (1, .int (iv x1)), (2, .int (iv v8_2)), (3, .int (iv v8_3)), (4, .int (iv v8_4))]) dX7_leastShared_46 (by decide) rfl ?_
        refine r_iload (pc := 48) dX7_leastShared_48 rfl ?_
        refine r_iload_n (pc := 50) dX7_leastShared_50 (i := 3) rfl rfl ?_
        refine t_icmp_ge (pc := 51) (tgt := 59) dX7_leastShared_51 (by decide) (by omega) (by omega) (fun c51 => ?_) (fun c51 => ?_)
        · refine r_iload_n (pc := 59) dX7_leastShared_59 (i := 2) rfl rfl ?_
          refine r_istore_n (pc := 60) (lv' := [(2, .int (iv v8_2)), (5, .int (iv (bcI z5 16))), (0, .ref s), (1, .int (iv x1)), (3, .int (iv v8_3)), (4, .int (iv v8_4))]) dX7_leastShared_60 (i := 2) rfl (by decide) rfl ?_
          refine r_iload_n (pc := 61) dX7_leastShared_61 (i := 3) rfl rfl ?_
          refine r_iload (pc := 62) dX7_leastShared_62 rfl ?_
          obtain ⟨z9, hz9, bz9⟩ := min_b v8_3 (bcI z5 16) (by omega) (by omega)
          refine r_mmin (pc := 64) (v := iv z9) qX7_113 dX7_leastShared_64 (Nat.le_of_ble_eq_true rfl) hz9 ?_
          refine r_istore_n (pc := 67) (lv' := [(3, .int (iv z9)), (2, .int (iv v8_2)), (5, .int (iv (bcI z5 16))), (0, .ref s), (1, .int (iv x1)), (4, .int (iv v8_4))]) dX7_leastShared_67 (i := 3) rfl (by decide) rfl ?_
          have hld : lshI (Ml (Int.toNat x1)) (v8_4 + 1) v8_2 := lsh_kp (by assumption : lshI (Ml (Int.toNat x1)) v8_4 v8_2) (by omega)
          refine r_iinc (pc := 68) (v := iv (v8_4 + 1)) (lv' := [(4, .int (iv (v8_4 + 1))), (3, .int (iv z9)), (2, .int (iv v8_2)), (5, .int (iv (bcI z5 16))), (0, .ref s), (1, .int (iv x1))]) dX7_leastShared_68 rfl (iv_add _ _) (by decide) rfl ?_
          refine r_goto (pc := 71) (tgt := 8) dX7_leastShared_71 (by decide) ?_
          refine Rn.pick (lv' := [(0, .ref s), (1, .int (iv x1)), (2, .int (iv v8_2)), (3, .int (iv z9)), (4, .int (iv (v8_4 + 1)))]) [4, 5, 2, 1, 0] rfl ?_
          exact ih8 (Int.toNat (16 - (v8_4 + 1))) (by omega) _ ht8 v8_2 z9 (v8_4 + 1) ⟨by omega, by omega, by omega, by omega, by omega, by omega, by (first | exact hld | exact lsh_0), by (first | omega | assumption)⟩ (by omega)
        · refine r_iload (pc := 54) dX7_leastShared_54 rfl ?_
          refine r_goto (pc := 56) (tgt := 60) dX7_leastShared_56 (by decide) ?_
          refine r_istore_n (pc := 60) (lv' := [(2, .int (iv v8_4)), (5, .int (iv (bcI z5 16))), (0, .ref s), (1, .int (iv x1)), (3, .int (iv v8_3)), (4, .int (iv v8_4))]) dX7_leastShared_60 (i := 2) rfl (by decide) rfl ?_
          refine r_iload_n (pc := 61) dX7_leastShared_61 (i := 3) rfl rfl ?_
          refine r_iload (pc := 62) dX7_leastShared_62 rfl ?_
          obtain ⟨z10, hz10, bz10⟩ := min_b v8_3 (bcI z5 16) (by omega) (by omega)
          refine r_mmin (pc := 64) (v := iv z10) qX7_113 dX7_leastShared_64 (Nat.le_of_ble_eq_true rfl) hz10 ?_
          refine r_istore_n (pc := 67) (lv' := [(3, .int (iv z10)), (2, .int (iv v8_4)), (5, .int (iv (bcI z5 16))), (0, .ref s), (1, .int (iv x1)), (4, .int (iv v8_4))]) dX7_leastShared_67 (i := 3) rfl (by decide) rfl ?_
          have hld : lshI (Ml (Int.toNat x1)) (v8_4 + 1) v8_4 := Or.inr ⟨by omega, pm26⟩
          refine r_iinc (pc := 68) (v := iv (v8_4 + 1)) (lv' := [(4, .int (iv (v8_4 + 1))), (3, .int (iv z10)), (2, .int (iv v8_4)), (5, .int (iv (bcI z5 16))), (0, .ref s), (1, .int (iv x1))]) dX7_leastShared_68 rfl (iv_add _ _) (by decide) rfl ?_
          refine r_goto (pc := 71) (tgt := 8) dX7_leastShared_71 (by decide) ?_
          refine Rn.pick (lv' := [(0, .ref s), (1, .int (iv x1)), (2, .int (iv v8_4)), (3, .int (iv z10)), (4, .int (iv (v8_4 + 1)))]) [4, 5, 2, 1, 0] rfl ?_
          exact ih8 (Int.toNat (16 - (v8_4 + 1))) (by omega) _ ht8 v8_4 z10 (v8_4 + 1) ⟨by omega, by omega, by omega, by omega, by omega, by omega, by (first | exact hld | exact lsh_0), by (first | omega | assumption)⟩ (by omega)
  refine Rn.pick (lv' := [(0, .ref s), (1, .int (iv x1)), (2, .int (iv (-1))), (3, .int (iv 16)), (4, .int (iv 0))]) [3, 4, 2, 1, 0] rfl ?_
  exact B8 (Int.toNat (16 - 0)) _ ht (-1) 16 0 ⟨by omega, by omega, by omega, by omega, by omega, by omega, by (first | exact hld | exact lsh_0), by (first | omega | assumption)⟩ (by omega)
