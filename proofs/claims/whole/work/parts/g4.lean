set_option maxHeartbeats 4000000 in
set_option maxRecDepth 100000 in
theorem c_X8_distN {D : va_G} {cI cJ cZ cT : ClassId} {lo b L : Nat} {xs : Nat → Int32} {hp : MH} {n d : Nat} {Γ : TG} {rA rL : Nat} {Nx : Nat → Int} {R : Nat → Nat → Prop} {S9 : Nat → Prop} {x1 x2 : Int} (hd0 : 1 ≤ d) (hrA : rd Γ rA (xI cI rL Nx)) (hrR : Rfx rL 0 65535 Nx) (hrL : rL ≤ 16) (hrw : rwP Nx rL R) (ht : Tw Γ hp) (hx1 : 0 ≤ x1 ∧ x1 ≤ 65535) (hx2 : 0 ≤ x2 ∧ x2 ≤ 15) (hst1 : ∀ i, Me x1 i ↔ S9 i) : Mt (gG D cI cJ cZ cT lo b L xs) mX8_distance d 0 0 [.ref rA, .int (iv x1), .int (iv x2)] hp n (pI Γ n (fun r => (-1 ≤ r ∧ r ≤ 16) ∧ dsN R S9 (Int.toNat x2) r)) := by
  refine Mt.of rfl (Nat.le_of_ble_eq_true rfl) ?_
  refine Rn.pick (lv' := [(0, .ref rA), (1, .int (iv x1)), (2, .int (iv x2))]) [0, 1, 2] rfl ?_
  refine r_iload_n (pc := 0) dX8_distance_0 (i := 1) rfl rfl ?_
  refine r_istore_n (pc := 1) (lv' := [(3, .int (iv x1)), (0, .ref rA), (1, .int (iv x1)), (2, .int (iv x2))]) dX8_distance_1 (i := 3) rfl (by decide) rfl ?_
  refine r_iload_n (pc := 2) dX8_distance_2 (i := 1) rfl rfl ?_
  refine r_istore (pc := 3) (lv' := [(4, .int (iv x1)), (3, .int (iv x1)), (0, .ref rA), (1, .int (iv x1)), (2, .int (iv x2))]) dX8_distance_3 (by decide) rfl ?_
  refine r_iconst (pc := 5) (v := iv 0) dX8_distance_5 (by decide) ?_
  refine r_istore (pc := 6) (lv' := [(5, .int (iv 0)), (4, .int (iv x1)), (3, .int (iv x1)), (0, .ref rA), (1, .int (iv x1)), (2, .int (iv x2))]) dX8_distance_6 (by decide) rfl ?_
  have B8 : ∀ k : Nat, ∀ hp8 : MH, Tw Γ hp8 → ∀  (v8_3 : Int) (v8_4 : Int) (v8_5 : Int), 0 ≤ v8_3 ∧ v8_3 ≤ 65535 ∧ x1 ≤ v8_3 ∧ 0 ≤ v8_4 ∧ v8_4 ≤ 65535 ∧ 0 ≤ v8_5 ∧ v8_5 ≤ 17 ∧ (dlP R S9 (Int.toNat x2) v8_3 v8_4 v8_5) → 17 - v8_5 ≤ (k : Int) → Rn (gG D cI cJ cZ cT lo b L xs) mX8_distance d 8 [(0, .ref rA), (2, .int (iv x2)), (3, .int (iv v8_3)), (4, .int (iv v8_4)), (5, .int (iv v8_5))] [] hp8 n 0 0 (pI Γ n (fun r => (-1 ≤ r ∧ r ≤ 16) ∧ dsN R S9 (Int.toNat x2) r)) := by
    refine lpS _ ?_
    intro k8 ih8 hp8 ht8 v8_3 v8_4 v8_5 hf8 hm8
    obtain ⟨hf8_0, hf8_1, hf8_2, hf8_3, hf8_4, hf8_5, hf8_6, ha8_7⟩ := hf8
    refine r_iload (pc := 8) dX8_distance_8 rfl ?_
    refine r_bipush (pc := 10) (v := iv 16) dX8_distance_10 (by decide) ?_
    refine t_icmp_gt (pc := 12) (tgt := 54) dX8_distance_12 (by decide) (by omega) (by omega) (fun c12 => ?_) (fun c12 => ?_)
    · refine r_iconst (pc := 54) (v := iv (-1)) dX8_distance_54 (by decide) ?_
      exact r_iret (pc := 55) dX8_distance_55 rfl ⟨rfl, ht8, _, rfl, by omega, dl_no (by assumption : dlP R S9 (Int.toNat x2) v8_3 v8_4 v8_5) (by omega) (by omega) (by omega)⟩
    · refine r_iload (pc := 15) dX8_distance_15 rfl ?_
      refine t_if_eq (pc := 17) (tgt := 54) dX8_distance_17 (by decide) (by omega) (fun c17 => ?_) (fun c17 => ?_)
      · refine r_iconst (pc := 54) (v := iv (-1)) dX8_distance_54 (by decide) ?_
        exact r_iret (pc := 55) dX8_distance_55 rfl ⟨rfl, ht8, _, rfl, by omega, dl_no (by assumption : dlP R S9 (Int.toNat x2) v8_3 v8_4 v8_5) (by omega) (by omega) (by omega)⟩
      · refine r_iload_n (pc := 20) dX8_distance_20 (i := 3) rfl rfl ?_
        refine r_iload_n (pc := 21) dX8_distance_21 (i := 2) rfl rfl ?_
        have hq22_1 := shr_le (Int.toNat v8_3) (Int.toNat x2)
        refine r_ishr (pc := 22) (v := iv ((Int.toNat v8_3 >>> Int.toNat x2 : Nat) : Int)) dX8_distance_22 (shr_e (by omega) (by omega)) ?_
        refine r_iconst (pc := 23) (v := iv 1) dX8_distance_23 (by decide) ?_
        refine r_iand (pc := 24) (v := iv (((Int.toNat v8_3 >>> Int.toNat x2 : Nat) : Int) % 2)) dX8_distance_24 (and1_e _ (by omega)) ?_
        have mb24 := @Me_bit v8_3 x2
        refine t_if_eq (pc := 25) (tgt := 31) dX8_distance_25 (by decide) (by omega) (fun c25 => ?_) (fun c25 => ?_)
        · have nm25 : ¬ Me v8_3 (Int.toNat x2) := fun h9 => absurd (Me_bit.mpr h9) (by omega)
          refine r_aload_n (pc := 31) dX8_distance_31 (i := 0) rfl rfl ?_
          refine r_iload (pc := 32) dX8_distance_32 rfl ?_
          refine t_callSI (pc := 34) (as := [.ref rA, .int (iv v8_4)]) (st := []) kX8_21 dX8_distance_34 (t_X8_spreadx (d := d - 1) (Nx := Nx) (x1 := v8_4) (by omega) hrA hrR hrL ht8 (by omega)) rfl (by omega) (Nat.le_of_ble_eq_true rfl) rfl (fun hp3 y2 ht4 by2 => ?_)
          obtain ⟨by21, hsp34⟩ := by2
          refine r_iload_n (pc := 37) dX8_distance_37 (i := 3) rfl rfl ?_
          refine r_iconst (pc := 38) (v := iv (-1)) dX8_distance_38 (by decide) ?_
          refine r_ixor (pc := 39) (v := iv (-v8_3 - 1)) dX8_distance_39 (iv_not _) ?_
          obtain ⟨z5, hz5, bz5⟩ := and_l y2 (-v8_3 - 1) (by omega) (by omega)
          refine r_iand (pc := 40) (v := iv z5) dX8_distance_40 hz5 ?_
          have mez5 := Me_not (y := v8_3) hz5 (by omega) (by omega) (by omega)
          have hE40 := mez5
          refine r_istore (pc := 41) (lv' := [(4, .int (iv z5)), (0, .ref rA), (2, .int (iv x2)), (3, .int (iv v8_3)), (5, .int (iv v8_5))]) dX8_distance_41 (by decide) rfl ?_
          refine r_iload_n (pc := 43) dX8_distance_43 (i := 3) rfl rfl ?_
          refine r_iload (pc := 44) dX8_distance_44 rfl ?_
          obtain ⟨z6, hz6, bz6⟩ := or_2 16 v8_3 z5 (by omega) (by omega) (by decide)
          refine r_ior (pc := 46) (v := iv z6) dX8_distance_46 hz6 ?_
          have mez6 := Me_or hz6 (by omega) (by omega) (by omega)
          have hS46 := mez6
          refine r_istore_n (pc := 47) (lv' := [(3, .int (iv z6)), (4, .int (iv z5)), (0, .ref rA), (2, .int (iv x2)), (5, .int (iv v8_5))]) dX8_distance_47 (i := 3) rfl (by decide) rfl ?_
          refine r_iinc (pc := 48) (v := iv (v8_5 + 1)) (lv' := [(5, .int (iv (v8_5 + 1))), (3, .int (iv z6)), (4, .int (iv z5)), (0, .ref rA), (2, .int (iv x2))]) dX8_distance_48 rfl (iv_add _ _) (by decide) rfl ?_
          refine r_goto (pc := 51) (tgt := 8) dX8_distance_51 (by decide) ?_
          refine Rn.pick (lv' := [(0, .ref rA), (2, .int (iv x2)), (3, .int (iv z6)), (4, .int (iv z5)), (5, .int (iv (v8_5 + 1)))]) [3, 4, 1, 2, 0] rfl ?_
          exact ih8 (Int.toNat (17 - (v8_5 + 1))) (by omega) _ ht4 z6 z5 (v8_5 + 1) ⟨by omega, by omega, by omega, by omega, by omega, by omega, by omega, by (first | exact dl_0 hst1 (by omega) | exact dl_st (by assumption) (by omega) nm25 (by omega) (by omega) hrw hsp34 hE40 hS46)⟩ (by omega)
        · have pm25 : Me v8_3 (Int.toNat x2) := Me_bit.mp (by omega)
          refine r_iload (pc := 28) dX8_distance_28 rfl ?_
          exact r_iret (pc := 30) dX8_distance_30 rfl ⟨rfl, ht8, _, rfl, by omega, dl_yes (by assumption : dlP R S9 (Int.toNat x2) v8_3 v8_4 v8_5) (by omega) pm25⟩
  refine Rn.pick (lv' := [(0, .ref rA), (2, .int (iv x2)), (3, .int (iv x1)), (4, .int (iv x1)), (5, .int (iv 0))]) [3, 5, 2, 1, 0] rfl ?_
  exact B8 (Int.toNat (17 - 0)) _ ht x1 x1 0 ⟨by omega, by omega, by omega, by omega, by omega, by omega, by omega, by (first | exact dl_0 hst1 (by omega) | exact dl_st (by assumption) (by omega) nm25 (by omega) (by omega) hrw hsp34 hE40 hS46)⟩ (by omega)
set_option maxHeartbeats 4000000 in
set_option maxRecDepth 100000 in
theorem c_X8_directedRingx {D : va_G} {cI cJ cZ cT : ClassId} {lo b L : Nat} {xs : Nat → Int32} {hp : MH} {n d : Nat} {Γ : TG} {ga : Nat} {gF : Nat} {gT : Nat} {gW : Nat} {gC : Nat} {gTl : Nat} {gHd : Nat} {gBy : Nat} {gOu : Nat} {gIn : Nat} {gJo : Nat} {gn : Nat} {gm : Nat} {gq : Nat} {gdr : Int} {F T W C Tl Hd By Ou In Jo : Nat → Int} (hd0 : 2 ≤ d) (hg : TyG Γ cI cJ cZ ga gF gT gW gC gTl gHd gBy gOu gIn gJo gn gm gq gdr) (hxg : XG Γ cI gF gT gW gC gTl gHd gBy gOu gIn gJo gn gm gq F T W C Tl Hd By Ou In Jo) (ht : Tw Γ hp)  (hou9 : rwP Ou gn (stP gm gdr F T)) : Mt (gG D cI cJ cZ cT lo b L xs) mX8_directedRing d 0 0 [.ref ga] hp n (pI Γ n (fun r => ((0 ≤ r ∧ r ≤ 17) ∧ lsA (rvW gm gdr F T) gn r))) := by
  refine Mt.of rfl (Nat.le_of_ble_eq_true rfl) ?_
  refine Rn.pick (lv' := [(0, .ref ga)]) [0] rfl ?_
  obtain ⟨hg_O, hg_from, hg_to, hg_weight, hg_cost, hg_tail, hg_head, hg_by, hg_out, hg_in, hg_joined, hg_b⟩ := id hg
  obtain ⟨⟨hxg_F, hxg_T, hxg_W, hxg_C, hxg_Tl, hxg_Hd, hxg_By, hxg_Ou, hxg_In, hxg_Jo⟩, ⟨hrg_F, hrg_T, hrg_W, hrg_C, hrg_Tl, hrg_Hd, hrg_By, hrg_Ou, hrg_In, hrg_Jo⟩, houg⟩ := id hxg
  have hgb := hg_b
  refine r_iconst (pc := 0) (v := iv 0) dX8_directedRing_0 (by decide) ?_
  refine r_istore_n (pc := 1) (lv' := [(1, .int (iv 0)), (0, .ref ga)]) dX8_directedRing_1 (i := 1) rfl (by decide) rfl ?_
  refine r_iconst (pc := 2) (v := iv 0) dX8_directedRing_2 (by decide) ?_
  refine r_istore_n (pc := 3) (lv' := [(2, .int (iv 0)), (1, .int (iv 0)), (0, .ref ga)]) dX8_directedRing_3 (i := 2) rfl (by decide) rfl ?_
  have B4 : ∀ k : Nat, ∀ hp4 : MH, Tw Γ hp4 → ∀  (v4_1 : Int) (v4_2 : Int), 0 ≤ v4_1 ∧ v4_1 ≤ 17 ∧ 0 ≤ v4_2 ∧ v4_2 ≤ 16 ∧ (v4_2 ≤ (gn : Int)) ∧ (lsI (rvW gm gdr F T) 0 v4_2 v4_1) → 16 - v4_2 ≤ (k : Int) → Rn (gG D cI cJ cZ cT lo b L xs) mX8_directedRing d 4 [(0, .ref ga), (1, .int (iv v4_1)), (2, .int (iv v4_2))] [] hp4 n 0 0 (pI Γ n (fun r => ((0 ≤ r ∧ r ≤ 17) ∧ lsA (rvW gm gdr F T) gn r))) := by
    refine lpS _ ?_
    intro k4 ih4 hp4 ht4 v4_1 v4_2 hf4 hm4
    obtain ⟨hf4_0, hf4_1, hf4_2, hf4_3, hf4_4, ha4_5⟩ := hf4
    refine r_iload_n (pc := 4) dX8_directedRing_4 (i := 2) rfl rfl ?_
    refine r_aload_n (pc := 5) dX8_directedRing_5 (i := 0) rfl rfl ?_
    refine t_getE (pc := 6) (.int (iv (gn : Int))) ht4 hg_O fX8_35 dX8_directedRing_6 rfl ?_
    refine t_icmp_ge (pc := 9) (tgt := 52) dX8_directedRing_9 (by decide) (by omega) (by omega) (fun c9 => ?_) (fun c9 => ?_)
    · refine r_iload_n (pc := 52) dX8_directedRing_52 (i := 1) rfl rfl ?_
      exact r_iret (pc := 53) dX8_directedRing_53 rfl ⟨rfl, ht4, _, rfl, by exact ⟨by omega, ls_e0 (by assumption : lsI (rvW gm gdr F T) 0 v4_2 v4_1) (by omega)⟩⟩
    · refine r_aload_n (pc := 12) dX8_directedRing_12 (i := 0) rfl rfl ?_
      refine t_getE (pc := 13) (.ref gOu) ht4 hg_O fX8_53 dX8_directedRing_13 rfl ?_
      refine r_aload_n (pc := 16) dX8_directedRing_16 (i := 0) rfl rfl ?_
      refine t_getE (pc := 17) (.ref gOu) ht4 hg_O fX8_53 dX8_directedRing_17 rfl ?_
      refine r_iload_n (pc := 20) dX8_directedRing_20 (i := 2) rfl rfl ?_
      refine t_ialdX (pc := 21) (t0 := 0) ht4 hxg_Ou dX8_directedRing_21 rfl (by omega) (by omega) (fun b1 => ?_)
      have rb1 := (show Rfx gn 0 65535 Ou by assumption) (Int.toNat v4_2) (by omega)
      refine r_iload_n (pc := 22) dX8_directedRing_22 (i := 2) rfl rfl ?_
      refine t_callSI (pc := 23) (as := [.ref gOu, .int (iv (Ou (Int.toNat v4_2))), .int (iv v4_2)]) (st := []) kX8_56 dX8_directedRing_23 (c_X8_distN (d := d - 1) (S9 := (fun w => stP gm gdr F T (Int.toNat v4_2) w)) (x1 := Ou (Int.toNat v4_2)) (x2 := v4_2) (by omega) hxg_Ou hrg_Ou (by omega) hou9 ht4 (by omega) (by omega) (fun i => hou9.1 (Int.toNat v4_2) (by omega) i)) rfl (by omega) (Nat.le_of_ble_eq_true rfl) rfl (fun hp3 y2 ht4 by2 => ?_)
      obtain ⟨by21, hds⟩ := by2
      refine r_istore_n (pc := 26) (lv' := [(3, .int (iv y2)), (0, .ref ga), (1, .int (iv v4_1)), (2, .int (iv v4_2))]) dX8_directedRing_26 (i := 3) rfl (by decide) rfl ?_
      refine r_iload_n (pc := 27) dX8_directedRing_27 (i := 3) rfl rfl ?_
      refine t_if_lt (pc := 28) (tgt := 46) dX8_directedRing_28 (by decide) (by omega) (fun c28 => ?_) (fun c28 => ?_)
      · have hls := lsI_no (by assumption : lsI (rvW gm gdr F T) 0 v4_2 v4_1) (by omega) (ds_no hds (by omega))
        refine r_iinc (pc := 46) (v := iv (v4_2 + 1)) (lv' := [(2, .int (iv (v4_2 + 1))), (3, .int (iv y2)), (0, .ref ga), (1, .int (iv v4_1))]) dX8_directedRing_46 rfl (iv_add _ _) (by decide) rfl ?_
        refine r_goto (pc := 49) (tgt := 4) dX8_directedRing_49 (by decide) ?_
        refine Rn.pick (lv' := [(0, .ref ga), (1, .int (iv v4_1)), (2, .int (iv (v4_2 + 1)))]) [2, 3, 0] rfl ?_
        exact ih4 (Int.toNat (16 - (v4_2 + 1))) (by omega) _ ht4 v4_1 (v4_2 + 1) ⟨by omega, by omega, by omega, by omega, by omega, by (first | exact hls | exact lsI_0)⟩ (by omega)
      · have hdy := ds_yes hds (by omega)
        refine r_iload_n (pc := 31) dX8_directedRing_31 (i := 1) rfl rfl ?_
        refine t_if_eq (pc := 32) (tgt := 42) dX8_directedRing_32 (by decide) (by omega) (fun c32 => ?_) (fun c32 => ?_)
        · refine r_iload_n (pc := 42) dX8_directedRing_42 (i := 3) rfl rfl ?_
          refine r_iconst (pc := 43) (v := iv 1) dX8_directedRing_43 (by decide) ?_
          refine r_iadd (pc := 44) (v := iv (y2 + 1)) dX8_directedRing_44 (iv_add _ _) ?_
          refine r_istore_n (pc := 45) (lv' := [(1, .int (iv (y2 + 1))), (3, .int (iv y2)), (0, .ref ga), (2, .int (iv v4_2))]) dX8_directedRing_45 (i := 1) rfl (by decide) rfl ?_
          have hls := lsI_lt (by assumption : lsI (rvW gm gdr F T) 0 v4_2 v4_1) (by omega) (by omega) hdy.1 hdy.2 (by omega) (by omega)
          refine r_iinc (pc := 46) (v := iv (v4_2 + 1)) (lv' := [(2, .int (iv (v4_2 + 1))), (1, .int (iv (y2 + 1))), (3, .int (iv y2)), (0, .ref ga)]) dX8_directedRing_46 rfl (iv_add _ _) (by decide) rfl ?_
          refine r_goto (pc := 49) (tgt := 4) dX8_directedRing_49 (by decide) ?_
          refine Rn.pick (lv' := [(0, .ref ga), (1, .int (iv (y2 + 1))), (2, .int (iv (v4_2 + 1)))]) [3, 1, 0] rfl ?_
          exact ih4 (Int.toNat (16 - (v4_2 + 1))) (by omega) _ ht4 (y2 + 1) (v4_2 + 1) ⟨by omega, by omega, by omega, by omega, by omega, by (first | exact hls | exact lsI_0)⟩ (by omega)
        · refine r_iload_n (pc := 35) dX8_directedRing_35 (i := 3) rfl rfl ?_
          refine r_iconst (pc := 36) (v := iv 1) dX8_directedRing_36 (by decide) ?_
          refine r_iadd (pc := 37) (v := iv (y2 + 1)) dX8_directedRing_37 (iv_add _ _) ?_
          refine r_iload_n (pc := 38) dX8_directedRing_38 (i := 1) rfl rfl ?_
          refine t_icmp_ge (pc := 39) (tgt := 46) dX8_directedRing_39 (by decide) (by omega) (by omega) (fun c39 => ?_) (fun c39 => ?_)
          · have hls := lsI_ge (by assumption : lsI (rvW gm gdr F T) 0 v4_2 v4_1) (by omega) hdy.2 (by omega) (by omega)
            refine r_iinc (pc := 46) (v := iv (v4_2 + 1)) (lv' := [(2, .int (iv (v4_2 + 1))), (3, .int (iv y2)), (0, .ref ga), (1, .int (iv v4_1))]) dX8_directedRing_46 rfl (iv_add _ _) (by decide) rfl ?_
            refine r_goto (pc := 49) (tgt := 4) dX8_directedRing_49 (by decide) ?_
            refine Rn.pick (lv' := [(0, .ref ga), (1, .int (iv v4_1)), (2, .int (iv (v4_2 + 1)))]) [2, 3, 0] rfl ?_
            exact ih4 (Int.toNat (16 - (v4_2 + 1))) (by omega) _ ht4 v4_1 (v4_2 + 1) ⟨by omega, by omega, by omega, by omega, by omega, by (first | exact hls | exact lsI_0)⟩ (by omega)
          · refine r_iload_n (pc := 42) dX8_directedRing_42 (i := 3) rfl rfl ?_
            refine r_iconst (pc := 43) (v := iv 1) dX8_directedRing_43 (by decide) ?_
            refine r_iadd (pc := 44) (v := iv (y2 + 1)) dX8_directedRing_44 (iv_add _ _) ?_
            refine r_istore_n (pc := 45) (lv' := [(1, .int (iv (y2 + 1))), (3, .int (iv y2)), (0, .ref ga), (2, .int (iv v4_2))]) dX8_directedRing_45 (i := 1) rfl (by decide) rfl ?_
            have hls := lsI_lt (by assumption : lsI (rvW gm gdr F T) 0 v4_2 v4_1) (by omega) (by omega) hdy.1 hdy.2 (by omega) (by omega)
            refine r_iinc (pc := 46) (v := iv (v4_2 + 1)) (lv' := [(2, .int (iv (v4_2 + 1))), (1, .int (iv (y2 + 1))), (3, .int (iv y2)), (0, .ref ga)]) dX8_directedRing_46 rfl (iv_add _ _) (by decide) rfl ?_
            refine r_goto (pc := 49) (tgt := 4) dX8_directedRing_49 (by decide) ?_
            refine Rn.pick (lv' := [(0, .ref ga), (1, .int (iv (y2 + 1))), (2, .int (iv (v4_2 + 1)))]) [3, 1, 0] rfl ?_
            exact ih4 (Int.toNat (16 - (v4_2 + 1))) (by omega) _ ht4 (y2 + 1) (v4_2 + 1) ⟨by omega, by omega, by omega, by omega, by omega, by (first | exact hls | exact lsI_0)⟩ (by omega)
  refine Rn.pick (lv' := [(0, .ref ga), (1, .int (iv 0)), (2, .int (iv 0))]) [2, 1, 0] rfl ?_
  exact B4 (Int.toNat (16 - 0)) _ ht 0 0 ⟨by omega, by omega, by omega, by omega, by omega, by (first | exact hls | exact lsI_0)⟩ (by omega)
/-- what is left: an answer and the rows as they were -/
def pRo (Γ : TG) (cI : ClassId) (rA gn n : Nat) (Q : Int → (Nat → Int) → Prop) : Option Value → MH → Nat → Prop := fun r hp1 n1 => n1 = n ∧ ∃ (v : Int) (f : Nat → Int), r = some (.int (iv v)) ∧ Tw (ov Γ rA (xI cI gn f)) hp1 ∧ Q v f
set_option maxHeartbeats 4000000 in
set_option maxRecDepth 100000 in
theorem c_X8_ringOverx {D : va_G} {cI cJ cZ cT : ClassId} {lo b L : Nat} {xs : Nat → Int32} {hp : MH} {n d : Nat} {Γ : TG} {ga : Nat} {gF : Nat} {gT : Nat} {gW : Nat} {gC : Nat} {gTl : Nat} {gHd : Nat} {gBy : Nat} {gOu : Nat} {gIn : Nat} {gJo : Nat} {gn : Nat} {gm : Nat} {gq : Nat} {gdr : Int} {F T W C Tl Hd By Ou In Jo : Nat → Int} {rA : Nat} {Rw : Nat → Int} {x2 : Int} (hd0 : 2 ≤ d) (hg : TyG Γ cI cJ cZ ga gF gT gW gC gTl gHd gBy gOu gIn gJo gn gm gq gdr) (hxg : XG Γ cI gF gT gW gC gTl gHd gBy gOu gIn gJo gn gm gq F T W C Tl Hd By Ou In Jo) (hne : nE rA ga ∧ nE rA gF ∧ nE rA gT ∧ nE rA gW ∧ nE rA gC ∧ nE rA gTl ∧ nE rA gHd ∧ nE rA gBy ∧ nE rA gOu ∧ nE rA gIn ∧ nE rA gJo) (hR9 : Rfx gn 0 65535 Rw) (hrw9 : rwP Rw gn (joX gm F T (fun _ => True))) (ht : Tw (ov Γ rA (xI cI gn Rw)) hp) (hx2 : 0 ≤ x2 ∧ x2 < (gm : Int)) (hgd : gdr = 0) : Mt (gG D cI cJ cZ cT lo b L xs) mX8_ringOver d 0 0 [.ref ga, .ref rA, .int (iv x2)] hp n (pRo Γ cI rA gn n (fun v f => (0 ≤ v ∧ v ≤ 17) ∧ Rfx gn 0 65535 f ∧ rwP f gn (joX gm F T (fun _ => True)) ∧ roP gm gdr F T (Int.toNat x2) v)) := by
  refine Mt.of rfl (Nat.le_of_ble_eq_true rfl) ?_
  refine Rn.pick (lv' := [(0, .ref ga), (1, .ref rA), (2, .int (iv x2))]) [0, 1, 2] rfl ?_
  obtain ⟨hg_O, hg_from, hg_to, hg_weight, hg_cost, hg_tail, hg_head, hg_by, hg_out, hg_in, hg_joined, hg_b⟩ := id hg
  obtain ⟨⟨hxg_F, hxg_T, hxg_W, hxg_C, hxg_Tl, hxg_Hd, hxg_By, hxg_Ou, hxg_In, hxg_Jo⟩, ⟨hrg_F, hrg_T, hrg_W, hrg_C, hrg_Tl, hrg_Hd, hrg_By, hrg_Ou, hrg_In, hrg_Jo⟩, houg⟩ := id hxg
  obtain ⟨hq_ga, hq_gF, hq_gT, hq_gW, hq_gC, hq_gTl, hq_gHd, hq_gBy, hq_gOu, hq_gIn, hq_gJo⟩ := id hne
  have hgb := hg_b
  have hF0 : ∀ k, k < gm → 0 ≤ F k ∧ 0 ≤ T k := fun k hk => by have h1 := hrg_F k hk; have h2 := hrg_T k hk; omega
  have hFa := hrg_F (Int.toNat x2) (by omega)
  have hTa := hrg_T (Int.toNat x2) (by omega)
  refine r_aload_n (pc := 0) dX8_ringOver_0 (i := 0) rfl rfl ?_
  refine t_getE (pc := 1) (.ref gF) ht (rd_ov (Ne.symm hq_ga) hg_O) fX8_72 dX8_ringOver_1 rfl ?_
  refine r_iload_n (pc := 4) dX8_ringOver_4 (i := 2) rfl rfl ?_
  refine t_ialdX (pc := 5) (t0 := 0) ht (rd_ov (Ne.symm hq_gF) hxg_F) dX8_ringOver_5 rfl (by omega) (by omega) (fun b1 => ?_)
  have rb1 := (show Rfx gm 0 ((gn : Int) - 1) F by assumption) (Int.toNat x2) (by omega)
  refine r_istore_n (pc := 6) (lv' := [(3, .int (iv (F (Int.toNat x2)))), (0, .ref ga), (1, .ref rA), (2, .int (iv x2))]) dX8_ringOver_6 (i := 3) rfl (by decide) rfl ?_
  refine r_aload_n (pc := 7) dX8_ringOver_7 (i := 0) rfl rfl ?_
  refine t_getE (pc := 8) (.ref gT) ht (rd_ov (Ne.symm hq_ga) hg_O) fX8_75 dX8_ringOver_8 rfl ?_
  refine r_iload_n (pc := 11) dX8_ringOver_11 (i := 2) rfl rfl ?_
  refine t_ialdX (pc := 12) (t0 := 0) ht (rd_ov (Ne.symm hq_gT) hxg_T) dX8_ringOver_12 rfl (by omega) (by omega) (fun b2 => ?_)
  have rb2 := (show Rfx gm 0 ((gn : Int) - 1) T by assumption) (Int.toNat x2) (by omega)
  refine r_istore (pc := 13) (lv' := [(4, .int (iv (T (Int.toNat x2)))), (3, .int (iv (F (Int.toNat x2)))), (0, .ref ga), (1, .ref rA), (2, .int (iv x2))]) dX8_ringOver_13 (by decide) rfl ?_
  refine r_iload_n (pc := 15) dX8_ringOver_15 (i := 3) rfl rfl ?_
  refine r_iload (pc := 16) dX8_ringOver_16 rfl ?_
  refine t_icmp_ne (pc := 18) (tgt := 23) dX8_ringOver_18 (by decide) (by omega) (by omega) (fun c18 => ?_) (fun c18 => ?_)
  · refine r_aload_n (pc := 23) dX8_ringOver_23 (i := 0) rfl rfl ?_
    refine r_iload_n (pc := 24) dX8_ringOver_24 (i := 2) rfl rfl ?_
    refine t_callVI (pc := 25) (as := [.int (iv x2)]) (st := []) ht (rd_ov (Ne.symm hq_ga) hg_O) kX8_78 rfl dX8_ringOver_25 (c_X3_hasTwinx (d := d - 1) (x1 := x2) (by omega) (TyG.ovx ⟨hq_ga, hq_gF, hq_gT, hq_gW, hq_gC, hq_gTl, hq_gHd, hq_gBy, hq_gOu, hq_gIn, hq_gJo⟩ hg) (XG.ovx ⟨hq_gF, hq_gT, hq_gW, hq_gC, hq_gTl, hq_gHd, hq_gBy, hq_gOu, hq_gIn, hq_gJo⟩ hxg) ht (by omega) (by omega)) rfl (by omega) (Nat.le_of_ble_eq_true rfl) rfl (fun hp4 y3 ht5 by3 => ?_)
    have fy3 : ((0 ≤ y3 ∧ y3 ≤ 1) ∧ (y3 = 1 ↔ ∃ k, k < gm ∧ twP F T (Int.toNat x2) k)) := by3
    have ft25 := fy3
    refine t_if_eq (pc := 28) (tgt := 33) dX8_ringOver_28 (by decide) (by omega) (fun c28 => ?_) (fun c28 => ?_)
    · have hnt : ∀ k, k < gm → ¬ twP F T (Int.toNat x2) k := fun k hk h9 => absurd (ft25.2.mpr ⟨k, hk, h9⟩) (by omega)
      refine r_aload_n (pc := 33) dX8_ringOver_33 (i := 1) rfl rfl ?_
      refine r_iload_n (pc := 34) dX8_ringOver_34 (i := 3) rfl rfl ?_
      refine r_iload (pc := 35) dX8_ringOver_35 rfl ?_
      refine r_callS (pc := 37) (as := [.ref rA, .int (iv (F (Int.toNat x2))), .int (iv (T (Int.toNat x2)))]) (st := []) kX8_82 dX8_ringOver_37 (c_X8_cutx (d := d - 1) (x1 := F (Int.toNat x2)) (x2 := T (Int.toNat x2)) (by omega) (by assumption) (by omega) ht5 (by omega) (by omega) (by omega)) rfl (by omega) (Nat.le_of_ble_eq_true rfl) (Nat.zero_le _) (Nat.zero_le _) rfl (fun r6 hp7 n8 q9 => ?_)
      obtain ⟨rfl, rfl, fc37, ht10, hRc, hcx⟩ := q9
      have hrwc := rw_cut (X := fun _ => True) (i := Int.toNat x2) (a := Int.toNat (F (Int.toNat x2))) (b := Int.toNat (T (Int.toNat x2))) hrw9 (by omega) ⟨by omega, by omega⟩ hnt (fun u _ j => hcx u j)
      refine r_aload_n (pc := 40) dX8_ringOver_40 (i := 1) rfl rfl ?_
      refine r_iconst (pc := 41) (v := iv 1) dX8_ringOver_41 (by decide) ?_
      refine r_iload_n (pc := 42) dX8_ringOver_42 (i := 3) rfl rfl ?_
      refine r_ishl (pc := 43) (v := iv ((2 ^ Int.toNat (F (Int.toNat x2)) : Nat) : Int)) dX8_ringOver_43 (shl_e (by omega)) ?_
      have mp43_11 : 1 ≤ 2 ^ Int.toNat (F (Int.toNat x2)) := Nat.one_le_two_pow
      have mq43_12 : 2 ^ Int.toNat (F (Int.toNat x2)) ≤ 2 ^ 15 := Nat.pow_le_pow_right (by omega) (by omega)
      have ms43 := Me_shl (Int.toNat (F (Int.toNat x2)))
      refine r_iload (pc := 44) dX8_ringOver_44 rfl ?_
      refine t_callSI (pc := 46) (as := [.ref rA, .int (iv ((2 ^ Int.toNat (F (Int.toNat x2)) : Nat) : Int)), .int (iv (T (Int.toNat x2)))]) (st := []) kX8_56 dX8_ringOver_46 (c_X8_distN (d := d - 1) (S9 := (fun x => x = Int.toNat (F (Int.toNat x2)))) (x1 := ((2 ^ Int.toNat (F (Int.toNat x2)) : Nat) : Int)) (x2 := T (Int.toNat x2)) (by omega) (rd_of (ov_s _ _ _)) hRc (by omega) hrwc ht10 (by omega) (by omega) ms43) rfl (by omega) (Nat.le_of_ble_eq_true rfl) rfl (fun hp14 y13 ht15 by13 => ?_)
      obtain ⟨by131, hds⟩ := by13
      refine r_istore (pc := 49) (lv' := [(5, .int (iv y13)), (4, .int (iv (T (Int.toNat x2)))), (3, .int (iv (F (Int.toNat x2)))), (0, .ref ga), (1, .ref rA), (2, .int (iv x2))]) dX8_ringOver_49 (by decide) rfl ?_
      refine r_aload_n (pc := 51) dX8_ringOver_51 (i := 1) rfl rfl ?_
      refine r_iload_n (pc := 52) dX8_ringOver_52 (i := 3) rfl rfl ?_
      refine r_dup2_11 (pc := 53) dX8_ringOver_53 rfl rfl ?_
      refine t_ialdX (pc := 54) (t0 := 0) ht15 (rd_of (ov_s _ _ _)) dX8_ringOver_54 rfl (by omega) (by omega) (fun b16 => ?_)
      have rb16 := (show Rfx gn 0 65535 fc37 by assumption) (Int.toNat (F (Int.toNat x2))) (by omega)
      refine r_iconst (pc := 55) (v := iv 1) dX8_ringOver_55 (by decide) ?_
      refine r_iload (pc := 56) dX8_ringOver_56 rfl ?_
      refine r_ishl (pc := 58) (v := iv ((2 ^ Int.toNat (T (Int.toNat x2)) : Nat) : Int)) dX8_ringOver_58 (shl_e (by omega)) ?_
      have mp58_17 : 1 ≤ 2 ^ Int.toNat (T (Int.toNat x2)) := Nat.one_le_two_pow
      have mq58_18 : 2 ^ Int.toNat (T (Int.toNat x2)) ≤ 2 ^ 15 := Nat.pow_le_pow_right (by omega) (by omega)
      have ms58 := Me_shl (Int.toNat (T (Int.toNat x2)))
      obtain ⟨z19, hz19, bz19⟩ := or_2 16 (fc37 (Int.toNat (F (Int.toNat x2)))) ((2 ^ Int.toNat (T (Int.toNat x2)) : Nat) : Int) (by omega) (by omega) (by decide)
      refine r_ior (pc := 59) (v := iv z19) dX8_ringOver_59 hz19 ?_
      have mez19 := Me_or hz19 (by omega) (by omega) (by omega)
      have hc59 := mez19
      refine t_iastX (pc := 60) (t0 := 0) ht15 (ov_s _ _ _) dX8_ringOver_60 rfl (by omega) (by omega) (by omega) (fun hp20 ht21 => ?_)
      rw [ov_ov] at ht21
      have hR60 : Rfx gn 0 65535 (fup fc37 (Int.toNat (F (Int.toNat x2))) z19) := Rfx_up (by assumption) (by omega)
      refine r_aload_n (pc := 61) dX8_ringOver_61 (i := 1) rfl rfl ?_
      refine r_iload (pc := 62) dX8_ringOver_62 rfl ?_
      refine r_dup2_11 (pc := 64) dX8_ringOver_64 rfl rfl ?_
      refine t_ialdX (pc := 65) (t0 := 0) ht21 (rd_of (ov_s _ _ _)) dX8_ringOver_65 rfl (by omega) (by omega) (fun b22 => ?_)
      have rb22 := (show Rfx gn 0 65535 (fup fc37 (Int.toNat (F (Int.toNat x2))) z19) by assumption) (Int.toNat (T (Int.toNat x2))) (by omega)
      refine r_iconst (pc := 66) (v := iv 1) dX8_ringOver_66 (by decide) ?_
      refine r_iload_n (pc := 67) dX8_ringOver_67 (i := 3) rfl rfl ?_
      refine r_ishl (pc := 68) (v := iv ((2 ^ Int.toNat (F (Int.toNat x2)) : Nat) : Int)) dX8_ringOver_68 (shl_e (by omega)) ?_
      have mp68_23 : 1 ≤ 2 ^ Int.toNat (F (Int.toNat x2)) := Nat.one_le_two_pow
      have mq68_24 : 2 ^ Int.toNat (F (Int.toNat x2)) ≤ 2 ^ 15 := Nat.pow_le_pow_right (by omega) (by omega)
      have ms68 := Me_shl (Int.toNat (F (Int.toNat x2)))
      obtain ⟨z25, hz25, bz25⟩ := or_2 16 ((fup fc37 (Int.toNat (F (Int.toNat x2))) z19) (Int.toNat (T (Int.toNat x2)))) ((2 ^ Int.toNat (F (Int.toNat x2)) : Nat) : Int) (by omega) (by omega) (by decide)
      refine r_ior (pc := 69) (v := iv z25) dX8_ringOver_69 hz25 ?_
      have mez25 := Me_or hz25 (by omega) (by omega) (by omega)
      have hc69 := mez25
      refine t_iastX (pc := 70) (t0 := 0) ht21 (ov_s _ _ _) dX8_ringOver_70 rfl (by omega) (by omega) (by omega) (fun hp26 ht27 => ?_)
      rw [ov_ov] at ht27
      have hR70 : Rfx gn 0 65535 (fup (fup fc37 (Int.toNat (F (Int.toNat x2))) z19) (Int.toNat (T (Int.toNat x2))) z25) := Rfx_up (by assumption) (by omega)
      have hpx := put_x hc59 ms58 hc69 ms68 (by omega)
      have hrw8 := rw_back (X := fun _ => True) hrwc (by omega) ⟨by omega, by omega⟩ (by omega) (by omega) trivial hpx
      have hro := ro_3 (k := Int.toNat x2) hgd hF0 (by omega) (fun i j => jo_stX hgd i j) hds
      refine r_iload (pc := 71) dX8_ringOver_71 rfl ?_
      refine r_iconst (pc := 73) (v := iv 1) dX8_ringOver_73 (by decide) ?_
      refine r_iadd (pc := 74) (v := iv (y13 + 1)) dX8_ringOver_74 (iv_add _ _) ?_
      exact r_iret (pc := 75) dX8_ringOver_75 rfl ⟨rfl, _, (fup (fup fc37 (Int.toNat (F (Int.toNat x2))) z19) (Int.toNat (T (Int.toNat x2))) z25), rfl, ht27, by omega, hR70, hrw8, hro⟩
    · obtain ⟨k25, hk25, hq25⟩ := ft25.2.mp (by omega)
      refine r_iconst (pc := 31) (v := iv 2) dX8_ringOver_31 (by decide) ?_
      exact r_iret (pc := 32) dX8_ringOver_32 rfl ⟨rfl, _, Rw, rfl, ht5, by omega, hR9, hrw9, ro_2 hgd hF0 (by omega) (by omega) hk25 hq25⟩
  · refine r_iconst (pc := 21) (v := iv 1) dX8_ringOver_21 (by decide) ?_
    exact r_iret (pc := 22) dX8_ringOver_22 rfl ⟨rfl, _, Rw, rfl, ht, by omega, hR9, hrw9, ro_1 (by omega)⟩
set_option maxHeartbeats 4000000 in
set_option maxRecDepth 100000 in
theorem c_X8_undirectedRingx {D : va_G} {cI cJ cZ cT : ClassId} {lo b L : Nat} {xs : Nat → Int32} {hp : MH} {n d : Nat} {Γ : TG} {ga : Nat} {gF : Nat} {gT : Nat} {gW : Nat} {gC : Nat} {gTl : Nat} {gHd : Nat} {gBy : Nat} {gOu : Nat} {gIn : Nat} {gJo : Nat} {gn : Nat} {gm : Nat} {gq : Nat} {gdr : Int} {F T W C Tl Hd By Ou In Jo : Nat → Int} (hd0 : 3 ≤ d) (hg : TyG Γ cI cJ cZ ga gF gT gW gC gTl gHd gBy gOu gIn gJo gn gm gq gdr) (hxg : XG Γ cI gF gT gW gC gTl gHd gBy gOu gIn gJo gn gm gq F T W C Tl Hd By Ou In Jo) (ht : Tw Γ hp) (hgd : gdr = 0) (hjo : rwP Jo gn (joX gm F T (fun _ => True))) : Mt (gG D cI cJ cZ cT lo b L xs) mX8_undirectedRing d 1 gn [.ref ga] hp n (fun r hp1 n1 => n1 = n + 1 ∧ Tw Γ hp1 ∧ ∃ v : Int, r = some (.int (iv v)) ∧ (0 ≤ v ∧ v ≤ 17) ∧ rgA gm gdr F T v) := by
  refine Mt.of rfl (Nat.le_of_ble_eq_true rfl) ?_
  refine Rn.pick (lv' := [(0, .ref ga)]) [0] rfl ?_
  obtain ⟨hg_O, hg_from, hg_to, hg_weight, hg_cost, hg_tail, hg_head, hg_by, hg_out, hg_in, hg_joined, hg_b⟩ := id hg
  obtain ⟨⟨hxg_F, hxg_T, hxg_W, hxg_C, hxg_Tl, hxg_Hd, hxg_By, hxg_Ou, hxg_In, hxg_Jo⟩, ⟨hrg_F, hrg_T, hrg_W, hrg_C, hrg_Tl, hrg_Hd, hrg_By, hrg_Ou, hrg_In, hrg_Jo⟩, houg⟩ := id hxg
  have hgb := hg_b
  refine Rn.bd (fun bd9 => ?_)
  have hlq0 : gF < n := Tw.lt9 ht bd9 hxg_F
  have hlq1 : gT < n := Tw.lt9 ht bd9 hxg_T
  have hlq2 : gW < n := Tw.lt9 ht bd9 hxg_W
  have hlq3 : gC < n := Tw.lt9 ht bd9 hxg_C
  have hlq4 : gTl < n := Tw.lt9 ht bd9 hxg_Tl
  have hlq5 : gHd < n := Tw.lt9 ht bd9 hxg_Hd
  have hlq6 : gBy < n := Tw.lt9 ht bd9 hxg_By
  have hlq7 : gOu < n := Tw.lt9 ht bd9 hxg_Ou
  have hlq8 : gIn < n := Tw.lt9 ht bd9 hxg_In
  have hlq9 : gJo < n := Tw.lt9 ht bd9 hxg_Jo
  have hlq10 : ga < n := Tw.lt9 ht bd9 hg_O
  have hnn : ∀ a T', Γ a = some T' → a ≠ n := fun a T' h e => by have := Tw.lt9 ht bd9 (rd_of h); omega
  refine r_iconst (pc := 0) (v := iv 0) dX8_undirectedRing_0 (by decide) ?_
  refine r_istore_n (pc := 1) (lv' := [(1, .int (iv 0)), (0, .ref ga)]) dX8_undirectedRing_1 (i := 1) rfl (by decide) rfl ?_
  refine r_aload_n (pc := 2) dX8_undirectedRing_2 (i := 0) rfl rfl ?_
  refine t_getE (pc := 3) (.ref gJo) ht hg_O fX8_60 dX8_undirectedRing_3 rfl ?_
  refine t_cloneX (pc := 6) (t0 := 0) ht hxg_Jo aX8_63 dX8_undirectedRing_6 rfl (Nat.le_of_ble_eq_true rfl) (by omega) (by omega) (fun hp1 Γ2 hE3 hN4 ht5 => ?_)
  have t8 := Tw.ovr ht5 hN4
  refine t_castX (pc := 9) (t0 := 0) t8 (rd_of (ov_s _ _ _)) dX8_undirectedRing_9 (tb_t (k := 711) (by decide +kernel)) rfl ?_
  refine r_astore_n (pc := 12) (lv' := [(2, .ref n), (1, .int (iv 0)), (0, .ref ga)]) dX8_undirectedRing_12 (i := 2) rfl (by decide) rfl ?_
  refine r_iconst (pc := 13) (v := iv 0) dX8_undirectedRing_13 (by decide) ?_
  refine r_istore_n (pc := 14) (lv' := [(3, .int (iv 0)), (2, .ref n), (1, .int (iv 0)), (0, .ref ga)]) dX8_undirectedRing_14 (i := 3) rfl (by decide) rfl ?_
  have B15 : ∀ k : Nat, ∀ Rw15 : Nat → Int, ∀ hp15 : MH, Tw (ov Γ2 n (xI cI gn Rw15)) hp15 → ∀  (v15_1 : Int) (v15_3 : Int), 0 ≤ v15_1 ∧ v15_1 ≤ 17 ∧ 0 ≤ v15_3 ∧ v15_3 ≤ 60 ∧ (v15_3 ≤ (gm : Int)) ∧ (Rfx gn 0 65535 Rw15) ∧ (rwP Rw15 gn (joX gm F T (fun _ => True))) ∧ (lsI (rgW gm gdr F T) 0 v15_3 v15_1) → 60 - v15_3 ≤ (k : Int) → Rn (gG D cI cJ cZ cT lo b L xs) mX8_undirectedRing d 15 [(0, .ref ga), (1, .int (iv v15_1)), (2, .ref n), (3, .int (iv v15_3))] [] hp15 (n + 1) (1 - 1) (gn - gn) (fun r hp1 n1 => n1 = n + 1 ∧ Tw Γ hp1 ∧ ∃ v : Int, r = some (.int (iv v)) ∧ (0 ≤ v ∧ v ≤ 17) ∧ rgA gm gdr F T v) := by
    refine lpS _ ?_
    intro k15 ih15 Rw15 hp15 ht15 v15_1 v15_3 hf15 hm15
    obtain ⟨hf15_0, hf15_1, hf15_2, hf15_3, hf15_4, ha15_5, ha15_6, ha15_7⟩ := hf15
    refine r_iload_n (pc := 15) dX8_undirectedRing_15 (i := 3) rfl rfl ?_
    refine r_aload_n (pc := 16) dX8_undirectedRing_16 (i := 0) rfl rfl ?_
    refine t_getE (pc := 17) (.int (iv (gm : Int))) ht15 (rd_ov (by omega) (rd_ext hE3 hg_O)) fX8_31 dX8_undirectedRing_17 rfl ?_
    refine t_icmp_ge (pc := 20) (tgt := 55) dX8_undirectedRing_20 (by decide) (by omega) (by omega) (fun c20 => ?_) (fun c20 => ?_)
    · refine r_iload_n (pc := 55) dX8_undirectedRing_55 (i := 1) rfl rfl ?_
      exact r_iret (pc := 56) dX8_undirectedRing_56 rfl ⟨rfl, Tw_ext (Ext.ovn hE3 hnn) ht15, _, rfl, by omega, ls_e0 (by assumption : lsI (rgW gm gdr F T) 0 v15_3 v15_1) (by omega)⟩
    · refine r_aload_n (pc := 23) dX8_undirectedRing_23 (i := 0) rfl rfl ?_
      refine r_aload_n (pc := 24) dX8_undirectedRing_24 (i := 2) rfl rfl ?_
      refine r_iload_n (pc := 25) dX8_undirectedRing_25 (i := 3) rfl rfl ?_
      refine r_callS (pc := 26) (as := [.ref ga, .ref n, .int (iv v15_3)]) (st := []) kX8_68 dX8_undirectedRing_26 (c_X8_ringOverx (d := d - 1) (x2 := v15_3) (by omega) (TyG.ext hE3 hg) (XG.ext hE3 hxg) ⟨nE_i (by omega), nE_i (by omega), nE_i (by omega), nE_i (by omega), nE_i (by omega), nE_i (by omega), nE_i (by omega), nE_i (by omega), nE_i (by omega), nE_i (by omega), nE_i (by omega)⟩ (by assumption) (by assumption) ht15 (by omega) hgd) rfl (by omega) (Nat.le_of_ble_eq_true rfl) (Nat.zero_le _) (Nat.zero_le _) rfl (fun r6 hp7 n8 q9 => ?_)
      obtain ⟨hnn8, v26, fc26, hrr6, ht10, bv26, hR26, hrw26, hro26⟩ := q9
      subst n8 r6
      obtain ⟨hls1, hls2, hls3⟩ := ls_ro (by assumption : lsI (rgW gm gdr F T) 0 v15_3 v15_1) (by omega) hro26
      change Rn _ _ _ 29 _ [.int (iv v26)] _ _ _ _ _
      refine r_istore (pc := 29) (lv' := [(4, .int (iv v26)), (0, .ref ga), (1, .int (iv v15_1)), (2, .ref n), (3, .int (iv v15_3))]) dX8_undirectedRing_29 (by decide) rfl ?_
      refine r_iload (pc := 31) dX8_undirectedRing_31 rfl ?_
      refine t_if_le (pc := 33) (tgt := 49) dX8_undirectedRing_33 (by decide) (by omega) (fun c33 => ?_) (fun c33 => ?_)
      · have hls := hls1 (by omega)
        refine r_iinc (pc := 49) (v := iv (v15_3 + 1)) (lv' := [(3, .int (iv (v15_3 + 1))), (4, .int (iv v26)), (0, .ref ga), (1, .int (iv v15_1)), (2, .ref n)]) dX8_undirectedRing_49 rfl (iv_add _ _) (by decide) rfl ?_
        refine r_goto (pc := 52) (tgt := 15) dX8_undirectedRing_52 (by decide) ?_
        refine Rn.pick (lv' := [(0, .ref ga), (1, .int (iv v15_1)), (2, .ref n), (3, .int (iv (v15_3 + 1)))]) [2, 3, 4, 0] rfl ?_
        exact ih15 (Int.toNat (60 - (v15_3 + 1))) (by omega) fc26 _ ht10 v15_1 (v15_3 + 1) ⟨by omega, by omega, by omega, by omega, by omega, by (first | assumption | exact hrg_Jo), by (first | assumption | exact hjo), by (first | exact hls | exact lsI_0)⟩ (by omega)
      · refine r_iload_n (pc := 36) dX8_undirectedRing_36 (i := 1) rfl rfl ?_
        refine t_if_eq (pc := 37) (tgt := 46) dX8_undirectedRing_37 (by decide) (by omega) (fun c37 => ?_) (fun c37 => ?_)
        · refine r_iload (pc := 46) dX8_undirectedRing_46 rfl ?_
          refine r_istore_n (pc := 48) (lv' := [(1, .int (iv v26)), (4, .int (iv v26)), (0, .ref ga), (2, .ref n), (3, .int (iv v15_3))]) dX8_undirectedRing_48 (i := 1) rfl (by decide) rfl ?_
          have hls := hls2 (by omega) (by omega)
          refine r_iinc (pc := 49) (v := iv (v15_3 + 1)) (lv' := [(3, .int (iv (v15_3 + 1))), (1, .int (iv v26)), (4, .int (iv v26)), (0, .ref ga), (2, .ref n)]) dX8_undirectedRing_49 rfl (iv_add _ _) (by decide) rfl ?_
          refine r_goto (pc := 52) (tgt := 15) dX8_undirectedRing_52 (by decide) ?_
          refine Rn.pick (lv' := [(0, .ref ga), (1, .int (iv v26)), (2, .ref n), (3, .int (iv (v15_3 + 1)))]) [3, 1, 4, 0] rfl ?_
          exact ih15 (Int.toNat (60 - (v15_3 + 1))) (by omega) fc26 _ ht10 v26 (v15_3 + 1) ⟨by omega, by omega, by omega, by omega, by omega, by (first | assumption | exact hrg_Jo), by (first | assumption | exact hjo), by (first | exact hls | exact lsI_0)⟩ (by omega)
        · refine r_iload (pc := 40) dX8_undirectedRing_40 rfl ?_
          refine r_iload_n (pc := 42) dX8_undirectedRing_42 (i := 1) rfl rfl ?_
          refine t_icmp_ge (pc := 43) (tgt := 49) dX8_undirectedRing_43 (by decide) (by omega) (by omega) (fun c43 => ?_) (fun c43 => ?_)
          · have hls := hls3 (by omega) (by omega) (by omega)
            refine r_iinc (pc := 49) (v := iv (v15_3 + 1)) (lv' := [(3, .int (iv (v15_3 + 1))), (4, .int (iv v26)), (0, .ref ga), (1, .int (iv v15_1)), (2, .ref n)]) dX8_undirectedRing_49 rfl (iv_add _ _) (by decide) rfl ?_
            refine r_goto (pc := 52) (tgt := 15) dX8_undirectedRing_52 (by decide) ?_
            refine Rn.pick (lv' := [(0, .ref ga), (1, .int (iv v15_1)), (2, .ref n), (3, .int (iv (v15_3 + 1)))]) [2, 3, 4, 0] rfl ?_
            exact ih15 (Int.toNat (60 - (v15_3 + 1))) (by omega) fc26 _ ht10 v15_1 (v15_3 + 1) ⟨by omega, by omega, by omega, by omega, by omega, by (first | assumption | exact hrg_Jo), by (first | assumption | exact hjo), by (first | exact hls | exact lsI_0)⟩ (by omega)
          · refine r_iload (pc := 46) dX8_undirectedRing_46 rfl ?_
            refine r_istore_n (pc := 48) (lv' := [(1, .int (iv v26)), (4, .int (iv v26)), (0, .ref ga), (2, .ref n), (3, .int (iv v15_3))]) dX8_undirectedRing_48 (i := 1) rfl (by decide) rfl ?_
            have hls := hls2 (by omega) (by omega)
            refine r_iinc (pc := 49) (v := iv (v15_3 + 1)) (lv' := [(3, .int (iv (v15_3 + 1))), (1, .int (iv v26)), (4, .int (iv v26)), (0, .ref ga), (2, .ref n)]) dX8_undirectedRing_49 rfl (iv_add _ _) (by decide) rfl ?_
            refine r_goto (pc := 52) (tgt := 15) dX8_undirectedRing_52 (by decide) ?_
            refine Rn.pick (lv' := [(0, .ref ga), (1, .int (iv v26)), (2, .ref n), (3, .int (iv (v15_3 + 1)))]) [3, 1, 4, 0] rfl ?_
            exact ih15 (Int.toNat (60 - (v15_3 + 1))) (by omega) fc26 _ ht10 v26 (v15_3 + 1) ⟨by omega, by omega, by omega, by omega, by omega, by (first | assumption | exact hrg_Jo), by (first | assumption | exact hjo), by (first | exact hls | exact lsI_0)⟩ (by omega)
  refine Rn.pick (lv' := [(0, .ref ga), (1, .int (iv 0)), (2, .ref n), (3, .int (iv 0))]) [3, 2, 1, 0] rfl ?_
  exact B15 (Int.toNat (60 - 0)) Jo _ t8 0 0 ⟨by omega, by omega, by omega, by omega, by omega, by (first | assumption | exact hrg_Jo), by (first | assumption | exact hjo), by (first | exact hls | exact lsI_0)⟩ (by omega)
