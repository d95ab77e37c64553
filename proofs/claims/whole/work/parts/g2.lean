set_option maxHeartbeats 4000000 in
set_option maxRecDepth 100000 in
theorem c_X8_firstFreex {D : va_G} {cI cJ cZ cT : ClassId} {lo b L : Nat} {xs : Nat → Int32} {hp : MH} {n d : Nat} {Γ : TG} {ga : Nat} {gF : Nat} {gT : Nat} {gW : Nat} {gC : Nat} {gTl : Nat} {gHd : Nat} {gBy : Nat} {gOu : Nat} {gIn : Nat} {gJo : Nat} {gn : Nat} {gm : Nat} {gq : Nat} {gdr : Int} {F T W C Tl Hd By Ou In Jo : Nat → Int} {x1 : Int} (hd0 : 0 ≤ d) (hg : TyG Γ cI cJ cZ ga gF gT gW gC gTl gHd gBy gOu gIn gJo gn gm gq gdr) (hxg : XG Γ cI gF gT gW gC gTl gHd gBy gOu gIn gJo gn gm gq F T W C Tl Hd By Ou In Jo) (ht : Tw Γ hp) (hx1 : 0 ≤ x1 ∧ x1 ≤ 65535) : Mt (gG D cI cJ cZ cT lo b L xs) mX8_firstFree d 0 0 [.ref ga, .int (iv x1)] hp n (pI Γ n (fun r => ((-1 ≤ r ∧ r < (gn : Int)) ∧ (r < 0 → ∀ j : Nat, ¬ ffP In gn x1 j) ∧ (0 ≤ r → ffP In gn x1 (Int.toNat r) ∧ ∀ j : Nat, (j : Int) < r → ¬ ffP In gn x1 j)))) := by
  refine Mt.of rfl (Nat.le_of_ble_eq_true rfl) ?_
  refine Rn.pick (lv' := [(0, .ref ga), (1, .int (iv x1))]) [0, 1] rfl ?_
  obtain ⟨hg_O, hg_from, hg_to, hg_weight, hg_cost, hg_tail, hg_head, hg_by, hg_out, hg_in, hg_joined, hg_b⟩ := id hg
  obtain ⟨⟨hxg_F, hxg_T, hxg_W, hxg_C, hxg_Tl, hxg_Hd, hxg_By, hxg_Ou, hxg_In, hxg_Jo⟩, ⟨hrg_F, hrg_T, hrg_W, hrg_C, hrg_Tl, hrg_Hd, hrg_By, hrg_Ou, hrg_In, hrg_Jo⟩, houg⟩ := id hxg
  have hgb := hg_b
  refine r_iconst (pc := 0) (v := iv 0) dX8_firstFree_0 (by decide) ?_
  refine r_istore_n (pc := 1) (lv' := [(2, .int (iv 0)), (0, .ref ga), (1, .int (iv x1))]) dX8_firstFree_1 (i := 2) rfl (by decide) rfl ?_
  have B2 : ∀ k : Nat, ∀ hp2 : MH, Tw Γ hp2 → ∀  (v2_2 : Int), 0 ≤ v2_2 ∧ v2_2 ≤ 16 ∧ (v2_2 ≤ (gn : Int)) ∧ (ffI In gn x1 v2_2) → 16 - v2_2 ≤ (k : Int) → Rn (gG D cI cJ cZ cT lo b L xs) mX8_firstFree d 2 [(0, .ref ga), (1, .int (iv x1)), (2, .int (iv v2_2))] [] hp2 n 0 0 (pI Γ n (fun r => ((-1 ≤ r ∧ r < (gn : Int)) ∧ (r < 0 → ∀ j : Nat, ¬ ffP In gn x1 j) ∧ (0 ≤ r → ffP In gn x1 (Int.toNat r) ∧ ∀ j : Nat, (j : Int) < r → ¬ ffP In gn x1 j)))) := by
    refine lpS _ ?_
    intro k2 ih2 hp2 ht2 v2_2 hf2 hm2
    obtain ⟨hf2_0, hf2_1, hf2_2, ha2_3⟩ := hf2
    refine r_iload_n (pc := 2) dX8_firstFree_2 (i := 2) rfl rfl ?_
    refine r_aload_n (pc := 3) dX8_firstFree_3 (i := 0) rfl rfl ?_
    refine t_getE (pc := 4) (.int (iv (gn : Int))) ht2 hg_O fX8_35 dX8_firstFree_4 rfl ?_
    refine t_icmp_ge (pc := 7) (tgt := 39) dX8_firstFree_7 (by decide) (by omega) (by omega) (fun c7 => ?_) (fun c7 => ?_)
    · refine r_iconst (pc := 39) (v := iv (-1)) dX8_firstFree_39 (by decide) ?_
      exact r_iret (pc := 40) dX8_firstFree_40 rfl ⟨rfl, ht2, _, rfl, by exact ⟨by omega, fun _ j h9 => (by assumption : ffI In gn x1 v2_2) j (by have h8 := h9.1; omega) h9, fun h9 => absurd h9 (by omega)⟩⟩
    · refine r_iload_n (pc := 10) dX8_firstFree_10 (i := 1) rfl rfl ?_
      refine r_iload_n (pc := 11) dX8_firstFree_11 (i := 2) rfl rfl ?_
      have hq12_1 := shr_le (Int.toNat x1) (Int.toNat v2_2)
      refine r_ishr (pc := 12) (v := iv ((Int.toNat x1 >>> Int.toNat v2_2 : Nat) : Int)) dX8_firstFree_12 (shr_e (by omega) (by omega)) ?_
      refine r_iconst (pc := 13) (v := iv 1) dX8_firstFree_13 (by decide) ?_
      refine r_iand (pc := 14) (v := iv (((Int.toNat x1 >>> Int.toNat v2_2 : Nat) : Int) % 2)) dX8_firstFree_14 (and1_e _ (by omega)) ?_
      have mb14 := @Me_bit x1 v2_2
      refine t_if_ne (pc := 15) (tgt := 33) dX8_firstFree_15 (by decide) (by omega) (fun c15 => ?_) (fun c15 => ?_)
      · have pm15 : Me x1 (Int.toNat v2_2) := Me_bit.mp (by omega)
        have hff := ffI_up (by assumption : ffI In gn x1 v2_2) (by omega) (fun h9 => h9.2.1 pm15)
        refine r_iinc (pc := 33) (v := iv (v2_2 + 1)) (lv' := [(2, .int (iv (v2_2 + 1))), (0, .ref ga), (1, .int (iv x1))]) dX8_firstFree_33 rfl (iv_add _ _) (by decide) rfl ?_
        refine r_goto (pc := 36) (tgt := 2) dX8_firstFree_36 (by decide) ?_
        refine Rn.pick (lv' := [(0, .ref ga), (1, .int (iv x1)), (2, .int (iv (v2_2 + 1)))]) [1, 2, 0] rfl ?_
        exact ih2 (Int.toNat (16 - (v2_2 + 1))) (by omega) _ ht2 (v2_2 + 1) ⟨by omega, by omega, by omega, by (first | exact hff | exact ffI_0)⟩ (by omega)
      · have nm15 : ¬ Me x1 (Int.toNat v2_2) := fun h9 => absurd (Me_bit.mpr h9) (by omega)
        refine r_aload_n (pc := 18) dX8_firstFree_18 (i := 0) rfl rfl ?_
        refine t_getE (pc := 19) (.ref gIn) ht2 hg_O fX8_42 dX8_firstFree_19 rfl ?_
        refine r_iload_n (pc := 22) dX8_firstFree_22 (i := 2) rfl rfl ?_
        refine t_ialdX (pc := 23) (t0 := 0) ht2 hxg_In dX8_firstFree_23 rfl (by omega) (by omega) (fun b2 => ?_)
        have rb2 := (show Rfx gn 0 65535 In by assumption) (Int.toNat v2_2) (by omega)
        refine r_iload_n (pc := 24) dX8_firstFree_24 (i := 1) rfl rfl ?_
        refine r_iconst (pc := 25) (v := iv (-1)) dX8_firstFree_25 (by decide) ?_
        refine r_ixor (pc := 26) (v := iv (-x1 - 1)) dX8_firstFree_26 (iv_not _) ?_
        obtain ⟨z3, hz3, bz3⟩ := and_l (In (Int.toNat v2_2)) (-x1 - 1) (by omega) (by omega)
        refine r_iand (pc := 27) (v := iv z3) dX8_firstFree_27 hz3 ?_
        have mez3 := Me_not (y := x1) hz3 (by omega) (by omega) (by omega)
        refine t_if_ne (pc := 28) (tgt := 33) dX8_firstFree_28 (by decide) (by omega) (fun c28 => ?_) (fun c28 => ?_)
        · have hff := ffI_up (by assumption : ffI In gn x1 v2_2) (by omega) (fun h9 => by
            obtain ⟨i, hi⟩ := Me_ex (show 0 < z3 by omega)
            have h8 := (mez3 i).mp hi
            exact h8.2 (h9.2.2 i h8.1))
          refine r_iinc (pc := 33) (v := iv (v2_2 + 1)) (lv' := [(2, .int (iv (v2_2 + 1))), (0, .ref ga), (1, .int (iv x1))]) dX8_firstFree_33 rfl (iv_add _ _) (by decide) rfl ?_
          refine r_goto (pc := 36) (tgt := 2) dX8_firstFree_36 (by decide) ?_
          refine Rn.pick (lv' := [(0, .ref ga), (1, .int (iv x1)), (2, .int (iv (v2_2 + 1)))]) [1, 2, 0] rfl ?_
          exact ih2 (Int.toNat (16 - (v2_2 + 1))) (by omega) _ ht2 (v2_2 + 1) ⟨by omega, by omega, by omega, by (first | exact hff | exact ffI_0)⟩ (by omega)
        · have hfy : ffP In gn x1 (Int.toNat v2_2) := ⟨by omega, nm15, fun i hi => Classical.byContradiction (fun h9 => by
            have h8 := (mez3 i).mpr ⟨hi, h9⟩
            rw [show z3 = 0 by omega] at h8
            exact Me_0 i h8)⟩
          refine r_iload_n (pc := 31) dX8_firstFree_31 (i := 2) rfl rfl ?_
          exact r_iret (pc := 32) dX8_firstFree_32 rfl ⟨rfl, ht2, _, rfl, by exact ⟨by omega, fun h9 => absurd h9 (by omega), fun _ => ⟨hfy, by assumption⟩⟩⟩
  refine Rn.pick (lv' := [(0, .ref ga), (1, .int (iv x1)), (2, .int (iv 0))]) [1, 2, 0] rfl ?_
  exact B2 (Int.toNat (16 - 0)) _ ht 0 ⟨by omega, by omega, by omega, by (first | exact hff | exact ffI_0)⟩ (by omega)
set_option maxHeartbeats 4000000 in
set_option maxRecDepth 100000 in
theorem c_X8_orderx {D : va_G} {cI cJ cZ cT : ClassId} {lo b L : Nat} {xs : Nat → Int32} {hp : MH} {n d : Nat} {Γ : TG} {ga : Nat} {gF : Nat} {gT : Nat} {gW : Nat} {gC : Nat} {gTl : Nat} {gHd : Nat} {gBy : Nat} {gOu : Nat} {gIn : Nat} {gJo : Nat} {gn : Nat} {gm : Nat} {gq : Nat} {gdr : Int} {F T W C Tl Hd By Ou In Jo : Nat → Int} {x1 : Int} (hd0 : 1 ≤ d) (hg : TyG Γ cI cJ cZ ga gF gT gW gC gTl gHd gBy gOu gIn gJo gn gm gq gdr) (hxg : XG Γ cI gF gT gW gC gTl gHd gBy gOu gIn gJo gn gm gq F T W C Tl Hd By Ou In Jo) (ht : Tw Γ hp) (hx1 : 0 ≤ x1 ∧ x1 ≤ 15) (hxn : x1 < (gn : Int)) (hin9 : rwP In gn (fun i j => stP gm gdr F T j i)) : Mt (gG D cI cJ cZ cT lo b L xs) mX8_order d 0 0 [.ref ga, .int (iv x1)] hp n (pI Γ n (fun r => orA gm gdr F T gn (Int.toNat x1) r)) := by
  refine Mt.of rfl (Nat.le_of_ble_eq_true rfl) ?_
  refine Rn.pick (lv' := [(0, .ref ga), (1, .int (iv x1))]) [0, 1] rfl ?_
  obtain ⟨hg_O, hg_from, hg_to, hg_weight, hg_cost, hg_tail, hg_head, hg_by, hg_out, hg_in, hg_joined, hg_b⟩ := id hg
  obtain ⟨⟨hxg_F, hxg_T, hxg_W, hxg_C, hxg_Tl, hxg_Hd, hxg_By, hxg_Ou, hxg_In, hxg_Jo⟩, ⟨hrg_F, hrg_T, hrg_W, hrg_C, hrg_Tl, hrg_Hd, hrg_By, hrg_Ou, hrg_In, hrg_Jo⟩, houg⟩ := id hxg
  have hgb := hg_b
  have hF9 : ∀ k, k < gm → (0 ≤ F k ∧ F k < (gn : Int)) := fun k hk => by have h1 := hrg_F k hk; omega
  refine r_aload_n (pc := 0) dX8_order_0 (i := 0) rfl rfl ?_
  refine t_getE (pc := 1) (.int (iv gdr)) ht hg_O fX8_25 dX8_order_1 rfl ?_
  have B16 : ∀ hp16 : MH, Tw Γ hp16 → (¬ (gdr = 0 ∧ 0 < (gm : Int))) → Rn (gG D cI cJ cZ cT lo b L xs) mX8_order d 16 [(0, .ref ga), (1, .int (iv x1))] [] hp16 n 0 0 (pI Γ n (fun r => orA gm gdr F T gn (Int.toNat x1) r)) := by
    intro hp16 ht16 hf16
    refine r_iconst (pc := 16) (v := iv 0) dX8_order_16 (by decide) ?_
    refine r_istore_n (pc := 17) (lv' := [(2, .int (iv 0)), (0, .ref ga), (1, .int (iv x1))]) dX8_order_17 (i := 2) rfl (by decide) rfl ?_
    refine r_iconst (pc := 18) (v := iv (-1)) dX8_order_18 (by decide) ?_
    refine r_istore_n (pc := 19) (lv' := [(3, .int (iv (-1))), (2, .int (iv 0)), (0, .ref ga), (1, .int (iv x1))]) dX8_order_19 (i := 3) rfl (by decide) rfl ?_
    refine r_iconst (pc := 20) (v := iv 0) dX8_order_20 (by decide) ?_
    refine r_istore (pc := 21) (lv' := [(4, .int (iv 0)), (3, .int (iv (-1))), (2, .int (iv 0)), (0, .ref ga), (1, .int (iv x1))]) dX8_order_21 (by decide) rfl ?_
    have B23 : ∀ k : Nat, ∀ hp23 : MH, Tw Γ hp23 → ∀  (v23_2 : Int) (v23_3 : Int) (v23_4 : Int), 0 ≤ v23_2 ∧ v23_2 ≤ 65535 ∧ (-1) ≤ v23_3 ∧ v23_3 ≤ 15 ∧ 0 ≤ v23_4 ∧ v23_4 ≤ 16 ∧ (v23_4 ≤ (gn : Int)) ∧ (orJ gm F T gn (Int.toNat x1) v23_4 v23_2 v23_3) → 16 - v23_4 ≤ (k : Int) → Rn (gG D cI cJ cZ cT lo b L xs) mX8_order d 23 [(0, .ref ga), (1, .int (iv x1)), (2, .int (iv v23_2)), (3, .int (iv v23_3)), (4, .int (iv v23_4))] [] hp23 n 0 0 (pI Γ n (fun r => orA gm gdr F T gn (Int.toNat x1) r)) := by
      refine lpS _ ?_
      intro k23 ih23 hp23 ht23 v23_2 v23_3 v23_4 hf23 hm23
      obtain ⟨hf23_0, hf23_1, hf23_2, hf23_3, hf23_4, hf23_5, hf23_6, ha23_7⟩ := hf23
      refine r_iload (pc := 23) dX8_order_23 rfl ?_
      refine r_aload_n (pc := 25) dX8_order_25 (i := 0) rfl rfl ?_
      refine t_getE (pc := 26) (.int (iv (gn : Int))) ht23 hg_O fX8_35 dX8_order_26 rfl ?_
      refine t_icmp_ge (pc := 29) (tgt := 72) dX8_order_29 (by decide) (by omega) (by omega) (fun c29 => ?_) (fun c29 => ?_)
      · refine r_iload_n (pc := 72) dX8_order_72 (i := 3) rfl rfl ?_
        exact r_iret (pc := 73) dX8_order_73 rfl ⟨rfl, ht23, _, rfl, by exact orJ_end (fun h9 => by omega) (by omega) (by omega) (by assumption : orJ gm F T gn (Int.toNat x1) v23_4 v23_2 v23_3)⟩
      · refine r_aload_n (pc := 32) dX8_order_32 (i := 0) rfl rfl ?_
        refine r_iload_n (pc := 33) dX8_order_33 (i := 2) rfl rfl ?_
        refine t_callSI (pc := 34) (as := [.ref ga, .int (iv v23_2)]) (st := []) kX8_38 dX8_order_34 (c_X8_firstFreex (d := d - 1) (x1 := v23_2) (by omega) hg hxg ht23 (by omega) ) rfl (by omega) (Nat.le_of_ble_eq_true rfl) rfl (fun hp2 y1 ht3 by1 => ?_)
        have fy1 : ((-1 ≤ y1 ∧ y1 < (gn : Int)) ∧ (y1 < 0 → ∀ j : Nat, ¬ ffP In gn v23_2 j) ∧ (0 ≤ y1 → ffP In gn v23_2 (Int.toNat y1) ∧ ∀ j : Nat, (j : Int) < y1 → ¬ ffP In gn v23_2 j)) := by1
        obtain ⟨hq1, hq2, hq3⟩ := fy1
        refine r_istore (pc := 37) (lv' := [(5, .int (iv y1)), (0, .ref ga), (1, .int (iv x1)), (2, .int (iv v23_2)), (3, .int (iv v23_3)), (4, .int (iv v23_4))]) dX8_order_37 (by decide) rfl ?_
        refine r_iload (pc := 39) dX8_order_39 rfl ?_
        refine t_if_ge (pc := 41) (tgt := 46) dX8_order_41 (by decide) (by omega) (fun c41 => ?_) (fun c41 => ?_)
        · refine r_iload_n (pc := 46) dX8_order_46 (i := 2) rfl rfl ?_
          refine r_iconst (pc := 47) (v := iv 1) dX8_order_47 (by decide) ?_
          refine r_iload (pc := 48) dX8_order_48 rfl ?_
          refine r_ishl (pc := 50) (v := iv ((2 ^ Int.toNat y1 : Nat) : Int)) dX8_order_50 (shl_e (by omega)) ?_
          have mp50_4 : 1 ≤ 2 ^ Int.toNat y1 := Nat.one_le_two_pow
          have mq50_5 : 2 ^ Int.toNat y1 ≤ 2 ^ 15 := Nat.pow_le_pow_right (by omega) (by omega)
          have ms50 := Me_shl (Int.toNat y1)
          obtain ⟨z6, hz6, bz6⟩ := or_2 16 v23_2 ((2 ^ Int.toNat y1 : Nat) : Int) (by omega) (by omega) (by decide)
          refine r_ior (pc := 51) (v := iv z6) dX8_order_51 hz6 ?_
          have mez6 := Me_or hz6 (by omega) (by omega) (by omega)
          have hz9 : ∀ i, Me z6 i ↔ Me v23_2 i ∨ i = Int.toNat y1 := fun i => by rw [mez6 i, ms50 i]
          refine r_istore_n (pc := 52) (lv' := [(2, .int (iv z6)), (5, .int (iv y1)), (0, .ref ga), (1, .int (iv x1)), (3, .int (iv v23_3)), (4, .int (iv v23_4))]) dX8_order_52 (i := 2) rfl (by decide) rfl ?_
          refine r_iload (pc := 53) dX8_order_53 rfl ?_
          refine r_iload_n (pc := 55) dX8_order_55 (i := 1) rfl rfl ?_
          refine t_icmp_ne (pc := 56) (tgt := 64) dX8_order_56 (by decide) (by omega) (by omega) (fun c56 => ?_) (fun c56 => ?_)
          · refine r_iload_n (pc := 64) dX8_order_64 (i := 3) rfl rfl ?_
            refine r_istore_n (pc := 65) (lv' := [(3, .int (iv v23_3)), (2, .int (iv z6)), (5, .int (iv y1)), (0, .ref ga), (1, .int (iv x1)), (4, .int (iv v23_4))]) dX8_order_65 (i := 3) rfl (by decide) rfl ?_
            have hor : orJ gm F T gn (Int.toNat x1) (v23_4 + 1) z6 v23_3 := orJ_st (fun h9 => by omega) hin9 hF9 (by omega) (by assumption : orJ gm F T gn (Int.toNat x1) v23_4 v23_2 v23_3) (by omega) (hq3 (by omega)).1 (hq3 (by omega)).2 hz9 (Or.inr ⟨by omega, rfl⟩)
            refine r_iinc (pc := 66) (v := iv (v23_4 + 1)) (lv' := [(4, .int (iv (v23_4 + 1))), (3, .int (iv v23_3)), (2, .int (iv z6)), (5, .int (iv y1)), (0, .ref ga), (1, .int (iv x1))]) dX8_order_66 rfl (iv_add _ _) (by decide) rfl ?_
            refine r_goto (pc := 69) (tgt := 23) dX8_order_69 (by decide) ?_
            refine Rn.pick (lv' := [(0, .ref ga), (1, .int (iv x1)), (2, .int (iv z6)), (3, .int (iv v23_3)), (4, .int (iv (v23_4 + 1)))]) [4, 5, 2, 1, 0] rfl ?_
            exact ih23 (Int.toNat (16 - (v23_4 + 1))) (by omega) _ ht3 z6 v23_3 (v23_4 + 1) ⟨by omega, by omega, by omega, by omega, by omega, by omega, by omega, by (first | exact hor | exact orJ_0)⟩ (by omega)
          · refine r_iload (pc := 59) dX8_order_59 rfl ?_
            refine r_goto (pc := 61) (tgt := 65) dX8_order_61 (by decide) ?_
            refine r_istore_n (pc := 65) (lv' := [(3, .int (iv y1)), (2, .int (iv z6)), (5, .int (iv y1)), (0, .ref ga), (1, .int (iv x1)), (4, .int (iv v23_4))]) dX8_order_65 (i := 3) rfl (by decide) rfl ?_
            have hor : orJ gm F T gn (Int.toNat x1) (v23_4 + 1) z6 y1 := orJ_st (fun h9 => by omega) hin9 hF9 (by omega) (by assumption : orJ gm F T gn (Int.toNat x1) v23_4 v23_2 v23_3) (by omega) (hq3 (by omega)).1 (hq3 (by omega)).2 hz9 (Or.inl ⟨by omega, rfl⟩)
            refine r_iinc (pc := 66) (v := iv (v23_4 + 1)) (lv' := [(4, .int (iv (v23_4 + 1))), (3, .int (iv y1)), (2, .int (iv z6)), (5, .int (iv y1)), (0, .ref ga), (1, .int (iv x1))]) dX8_order_66 rfl (iv_add _ _) (by decide) rfl ?_
            refine r_goto (pc := 69) (tgt := 23) dX8_order_69 (by decide) ?_
            refine Rn.pick (lv' := [(0, .ref ga), (1, .int (iv x1)), (2, .int (iv z6)), (3, .int (iv y1)), (4, .int (iv (v23_4 + 1)))]) [4, 5, 2, 1, 0] rfl ?_
            exact ih23 (Int.toNat (16 - (v23_4 + 1))) (by omega) _ ht3 z6 y1 (v23_4 + 1) ⟨by omega, by omega, by omega, by omega, by omega, by omega, by omega, by (first | exact hor | exact orJ_0)⟩ (by omega)
        · refine r_iconst (pc := 44) (v := iv (-1)) dX8_order_44 (by decide) ?_
          exact r_iret (pc := 45) dX8_order_45 rfl ⟨rfl, ht3, _, rfl, by exact orJ_no (fun h9 => by omega) hin9 hF9 (by omega) (by assumption : orJ gm F T gn (Int.toNat x1) v23_4 v23_2 v23_3) (hq2 (by omega))⟩
    refine Rn.pick (lv' := [(0, .ref ga), (1, .int (iv x1)), (2, .int (iv 0)), (3, .int (iv (-1))), (4, .int (iv 0))]) [3, 4, 2, 1, 0] rfl ?_
    exact B23 (Int.toNat (16 - 0)) _ ht16 0 (-1) 0 ⟨by omega, by omega, by omega, by omega, by omega, by omega, by omega, by (first | exact hor | exact orJ_0)⟩ (by omega)
  refine t_if_ne (pc := 4) (tgt := 16) dX8_order_4 (by decide) (by omega) (fun c4 => ?_) (fun c4 => ?_)
  · refine Rn.pick (lv' := [(0, .ref ga), (1, .int (iv x1))]) [0, 1] rfl ?_
    exact B16 _ ht (by omega)
  · refine r_aload_n (pc := 7) dX8_order_7 (i := 0) rfl rfl ?_
    refine t_getE (pc := 8) (.int (iv (gm : Int))) ht hg_O fX8_31 dX8_order_8 rfl ?_
    refine t_if_le (pc := 11) (tgt := 16) dX8_order_11 (by decide) (by omega) (fun c11 => ?_) (fun c11 => ?_)
    · refine Rn.pick (lv' := [(0, .ref ga), (1, .int (iv x1))]) [0, 1] rfl ?_
      exact B16 _ ht (by omega)
    · refine r_iconst (pc := 14) (v := iv (-1)) dX8_order_14 (by decide) ?_
      exact r_iret (pc := 15) dX8_order_15 rfl ⟨rfl, ht, _, rfl, by exact Or.inl ⟨by omega, by omega, rfl⟩⟩
