set_option maxHeartbeats 4000000 in
set_option maxRecDepth 100000 in
theorem c_X8_blocksx {D : va_G} {cI cJ cZ cT : ClassId} {lo b L : Nat} {xs : Nat → Int32} {hp : MH} {n d : Nat} {Γ : TG} {ga : Nat} {gF : Nat} {gT : Nat} {gW : Nat} {gC : Nat} {gTl : Nat} {gHd : Nat} {gBy : Nat} {gOu : Nat} {gIn : Nat} {gJo : Nat} {gn : Nat} {gm : Nat} {gq : Nat} {gdr : Int} {F T W C Tl Hd By Ou In Jo : Nat → Int} {x1 : Int} (hd0 : 2 ≤ d) (hg : TyG Γ cI cJ cZ ga gF gT gW gC gTl gHd gBy gOu gIn gJo gn gm gq gdr) (hxg : XG Γ cI gF gT gW gC gTl gHd gBy gOu gIn gJo gn gm gq F T W C Tl Hd By Ou In Jo) (ht : Tw Γ hp) (hx1 : 0 ≤ x1 ∧ x1 ≤ 15) (hxn : x1 < (gn : Int)) (hjo : rwP Jo gn (joX gm F T (fun _ => True))) : Mt (gG D cI cJ cZ cT lo b L xs) mX8_blocks d 0 0 [.ref ga, .int (iv x1)] hp n (pI Γ n (fun r => ((0 ≤ r ∧ r ≤ 16) ∧ r = (cnP (pcM (joX gm F T (fun _ => True)) (Int.toNat x1)) gn : Int)))) := by
  refine Mt.of rfl (Nat.le_of_ble_eq_true rfl) ?_
  refine Rn.pick (lv' := [(0, .ref ga), (1, .int (iv x1))]) [0, 1] rfl ?_
  obtain ⟨hg_O, hg_from, hg_to, hg_weight, hg_cost, hg_tail, hg_head, hg_by, hg_out, hg_in, hg_joined, hg_b⟩ := id hg
  obtain ⟨⟨hxg_F, hxg_T, hxg_W, hxg_C, hxg_Tl, hxg_Hd, hxg_By, hxg_Ou, hxg_In, hxg_Jo⟩, ⟨hrg_F, hrg_T, hrg_W, hrg_C, hrg_Tl, hrg_Hd, hrg_By, hrg_Ou, hrg_In, hrg_Jo⟩, houg⟩ := id hxg
  have hgb := hg_b
  refine r_aload_n (pc := 0) dX8_blocks_0 (i := 0) rfl rfl ?_
  refine t_getE (pc := 1) (.ref gJo) ht hg_O fX8_60 dX8_blocks_1 rfl ?_
  refine r_iconst (pc := 4) (v := iv 1) dX8_blocks_4 (by decide) ?_
  refine r_iload_n (pc := 5) dX8_blocks_5 (i := 1) rfl rfl ?_
  refine r_ishl (pc := 6) (v := iv ((2 ^ Int.toNat x1 : Nat) : Int)) dX8_blocks_6 (shl_e (by omega)) ?_
  have mp6_1 : 1 ≤ 2 ^ Int.toNat x1 := Nat.one_le_two_pow
  have mq6_2 : 2 ^ Int.toNat x1 ≤ 2 ^ 15 := Nat.pow_le_pow_right (by omega) (by omega)
  have ms6 := Me_shl (Int.toNat x1)
  refine r_aload_n (pc := 7) dX8_blocks_7 (i := 0) rfl rfl ?_
  refine t_callVI (pc := 8) (as := []) (st := [.int (iv ((2 ^ Int.toNat x1 : Nat) : Int)), .ref gJo]) ht hg_O kX8_86 rfl dX8_blocks_8 (c_X3_allNodesx (d := d - 1)  (by omega) hg hxg ht  ) rfl (by omega) (Nat.le_of_ble_eq_true rfl) rfl (fun hp4 y3 ht5 by3 => ?_)
  have fy3 : (y3 = ((2 ^ gn : Nat) : Int) - 1) := by3
  have ey8 : y3 = ((2 ^ gn : Nat) : Int) - 1 := fy3
  subst ey8
  have mpa8 : 1 ≤ 2 ^ gn := Nat.one_le_two_pow
  have mqa8 : 2 ^ gn ≤ 2 ^ 16 := Nat.pow_le_pow_right (by omega) (by omega)
  refine t_callSI (pc := 11) (as := [.ref gJo, .int (iv ((2 ^ Int.toNat x1 : Nat) : Int)), .int (iv (((2 ^ gn : Nat) : Int) - 1))]) (st := []) kX8_90 dX8_blocks_11 (t_X8_reachx (d := d - 1) (Nx := Jo) (rL := gn) (x1 := ((2 ^ Int.toNat x1 : Nat) : Int)) (x2 := (((2 ^ gn : Nat) : Int) - 1)) (by omega) hxg_Jo hrg_Jo (by omega) ht5 (by omega) (by omega)) rfl (by omega) (Nat.le_of_ble_eq_true rfl) rfl (fun hp7 y6 ht8 by6 => ?_)
  obtain ⟨by61, hrx11⟩ := by6
  have hE11 := fun j => rx_all (v := Int.toNat x1) hrx11 hjo ms6 (by omega) j
  refine r_iconst (pc := 14) (v := iv 1) dX8_blocks_14 (by decide) ?_
  refine r_iload_n (pc := 15) dX8_blocks_15 (i := 1) rfl rfl ?_
  refine r_ishl (pc := 16) (v := iv ((2 ^ Int.toNat x1 : Nat) : Int)) dX8_blocks_16 (shl_e (by omega)) ?_
  have mp16_9 : 1 ≤ 2 ^ Int.toNat x1 := Nat.one_le_two_pow
  have mq16_10 : 2 ^ Int.toNat x1 ≤ 2 ^ 15 := Nat.pow_le_pow_right (by omega) (by omega)
  have ms16 := Me_shl (Int.toNat x1)
  refine r_iconst (pc := 17) (v := iv (-1)) dX8_blocks_17 (by decide) ?_
  refine r_ixor (pc := 18) (v := iv (-((2 ^ Int.toNat x1 : Nat) : Int) - 1)) dX8_blocks_18 (iv_not _) ?_
  obtain ⟨z11, hz11, bz11⟩ := and_l y6 (-((2 ^ Int.toNat x1 : Nat) : Int) - 1) (by omega) (by omega)
  refine r_iand (pc := 19) (v := iv z11) dX8_blocks_19 hz11 ?_
  have mez11 := Me_not (y := ((2 ^ Int.toNat x1 : Nat) : Int)) hz11 (by omega) (by omega) (by omega)
  have hb19 := bq_0 (n := gn) hE11 ms16 mez11
  refine r_istore_n (pc := 20) (lv' := [(2, .int (iv z11)), (0, .ref ga), (1, .int (iv x1))]) dX8_blocks_20 (i := 2) rfl (by decide) rfl ?_
  refine r_iconst (pc := 21) (v := iv 0) dX8_blocks_21 (by decide) ?_
  refine r_istore_n (pc := 22) (lv' := [(3, .int (iv 0)), (2, .int (iv z11)), (0, .ref ga), (1, .int (iv x1))]) dX8_blocks_22 (i := 3) rfl (by decide) rfl ?_
  refine r_iconst (pc := 23) (v := iv 0) dX8_blocks_23 (by decide) ?_
  refine r_istore (pc := 24) (lv' := [(4, .int (iv 0)), (3, .int (iv 0)), (2, .int (iv z11)), (0, .ref ga), (1, .int (iv x1))]) dX8_blocks_24 (by decide) rfl ?_
  have B26 : ∀ k : Nat, ∀ hp26 : MH, Tw Γ hp26 → ∀  (v26_2 : Int) (v26_3 : Int) (v26_4 : Int), 0 ≤ v26_2 ∧ v26_2 ≤ 65535 ∧ v26_2 ≤ z11 ∧ 0 ≤ v26_3 ∧ v26_3 ≤ 16 ∧ 0 ≤ v26_4 ∧ v26_4 ≤ 16 ∧ (v26_3 ≤ v26_4) ∧ (bqP (joX gm F T (fun _ => True)) gn (Int.toNat x1) v26_2 v26_3 v26_4) → 16 - v26_3 ≤ (k : Int) → Rn (gG D cI cJ cZ cT lo b L xs) mX8_blocks d 26 [(0, .ref ga), (2, .int (iv v26_2)), (3, .int (iv v26_3)), (4, .int (iv v26_4))] [] hp26 n 0 0 (pI Γ n (fun r => ((0 ≤ r ∧ r ≤ 16) ∧ r = (cnP (pcM (joX gm F T (fun _ => True)) (Int.toNat x1)) gn : Int)))) := by
    refine lpS _ ?_
    intro k26 ih26 hp26 ht26 v26_2 v26_3 v26_4 hf26 hm26
    obtain ⟨hf26_0, hf26_1, hf26_2, hf26_3, hf26_4, hf26_5, hf26_6, hf26_7, ha26_8⟩ := hf26
    refine r_iload (pc := 26) dX8_blocks_26 rfl ?_
    refine r_bipush (pc := 28) (v := iv 16) dX8_blocks_28 (by decide) ?_
    refine t_icmp_ge (pc := 30) (tgt := 63) dX8_blocks_30 (by decide) (by omega) (by omega) (fun c30 => ?_) (fun c30 => ?_)
    · refine r_iload_n (pc := 63) dX8_blocks_63 (i := 3) rfl rfl ?_
      exact r_iret (pc := 64) dX8_blocks_64 rfl ⟨rfl, ht26, _, rfl, by exact ⟨by omega, bq_end (by assumption) (by omega) (by omega)⟩⟩
    · refine r_iload_n (pc := 33) dX8_blocks_33 (i := 2) rfl rfl ?_
      refine t_if_eq (pc := 34) (tgt := 63) dX8_blocks_34 (by decide) (by omega) (fun c34 => ?_) (fun c34 => ?_)
      · refine r_iload_n (pc := 63) dX8_blocks_63 (i := 3) rfl rfl ?_
        exact r_iret (pc := 64) dX8_blocks_64 rfl ⟨rfl, ht26, _, rfl, by exact ⟨by omega, bq_end (by assumption) (by omega) (by omega)⟩⟩
      · refine r_iload_n (pc := 37) dX8_blocks_37 (i := 2) rfl rfl ?_
        refine r_aload_n (pc := 38) dX8_blocks_38 (i := 0) rfl rfl ?_
        refine t_getE (pc := 39) (.ref gJo) ht26 hg_O fX8_60 dX8_blocks_39 rfl ?_
        refine r_iload_n (pc := 42) dX8_blocks_42 (i := 2) rfl rfl ?_
        refine r_iload_n (pc := 43) dX8_blocks_43 (i := 2) rfl rfl ?_
        refine r_ineg (pc := 44) (v := iv (-v26_2)) dX8_blocks_44 (iv_neg _) ?_
        obtain ⟨z12, hz12, bz12⟩ := and_l v26_2 (-v26_2) (by omega) (by omega)
        refine r_iand (pc := 45) (v := iv z12) dX8_blocks_45 hz12 ?_
        have mez12 := Me_low hz12 (by omega) (by omega)
        obtain ⟨u45, hz45, hm45, hn45⟩ := mez12.2 (by omega)
        refine r_iload_n (pc := 46) dX8_blocks_46 (i := 2) rfl rfl ?_
        refine t_callSI (pc := 47) (as := [.ref gJo, .int (iv z12), .int (iv v26_2)]) (st := [.int (iv v26_2)]) kX8_90 dX8_blocks_47 (t_X8_reachx (d := d - 1) (Nx := Jo) (rL := gn) (x1 := z12) (x2 := v26_2) (by omega) hxg_Jo hrg_Jo (by omega) ht26 (by omega) (by omega)) rfl (by omega) (Nat.le_of_ble_eq_true rfl) rfl (fun hp14 y13 ht15 by13 => ?_)
        obtain ⟨by131, hrx47⟩ := by13
        refine r_iconst (pc := 50) (v := iv (-1)) dX8_blocks_50 (by decide) ?_
        refine r_ixor (pc := 51) (v := iv (-y13 - 1)) dX8_blocks_51 (iv_not _) ?_
        obtain ⟨z16, hz16, bz16⟩ := and_l v26_2 (-y13 - 1) (by omega) (by omega)
        refine r_iand (pc := 52) (v := iv z16) dX8_blocks_52 hz16 ?_
        have mez16 := Me_not (y := y13) hz16 (by omega) (by omega) (by omega)
        have hb52 := bq_st (by assumption : bqP (joX gm F T (fun _ => True)) gn (Int.toNat x1) v26_2 v26_3 v26_4) joX_sym hjo.2 (by omega) (fun i => by rw [hz45]; exact Me_shl u45 i) hm45 (fun w hw => Nat.le_of_not_lt (fun h9 => hn45 w h9 hw)) (fun j => rx_RC hrx47 hjo j) mez16 (by omega)
        refine r_istore_n (pc := 53) (lv' := [(2, .int (iv z16)), (0, .ref ga), (3, .int (iv v26_3)), (4, .int (iv v26_4))]) dX8_blocks_53 (i := 2) rfl (by decide) rfl ?_
        refine r_iinc (pc := 54) (v := iv (v26_3 + 1)) (lv' := [(3, .int (iv (v26_3 + 1))), (2, .int (iv z16)), (0, .ref ga), (4, .int (iv v26_4))]) dX8_blocks_54 rfl (iv_add _ _) (by decide) rfl ?_
        refine r_iinc (pc := 57) (v := iv (v26_4 + 1)) (lv' := [(4, .int (iv (v26_4 + 1))), (3, .int (iv (v26_3 + 1))), (2, .int (iv z16)), (0, .ref ga)]) dX8_blocks_57 rfl (iv_add _ _) (by decide) rfl ?_
        refine r_goto (pc := 60) (tgt := 26) dX8_blocks_60 (by decide) ?_
        refine Rn.pick (lv' := [(0, .ref ga), (2, .int (iv z16)), (3, .int (iv (v26_3 + 1))), (4, .int (iv (v26_4 + 1)))]) [3, 2, 1, 0] rfl ?_
        exact ih26 (Int.toNat (16 - (v26_3 + 1))) (by omega) _ ht15 z16 (v26_3 + 1) (v26_4 + 1) ⟨by omega, by omega, by omega, by omega, by omega, by omega, by omega, by omega, by (first | exact hb52 | exact hb19)⟩ (by omega)
  refine Rn.pick (lv' := [(0, .ref ga), (2, .int (iv z11)), (3, .int (iv 0)), (4, .int (iv 0))]) [3, 2, 1, 0] rfl ?_
  exact B26 (Int.toNat (16 - 0)) _ ht8 z11 0 0 ⟨by omega, by omega, by omega, by omega, by omega, by omega, by omega, by omega, by (first | exact hb52 | exact hb19)⟩ (by omega)
